/-! the class: the equations of a house -/
theorem effH_01 {f : Int → Int} (h : Wf f) {k j : Int} (k0 : 0 ≤ k) (k1 : k < 8) : (effH f k j = -1 ∨ effH f k j = 0 ∨ effH f k j = 1) ∧ 0 ≤ magH f k j ∧ magH f k j ≤ 18 ∧ ((effH f k j = 0 ∨ 9 ≤ magH f k j)) := by
  have a := bit_01 (u := tc f j 0) (k := k) (h.up j) k0 k1
  have b := bit_01 (u := tc f j 1) (k := k) (h.dn j) k0 k1
  unfold effH magH
  omega
theorem rchH_b {f : Int → Int} (h : Wf f) {k : Int} (k0 : 0 ≤ k) (k1 : k < 8) {n s : Int} (n4 : n ≤ 4) (s0 : 0 ≤ s) (s1 : s < n) {v : Int → Int} (hv : ∀ j, s < j → j < n → -9 ≤ v j ∧ v j ≤ 9) : (0 ≤ rchH f k n s ∧ rchH f k n s ≤ 72) ∧ ((sumZ (fun j => effH f k j * v j) n - sumZ (fun j => effH f k j * v j) (s + 1)).natAbs : Int) ≤ rchH f k n s := by
  have H : ∀ m : Nat, s + 1 + (m : Int) ≤ n → (0 ≤ sumZ (magH f k) (s + 1 + m) - sumZ (magH f k) (s + 1) ∧ sumZ (magH f k) (s + 1 + m) - sumZ (magH f k) (s + 1) ≤ 18 * (m : Int)) ∧ ((sumZ (fun j => effH f k j * v j) (s + 1 + m) - sumZ (fun j => effH f k j * v j) (s + 1)).natAbs : Int) ≤ sumZ (magH f k) (s + 1 + m) - sumZ (magH f k) (s + 1) := by
    intro m
    induction m with
    | zero =>
      intro _
      rw [show s + 1 + ((0 : Nat) : Int) = s + 1 by omega]
      omega
    | succ m ih =>
      intro hm
      have a := ih (by omega)
      have e1 := sumZ_s (magH f k) (i := s + 1 + (m : Int)) (by omega)
      have e2 := sumZ_s (fun j => effH f k j * v j) (i := s + 1 + (m : Int)) (by omega)
      have e3 := effH_01 h (k := k) (j := s + 1 + (m : Int)) k0 k1
      have e4 := mul_01 (b := v (s + 1 + (m : Int))) e3.1
      have e5 := hv (s + 1 + (m : Int)) (by omega) (by omega)
      rw [show s + 1 + (((m + 1 : Nat) : Int)) = s + 1 + (m : Int) + 1 by omega, e1, e2]
      omega
  have := H (n - (s + 1)).toNat (by omega)
  rw [show s + 1 + (((n - (s + 1)).toNat : Nat) : Int) = n by omega] at this
  unfold rchH
  omega
def okH (f : Int → Int) (i : Int) (v : Int → Int) : Prop := ∀ k, 0 ≤ k → k < i → 0 ≤ sc f k 6 → sc f k 6 - sc f k 0 = sumZ (fun j => effH f k j * v j) (f 1)
def EQ (M M1 : gMem) (i : Int) : Prop := (∀ k, k ≠ 10 → k ≠ 11 → k ≠ 12 → k ≠ 13 → M1 k = M k) ∧ (∀ q, q ≠ 5 → q ≠ 6 → M1 10 q = M 10 q) ∧ M1 10 6 = M 2 1 ∧ (0 ≤ M1 10 5 ∧ M1 10 5 ≤ i) ∧ EqR (M1 10 6) (M1 10 5) (M1 12) (M1 13) (M1 11) ∧ ∀ v, okE (M1 10 6) (M1 10 5) (M1 11) (effM (M1 12)) v ↔ okH (M 2) i v
theorem EQ_no {M M1 : gMem} {i : Int} (h : EQ M M1 i) (ht : ¬ 0 ≤ sc (M 2) i 6) : EQ M M1 (i + 1) := by
  obtain ⟨h1, h2, h3, h4, h5, h6⟩ := h
  refine ⟨h1, h2, h3, by omega, h5, fun v => (h6 v).trans ⟨fun a k p q r => ?_, fun a k p q r => a k p (by omega) r⟩⟩
  by_cases z : k = i
  · rw [z] at r; exact absurd r ht
  · exact a k p (by omega) r
theorem EQ_yes {M M1 M5 : gMem} {i : Int} (hW : Wf (M 2)) (h : EQ M M1 i) (i0 : 0 ≤ i) (i1 : i < M 2 0) (ht : 0 ≤ sc (M 2) i 6)
    (f0 : ∀ k, k ≠ 10 → k ≠ 11 → k ≠ 12 → k ≠ 13 → M5 k = M1 k) (g10 : M5 10 = updI (M1 10) 5 (M1 10 5 + 1)) (g11 : M5 11 = updI (M1 11) (M1 10 5) (sc (M 2) i 6 - sc (M 2) i 0)) (g12 : M5 12 = weF (M1 12) (effH (M 2) i) (M1 10 5) 0 (M1 10 6)) (g13 : M5 13 = weF (M1 13) (rchH (M 2) i (M1 10 6)) (M1 10 5) 0 (M1 10 6)) : EQ M M5 (i + 1) := by
  obtain ⟨h1, h2, h3, h4, h5, h6⟩ := h
  have hn := hW.n
  have t := hW.to i
  have hh := hW.ht i
  have r5 : M5 10 5 = M1 10 5 + 1 := by rw [g10, updI_s]
  have r6 : M5 10 6 = M1 10 6 := by rw [g10, updI_n (by decide)]
  have n4 := h5.n4
  have hE : 0 ≤ M1 10 5 ∧ M1 10 5 < 8 := by omega
  have eo : ∀ j e, 0 ≤ e → e < M1 10 5 → effM (M5 12) j e = effM (M1 12) j e := fun j e p q => by
    show M5 12 (j * 8 + e) = M1 12 (j * 8 + e)
    rw [g12]
    exact weF_out hE (by omega) (by omega)
  have ro : ∀ j e, 0 ≤ e → e < M1 10 5 → effM (M5 13) j e = effM (M1 13) j e := fun j e p q => by
    show M5 13 (j * 8 + e) = M1 13 (j * 8 + e)
    rw [g13]
    exact weF_out hE (by omega) (by omega)
  have en : ∀ j, 0 ≤ j → j < M1 10 6 → effM (M5 12) j (M1 10 5) = effH (M 2) i j := fun j p q => by
    show M5 12 (j * 8 + M1 10 5) = _
    rw [g12]
    exact weF_in hE p q
  have rn : ∀ j, 0 ≤ j → j < M1 10 6 → effM (M5 13) j (M1 10 5) = rchH (M 2) i (M1 10 6) j := fun j p q => by
    show M5 13 (j * 8 + M1 10 5) = _
    rw [g13]
    exact weF_in hE p q
  have so : ∀ v e m, 0 ≤ e → e < M1 10 5 → effS (effM (M5 12)) v e m = effS (effM (M1 12)) v e m := fun v e m p q => sumZ_c (fun j _ _ => by rw [eo j e p q])
  have sn : ∀ v m, m ≤ M1 10 6 → effS (effM (M5 12)) v (M1 10 5) m = sumZ (fun j => effH (M 2) i j * v j) m := fun v m hm => sumZ_c (fun j p q => by rw [en j p (by omega)])
  refine ⟨fun k a b c d => (f0 k a b c d).trans (h1 k a b c d), fun q a b => by rw [g10, updI_n a]; exact h2 q a b, r6.trans h3, by omega, ?_, fun v => ?_⟩
  · rw [r5, r6]
    refine ⟨by omega, h5.n4, fun j e j0 j1 p q => ?_, fun j e j0 j1 p q => ?_, fun s e v s0 s1 p q hv => ?_, fun e p q => ?_⟩
    · by_cases z : e = M1 10 5
      · rw [z, en j j0 j1]; exact (effH_01 hW i0 (by omega)).1
      · rw [eo j e p (by omega)]; exact h5.ef j e j0 j1 p (by omega)
    · by_cases z : e = M1 10 5
      · rw [z, rn j j0 j1]; exact (rchH_b hW i0 (by omega) n4.2 j0 j1 (v := fun _ => 0) (fun _ _ _ => by decide)).1
      · rw [ro j e p (by omega)]; exact h5.rc j e j0 j1 p (by omega)
    · by_cases z : e = M1 10 5
      · rw [z, rn s s0 s1, sn v _ (Int.le_refl _), sn v _ (by omega)]
        exact (rchH_b hW i0 (by omega) n4.2 s0 s1 hv).2
      · rw [ro s e p (by omega), so v e _ p (by omega), so v e _ p (by omega)]
        exact h5.rr s e v s0 s1 p (by omega) hv
    · by_cases z : e = M1 10 5
      · rw [z, g11, updI_s]; omega
      · rw [g11, updI_n z]; exact h5.nb e p (by omega)
  · have key : okE (M5 10 6) (M5 10 5) (M5 11) (effM (M5 12)) v ↔ okE (M1 10 6) (M1 10 5) (M1 11) (effM (M1 12)) v ∧ sc (M 2) i 6 - sc (M 2) i 0 = sumZ (fun j => effH (M 2) i j * v j) (M 2 1) := by
      rw [r5, r6, ← h3]
      constructor
      · intro o
        refine ⟨fun e p q => ?_, ?_⟩
        · have := o e p (by omega)
          rw [g11, updI_n (by omega), so v e _ p q] at this
          exact this
        · have := o (M1 10 5) (by omega) (by omega)
          rw [g11, updI_s, sn v _ (Int.le_refl _)] at this
          exact this
      · rintro ⟨o, w⟩ e p q
        by_cases z : e = M1 10 5
        · rw [z, g11, updI_s, sn v _ (Int.le_refl _)]
          exact w
        · rw [g11, updI_n z, so v e _ p (by omega)]
          exact o e p (by omega)
    rw [key, h6 v]
    constructor
    · rintro ⟨o, w⟩ k p q r
      by_cases z : k = i
      · rw [z]; exact w
      · exact o k p (by omega) r
    · exact fun o => ⟨fun k p q r => o k p (by omega) r, o i i0 (by omega) ht⟩
theorem s_X2_writeEquations {d : Nat} (hd : 4 ≤ d) {M : gMem} (hW : Wf (M 2)) : ∃ M', Go d RX2 cX2_writeEquations 4 none 0 [some (.inr 10), some (.inr 1), none, none] [] M none M' ∧ EQ M M' (M 2 0) := by
  have hn := hW.n
  have ht := hW.t
  have K : ∀ i, 0 ≤ i → i ≤ M 2 0 → ∀ (M1 : gMem) (x : Option MV), EQ M M1 i → ∃ M', Go d RX2 cX2_writeEquations 4 none 15 [some (.inr 10), some (.inr 1), some (.inl i), x] [] M1 none M' ∧ EQ M M' (M 2 0) := by
    refine up_ind 0 (M 2 0) _ (fun i i0 i1 ih M1 x h => ?_)
    have r2 : M1 2 = M 2 := h.1 2 (by decide) (by decide) (by decide) (by decide)
    have hW1 : Wf (M1 2) := by rw [r2]; exact hW
    have r20 : M1 2 0 = M 2 0 := by rw [r2]
    have h5 := h.2.2.2.1
    have h6 := h.2.2.2.2.1.n4
    have to := hW1.to i
    have hh := hW1.ht i
    by_cases ci : i = M 2 0
    · refine ⟨M1, ?_, by rw [← ci]; exact h⟩
      refine Go_iload_n (pc := 15) dX2_writeEquations_15 rfl rfl ?_
      refine Go_aload_n (pc := 16) dX2_writeEquations_16 rfl (by decide) rfl ?_
      refine Go_invV (pc := 17) (y := yX1_shades) (avs := []) (k := 1) (rest := [.inl i]) (x := .inl (M1 2 0))  (d' := d - 1) dX2_writeEquations_17 ln_X2_55 mo_X1_shades vo_X1_shades rfl (rc_1) rfl rfl (Nat.le_of_ble_eq_true rfl) (by omega) (Nat.le_of_ble_eq_true rfl) rfl (s_X1_shades (by omega) (by decide)) ?_
      refine Go_icmp_ge (pc := 20) (tgt := 80) dX2_writeEquations_20 (by decide) (by omega) (by omega) (fun c20 => ?_) (fun c20 => ?_)
      · exact Go_return (pc := 80) dX2_writeEquations_80 rfl rfl rfl
      · exfalso; omega
    by_cases ct : 0 ≤ sc (M 2) i 6
    · have ct1 : 0 ≤ sc (M1 2) i 6 := by rw [r2]; exact ct
      obtain ⟨M', g, p⟩ := ih (by omega) (setR (setR (setR (setR M1 11 (updI (M1 11) (M1 10 5) (sc (M1 2) i 6 - sc (M1 2) i 0))) 12 (weF (M1 12) (effH (M1 2) i) (M1 10 5) 0 (M1 10 6))) 13 (weF (M1 13) (rchH (M1 2) i (M1 10 6)) (M1 10 5) 0 (M1 10 6))) 10 (updI (M1 10) 5 (M1 10 5 + 1))) (some (.inl (sc (M1 2) i 6 - sc (M1 2) i 0))) (EQ_yes hW h i0 (by omega) ct (fun k a b c e => by simp only [setR]; rw [if_neg a, if_neg e, if_neg c, if_neg b]) rfl (by rw [← r2]; rfl) (by rw [← r2]; rfl) (by rw [← r2]; rfl))
      refine ⟨M', ?_, p⟩
      refine Go_iload_n (pc := 15) dX2_writeEquations_15 rfl rfl ?_
      refine Go_aload_n (pc := 16) dX2_writeEquations_16 rfl (by decide) rfl ?_
      refine Go_invV (pc := 17) (y := yX1_shades) (avs := []) (k := 1) (rest := [.inl i]) (x := .inl (M1 2 0))  (d' := d - 1) dX2_writeEquations_17 ln_X2_55 mo_X1_shades vo_X1_shades rfl (rc_1) rfl rfl (Nat.le_of_ble_eq_true rfl) (by omega) (Nat.le_of_ble_eq_true rfl) rfl (s_X1_shades (by omega) (by decide)) ?_
      refine Go_icmp_ge (pc := 20) (tgt := 80) dX2_writeEquations_20 (by decide) (by omega) (by omega) (fun c20 => ?_) (fun c20 => ?_)
      · exfalso; omega
      · refine Go_aload_n (pc := 23) dX2_writeEquations_23 rfl (by decide) rfl ?_
        refine Go_iload_n (pc := 24) dX2_writeEquations_24 rfl rfl ?_
        refine Go_invV (pc := 25) (y := yX1_isTold) (avs := [.inl i]) (k := 1) (rest := []) (x := .inl (b2i ((0 ≤ i ∧ i < M1 2 0) ∧ 0 ≤ sc (M1 2) i 6)))  (d' := d - 1) dX2_writeEquations_25 ln_X2_58 mo_X1_isTold vo_X1_isTold rfl (rc_1) rfl rfl (Nat.le_of_ble_eq_true rfl) (by omega) (Nat.le_of_ble_eq_true rfl) rfl (s_X1_isTold (by omega) (by decide) (by omega) hW1) ?_
        refine Go_ifeqB (pc := 28) (tgt := 74) dX2_writeEquations_28 (by decide) (fun c28 => ?_) (fun c28 => ?_)
        · refine Go_iinc (pc := 74) (L' := [some (.inr 10), some (.inr 1), some (.inl (i + 1)), x]) dX2_writeEquations_74 rfl (by decide) rfl ?_
          refine Go_goto (pc := 77) (tgt := 15) dX2_writeEquations_77 (by decide) ?_
          first | (exfalso; omega) | exact g
        · refine Go_aload_n (pc := 31) dX2_writeEquations_31 rfl (by decide) rfl ?_
          refine Go_iload_n (pc := 32) dX2_writeEquations_32 rfl rfl ?_
          refine Go_bipush (pc := 33) dX2_writeEquations_33 (by decide) (by decide) ?_
          refine Go_invV (pc := 35) (y := yX1_ofShade) (avs := [.inl i, .inl 6]) (k := 1) (rest := []) (x := .inl (sc (M1 2) i 6))  (d' := d - 1) dX2_writeEquations_35 ln_X2_62 mo_X1_ofShade vo_X1_ofShade rfl (rc_1) rfl rfl (Nat.le_of_ble_eq_true rfl) (by omega) (Nat.le_of_ble_eq_true rfl) rfl (s_X1_ofShade (by omega) (by decide) (by omega) (by decide) (by decide)) ?_
          refine Go_aload_n (pc := 38) dX2_writeEquations_38 rfl (by decide) rfl ?_
          refine Go_iload_n (pc := 39) dX2_writeEquations_39 rfl rfl ?_
          refine Go_iconst (pc := 40) dX2_writeEquations_40 ?_
          refine Go_invV (pc := 41) (y := yX1_ofShade) (avs := [.inl i, .inl 0]) (k := 1) (rest := [.inl (sc (M1 2) i 6)]) (x := .inl (sc (M1 2) i 0))  (d' := d - 1) dX2_writeEquations_41 ln_X2_62 mo_X1_ofShade vo_X1_ofShade rfl (rc_1) rfl rfl (Nat.le_of_ble_eq_true rfl) (by omega) (Nat.le_of_ble_eq_true rfl) rfl (s_X1_ofShade (by omega) (by decide) (by omega) (by decide) (by decide)) ?_
          refine Go_isub (pc := 44) dX2_writeEquations_44 ?_
          refine Go_istore_n (pc := 45) (L' := [some (.inr 10), some (.inr 1), some (.inl i), some (.inl ((sc (M1 2) i 6) - (sc (M1 2) i 0)))]) dX2_writeEquations_45 rfl (by decide) rfl ?_
          refine Go_aload_n (pc := 46) dX2_writeEquations_46 rfl (by decide) rfl ?_
          refine Go_getr (pc := 47) (r := 11) dX2_writeEquations_47 fo_X2_9 (by decide) rfl rfl (by decide) ?_
          refine Go_aload_n (pc := 50) dX2_writeEquations_50 rfl (by decide) rfl ?_
          refine Go_geti (pc := 51) (z := M1 10 5) dX2_writeEquations_51 fo_X2_27 (by decide) rfl rfl (rfl) ?_
          refine Go_iload_n (pc := 54) dX2_writeEquations_54 rfl rfl ?_
          refine Go_invSv (pc := 55) (y := yX2_put) (avs := [.inr 11, .inl (M1 10 5), .inl ((sc (M1 2) i 6) - (sc (M1 2) i 0))]) (rest := [])  (M1 := setR M1 11 (updI (M1 11) (M1 10 5) ((sc (M1 2) i 6) - (sc (M1 2) i 0)))) (d' := d - 1) dX2_writeEquations_55 ln_X2_66 mo_X2_put so_X2_put rfl rfl rfl (Nat.le_of_ble_eq_true rfl) (by omega) (Nat.le_of_ble_eq_true rfl) rfl (s_X2_put_11 (by omega) (by first | omega | (simp only [Nat.reduceAdd, setR_s]; omega) | (simp only [setR, Nat.reduceEqDiff, reduceIte]; omega)) (by first | omega | (simp only [Nat.reduceAdd, setR_s]; omega) | (simp only [setR, Nat.reduceEqDiff, reduceIte]; omega))) ?_
          refine Go_aload_n (pc := 58) dX2_writeEquations_58 rfl (by decide) rfl ?_
          refine Go_aload_n (pc := 59) dX2_writeEquations_59 rfl (by decide) rfl ?_
          refine Go_iload_n (pc := 60) dX2_writeEquations_60 rfl rfl ?_
          refine Go_invVv (pc := 61) (y := yX2_writeEffects) (avs := [.inr 1, .inl i]) (k := 10) (rest := [])  (M1 := setR (setR (setR M1 11 (updI (M1 11) (M1 10 5) ((sc (M1 2) i 6) - (sc (M1 2) i 0)))) 12 (weF (M1 12) (effH (M1 2) i) (M1 10 5) 0 (M1 10 6))) 13 (weF (M1 13) (rchH (M1 2) i (M1 10 6)) (M1 10 5) 0 (M1 10 6))) (d' := d - 1) dX2_writeEquations_61 ln_X2_70 mo_X2_writeEffects vo_X2_writeEffects rfl (rc_10) rfl rfl (Nat.le_of_ble_eq_true rfl) (by omega) (Nat.le_of_ble_eq_true rfl) rfl (s_X2_writeEffects (by omega) hW1 (show 0 ≤ M1 10 5 ∧ M1 10 5 < 8 by omega) h6 (by first | omega | (simp only [Nat.reduceAdd, setR_s]; omega) | (simp only [setR, Nat.reduceEqDiff, reduceIte]; omega)) (by first | omega | (simp only [Nat.reduceAdd, setR_s]; omega) | (simp only [setR, Nat.reduceEqDiff, reduceIte]; omega))) ?_
          refine Go_aload_n (pc := 64) dX2_writeEquations_64 rfl (by decide) rfl ?_
          refine Go_dup (pc := 65) dX2_writeEquations_65 ?_
          refine Go_geti (pc := 66) (z := M1 10 5) dX2_writeEquations_66 fo_X2_27 (by decide) rfl rfl (rfl) ?_
          refine Go_iconst (pc := 69) dX2_writeEquations_69 ?_
          refine Go_iadd (pc := 70) dX2_writeEquations_70 ?_
          refine Go_puti (pc := 71) dX2_writeEquations_71 fw_X2_27 (by decide) rfl rfl ?_
          refine Go_M (M1 := setR (setR (setR (setR M1 11 (updI (M1 11) (M1 10 5) ((sc (M1 2) i 6) - (sc (M1 2) i 0)))) 12 (weF (M1 12) (effH (M1 2) i) (M1 10 5) 0 (M1 10 6))) 13 (weF (M1 13) (rchH (M1 2) i (M1 10 6)) (M1 10 5) 0 (M1 10 6))) 10 (updI (M1 10) 5 ((M1 10 5) + 1))) rfl ?_
          refine Go_iinc (pc := 74) (L' := [some (.inr 10), some (.inr 1), some (.inl (i + 1)), some (.inl ((sc (M1 2) i 6) - (sc (M1 2) i 0)))]) dX2_writeEquations_74 rfl (by decide) rfl ?_
          refine Go_goto (pc := 77) (tgt := 15) dX2_writeEquations_77 (by decide) ?_
          first | (exfalso; omega) | exact g | exact Go_M (by funext q; simp only [setR]; (repeat' split) <;> first | rfl | omega | simp_all) g
    · have ct1 : ¬ 0 ≤ sc (M1 2) i 6 := by rw [r2]; exact ct
      obtain ⟨M', g, p⟩ := ih (by omega) M1 x (EQ_no h ct)
      refine ⟨M', ?_, p⟩
      refine Go_iload_n (pc := 15) dX2_writeEquations_15 rfl rfl ?_
      refine Go_aload_n (pc := 16) dX2_writeEquations_16 rfl (by decide) rfl ?_
      refine Go_invV (pc := 17) (y := yX1_shades) (avs := []) (k := 1) (rest := [.inl i]) (x := .inl (M1 2 0))  (d' := d - 1) dX2_writeEquations_17 ln_X2_55 mo_X1_shades vo_X1_shades rfl (rc_1) rfl rfl (Nat.le_of_ble_eq_true rfl) (by omega) (Nat.le_of_ble_eq_true rfl) rfl (s_X1_shades (by omega) (by decide)) ?_
      refine Go_icmp_ge (pc := 20) (tgt := 80) dX2_writeEquations_20 (by decide) (by omega) (by omega) (fun c20 => ?_) (fun c20 => ?_)
      · exfalso; omega
      · refine Go_aload_n (pc := 23) dX2_writeEquations_23 rfl (by decide) rfl ?_
        refine Go_iload_n (pc := 24) dX2_writeEquations_24 rfl rfl ?_
        refine Go_invV (pc := 25) (y := yX1_isTold) (avs := [.inl i]) (k := 1) (rest := []) (x := .inl (b2i ((0 ≤ i ∧ i < M1 2 0) ∧ 0 ≤ sc (M1 2) i 6)))  (d' := d - 1) dX2_writeEquations_25 ln_X2_58 mo_X1_isTold vo_X1_isTold rfl (rc_1) rfl rfl (Nat.le_of_ble_eq_true rfl) (by omega) (Nat.le_of_ble_eq_true rfl) rfl (s_X1_isTold (by omega) (by decide) (by omega) hW1) ?_
        refine Go_ifeqB (pc := 28) (tgt := 74) dX2_writeEquations_28 (by decide) (fun c28 => ?_) (fun c28 => ?_)
        · refine Go_iinc (pc := 74) (L' := [some (.inr 10), some (.inr 1), some (.inl (i + 1)), x]) dX2_writeEquations_74 rfl (by decide) rfl ?_
          refine Go_goto (pc := 77) (tgt := 15) dX2_writeEquations_77 (by decide) ?_
          exact g
        · exfalso; omega
  obtain ⟨M', g, p⟩ := K 0 (by omega) (by omega) (setR M 10 (updI (updI (M 10) 5 0) 6 (M 2 1))) none ⟨fun k a b c e => if_neg a, fun q a b => by show updI (updI (M 10) 5 0) 6 (M 2 1) q = _; rw [updI_n b, updI_n a], by show updI (updI (M 10) 5 0) 6 (M 2 1) 6 = _; rw [updI_s], ⟨Int.le_refl 0, Int.le_refl 0⟩, ⟨⟨Int.le_refl 0, show (0 : Int) ≤ 8 by decide⟩, by show 0 ≤ updI (updI (M 10) 5 0) 6 (M 2 1) 6 ∧ updI (updI (M 10) 5 0) 6 (M 2 1) 6 ≤ 4; rw [updI_s]; omega, fun j e a b c z => absurd z (show ¬ e < (0 : Int) by omega), fun j e a b c z => absurd z (show ¬ e < (0 : Int) by omega), fun s e v a b c z => absurd z (show ¬ e < (0 : Int) by omega), fun e c z => absurd z (show ¬ e < (0 : Int) by omega)⟩, fun v => ⟨fun _ k a b => by omega, fun _ e c z => absurd z (show ¬ e < (0 : Int) by omega)⟩⟩
  refine ⟨M', ?_, p⟩
  refine Go_aload_n (pc := 0) dX2_writeEquations_0 rfl (by decide) rfl ?_
  refine Go_iconst (pc := 1) dX2_writeEquations_1 ?_
  refine Go_puti (pc := 2) dX2_writeEquations_2 fw_X2_27 (by decide) rfl rfl ?_
  refine Go_M (M1 := setR M 10 (updI (M 10) 5 0)) rfl ?_
  refine Go_aload_n (pc := 5) dX2_writeEquations_5 rfl (by decide) rfl ?_
  refine Go_aload_n (pc := 6) dX2_writeEquations_6 rfl (by decide) rfl ?_
  refine Go_invV (pc := 7) (y := yX1_strings) (avs := []) (k := 1) (rest := [.inr 10]) (x := .inl (M 2 1))  (d' := d - 1) dX2_writeEquations_7 ln_X2_50 mo_X1_strings vo_X1_strings rfl (rc_1) rfl rfl (Nat.le_of_ble_eq_true rfl) (by omega) (Nat.le_of_ble_eq_true rfl) rfl (s_X1_strings (by omega) (by decide)) ?_
  refine Go_puti (pc := 10) dX2_writeEquations_10 fw_X2_31 (by decide) rfl rfl ?_
  refine Go_M (M1 := setR M 10 (updI (updI (M 10) 5 0) 6 (M 2 1))) (setR_top _ _ _ _ _) ?_
  refine Go_iconst (pc := 13) dX2_writeEquations_13 ?_
  refine Go_istore_n (pc := 14) (L' := [some (.inr 10), some (.inr 1), some (.inl 0), none]) dX2_writeEquations_14 rfl (by decide) rfl ?_
  exact g
