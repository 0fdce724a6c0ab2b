/-! the text -/
def cT (f : Int → Int) (n p : Int) : Int := if 0 ≤ p ∧ p < n then f p else 0
theorem cT_in {f : Int → Int} {n p : Int} (h0 : 0 ≤ p) (h1 : p < n) : cT f n p = f p := if_pos ⟨h0, h1⟩
theorem cT_out {f : Int → Int} {n p : Int} (h : ¬ (0 ≤ p ∧ p < n)) : cT f n p = 0 := if_neg h
def TxOk (f : Int → Int) (n : Int) : Prop := (0 ≤ n ∧ n ≤ 60) ∧ ∀ p, 0 ≤ p → p < n → 32 ≤ f p ∧ f p ≤ 126
theorem cT_b {f : Int → Int} {n : Int} (h : TxOk f n) (p : Int) : (cT f n p = 0 ∧ ¬ (0 ≤ p ∧ p < n)) ∨ ((32 ≤ cT f n p ∧ cT f n p ≤ 126) ∧ 0 ≤ p ∧ p < n) := by
  by_cases c : 0 ≤ p ∧ p < n
  · rw [cT_in c.1 c.2]; exact Or.inr ⟨h.2 p c.1 c.2, c⟩
  · exact Or.inl ⟨cT_out c, c⟩
theorem s_X5_at {d : Nat} (hd : 0 ≤ d) {p : Int} {M : gMem} (h : TxOk (M 8) (M 7 1)) (hp : inR p) : Go d RX5 cX5_at 2 (some .char) 0 [some (.inr 7), some (.inl p)] [] M (some (.inl (cT (M 8) (M 7 1) p))) M := by
  have hn := h.1
  have hb := cT_b h p
  have e1 : 0 ≤ p → p < M 7 1 → cT (M 8) (M 7 1) p = M 8 p := fun a b => cT_in a b
  have e2 : ¬ (0 ≤ p ∧ p < M 7 1) → cT (M 8) (M 7 1) p = 0 := fun a => cT_out a
  refine Go_iload_n (pc := 0) dX5_at_0 rfl rfl ?_
  refine Go_if_lt (pc := 1) (tgt := 27) dX5_at_1 (by decide) (by omega) (fun c1 => ?_) (fun c1 => ?_)
  · refine Go_iconst (pc := 27) dX5_at_27 ?_
    first | (exfalso; omega) | exact Go_creturn (pc := 28) dX5_at_28 rfl (by omega) (by omega) (by first | rw [e1 (by omega) (by omega)] | rw [e2 (by omega)]) rfl
  · refine Go_iload_n (pc := 4) dX5_at_4 rfl rfl ?_
    refine Go_aload_n (pc := 5) dX5_at_5 rfl (by decide) rfl ?_
    refine Go_geti (pc := 6) (z := M 7 1) dX5_at_6 fo_X5_15 (by decide) rfl rfl (rfl) ?_
    refine Go_icmp_ge (pc := 9) (tgt := 27) dX5_at_9 (by decide) (by omega) (by omega) (fun c9 => ?_) (fun c9 => ?_)
    · refine Go_iconst (pc := 27) dX5_at_27 ?_
      first | (exfalso; omega) | exact Go_creturn (pc := 28) dX5_at_28 rfl (by omega) (by omega) (by first | rw [e1 (by omega) (by omega)] | rw [e2 (by omega)]) rfl
    · refine Go_iload_n (pc := 12) dX5_at_12 rfl rfl ?_
      refine Go_bipush (pc := 13) dX5_at_13 (by decide) (by decide) ?_
      refine Go_icmp_ge (pc := 15) (tgt := 27) dX5_at_15 (by decide) (by omega) (by decide) (fun c15 => ?_) (fun c15 => ?_)
      · refine Go_iconst (pc := 27) dX5_at_27 ?_
        first | (exfalso; omega) | exact Go_creturn (pc := 28) dX5_at_28 rfl (by omega) (by omega) (by first | rw [e1 (by omega) (by omega)] | rw [e2 (by omega)]) rfl
      · refine Go_aload_n (pc := 18) dX5_at_18 rfl (by decide) rfl ?_
        refine Go_getr (pc := 19) (r := 8) dX5_at_19 fo_X5_9 (by decide) rfl rfl (by decide) ?_
        refine Go_iload_n (pc := 22) dX5_at_22 rfl rfl ?_
        refine Go_caload (pc := 23) (z := M 8 p) dX5_at_23 (by decide) rfl (by omega) (by omega) (rfl) ?_
        refine Go_goto (pc := 24) (tgt := 28) dX5_at_24 (by decide) ?_
        first | (exfalso; omega) | exact Go_creturn (pc := 28) dX5_at_28 rfl (by omega) (by omega) (by first | rw [e1 (by omega) (by omega)] | rw [e2 (by omega)]) rfl
abbrev dgP (f : Int → Int) (n p : Int) : Prop := 48 ≤ cT f n p ∧ cT f n p ≤ 57
theorem s_X5_isDigit {d : Nat} (hd : 1 ≤ d) {p : Int} {M : gMem} (h : TxOk (M 8) (M 7 1)) (hp : inR p) : Go d RX5 cX5_isDigit 2 (some .boolean) 0 [some (.inr 7), some (.inl p)] [] M (some (.inl (b2i (dgP (M 8) (M 7 1) p)))) M := by
  have hb := cT_b h p
  refine Go_aload_n (pc := 0) dX5_isDigit_0 rfl (by decide) rfl ?_
  refine Go_iload_n (pc := 1) dX5_isDigit_1 rfl rfl ?_
  refine Go_invV (pc := 2) (y := yX5_at) (avs := [.inl p]) (k := 7) (rest := []) (x := .inl (cT (M 8) (M 7 1) p))  (d' := d - 1) dX5_isDigit_2 ln_X5_19 mo_X5_at vo_X5_at rfl (rc_7) rfl rfl (Nat.le_of_ble_eq_true rfl) (by omega) (Nat.le_of_ble_eq_true rfl) rfl (s_X5_at (by omega) h (by omega)) ?_
  refine Go_bipush (pc := 5) dX5_isDigit_5 (by decide) (by decide) ?_
  refine Go_icmp_lt (pc := 7) (tgt := 24) dX5_isDigit_7 (by decide) (by omega) (by decide) (fun c7 => ?_) (fun c7 => ?_)
  · refine Go_iconst (pc := 24) dX5_isDigit_24 ?_
    exact Go_zreturn (pc := 25) dX5_isDigit_25 rfl (by decide) (by first | rw [b2i_t (by omega)] | rw [b2i_f (by omega)]) rfl
  · refine Go_aload_n (pc := 10) dX5_isDigit_10 rfl (by decide) rfl ?_
    refine Go_iload_n (pc := 11) dX5_isDigit_11 rfl rfl ?_
    refine Go_invV (pc := 12) (y := yX5_at) (avs := [.inl p]) (k := 7) (rest := []) (x := .inl (cT (M 8) (M 7 1) p))  (d' := d - 1) dX5_isDigit_12 ln_X5_19 mo_X5_at vo_X5_at rfl (rc_7) rfl rfl (Nat.le_of_ble_eq_true rfl) (by omega) (Nat.le_of_ble_eq_true rfl) rfl (s_X5_at (by omega) h (by omega)) ?_
    refine Go_bipush (pc := 15) dX5_isDigit_15 (by decide) (by decide) ?_
    refine Go_icmp_gt (pc := 17) (tgt := 24) dX5_isDigit_17 (by decide) (by omega) (by decide) (fun c17 => ?_) (fun c17 => ?_)
    · refine Go_iconst (pc := 24) dX5_isDigit_24 ?_
      exact Go_zreturn (pc := 25) dX5_isDigit_25 rfl (by decide) (by first | rw [b2i_t (by omega)] | rw [b2i_f (by omega)]) rfl
    · refine Go_iconst (pc := 20) dX5_isDigit_20 ?_
      refine Go_goto (pc := 21) (tgt := 25) dX5_isDigit_21 (by decide) ?_
      exact Go_zreturn (pc := 25) dX5_isDigit_25 rfl (by decide) (by first | rw [b2i_t (by omega)] | rw [b2i_f (by omega)]) rfl
def dgV (f : Int → Int) (n p : Int) : Int := if dgP f n p then cT f n p - 48 else 0
theorem dgV_b (f : Int → Int) (n p : Int) : 0 ≤ dgV f n p ∧ dgV f n p ≤ 9 := by
  unfold dgV
  split
  · next c => unfold dgP at c; omega
  · omega
theorem s_X5_digit {d : Nat} (hd : 2 ≤ d) {p : Int} {M : gMem} (h : TxOk (M 8) (M 7 1)) (hp : inR p) : Go d RX5 cX5_digit 2 (some .int) 0 [some (.inr 7), some (.inl p)] [] M (some (.inl (dgV (M 8) (M 7 1) p))) M := by
  have hb := cT_b h p
  have e1 : dgP (M 8) (M 7 1) p → dgV (M 8) (M 7 1) p = cT (M 8) (M 7 1) p - 48 := fun a => if_pos a
  have e2 : ¬ dgP (M 8) (M 7 1) p → dgV (M 8) (M 7 1) p = 0 := fun a => if_neg a
  refine Go_aload_n (pc := 0) dX5_digit_0 rfl (by decide) rfl ?_
  refine Go_iload_n (pc := 1) dX5_digit_1 rfl rfl ?_
  refine Go_invV (pc := 2) (y := yX5_isDigit) (avs := [.inl p]) (k := 7) (rest := []) (x := .inl (b2i (dgP (M 8) (M 7 1) p)))  (d' := d - 1) dX5_digit_2 ln_X5_23 mo_X5_isDigit vo_X5_isDigit rfl (rc_7) rfl rfl (Nat.le_of_ble_eq_true rfl) (by omega) (Nat.le_of_ble_eq_true rfl) rfl (s_X5_isDigit (by omega) h (by omega)) ?_
  refine Go_ifeqB (pc := 5) (tgt := 19) dX5_digit_5 (by decide) (fun c5 => ?_) (fun c5 => ?_)
  · refine Go_iconst (pc := 19) dX5_digit_19 ?_
    exact Go_ireturn (pc := 20) dX5_digit_20 rfl (by first | rw [e1 (by assumption)] | rw [e2 (by assumption)]) rfl
  · refine Go_aload_n (pc := 8) dX5_digit_8 rfl (by decide) rfl ?_
    refine Go_iload_n (pc := 9) dX5_digit_9 rfl rfl ?_
    refine Go_invV (pc := 10) (y := yX5_at) (avs := [.inl p]) (k := 7) (rest := []) (x := .inl (cT (M 8) (M 7 1) p))  (d' := d - 1) dX5_digit_10 ln_X5_19 mo_X5_at vo_X5_at rfl (rc_7) rfl rfl (Nat.le_of_ble_eq_true rfl) (by omega) (Nat.le_of_ble_eq_true rfl) rfl (s_X5_at (by omega) h (by omega)) ?_
    refine Go_bipush (pc := 13) dX5_digit_13 (by decide) (by decide) ?_
    refine Go_isub (pc := 15) dX5_digit_15 ?_
    refine Go_goto (pc := 16) (tgt := 20) dX5_digit_16 (by decide) ?_
    exact Go_ireturn (pc := 20) dX5_digit_20 rfl (by first | rw [e1 (by assumption)] | rw [e2 (by assumption)]) rfl
/-- behind the letters from a place on -/
abbrev ltP (f : Int → Int) (n p : Int) : Prop := 97 ≤ cT f n p ∧ cT f n p ≤ 122
def letN (f : Int → Int) (n : Int) : Nat → Int → Int
  | 0, p => p
  | m + 1, p => if ltP f n p then letN f n m (p + 1) else p
def letE (f : Int → Int) (n p : Int) : Int := letN f n (n - p).toNat p
theorem letE_y {f : Int → Int} {n p : Int} (h0 : 0 ≤ p) (h : ltP f n p) : letE f n p = letE f n (p + 1) ∧ p < n := by
  have h1 : p < n := by
    by_cases c : p < n
    · exact c
    · have : cT f n p = 0 := cT_out (by omega)
      unfold ltP at h
      omega
  refine ⟨?_, h1⟩
  unfold letE
  rw [show (n - p).toNat = (n - (p + 1)).toNat + 1 by omega]
  exact if_pos h
theorem letE_n {f : Int → Int} {n p : Int} (h : ¬ ltP f n p) : letE f n p = p := by
  unfold letE
  cases (n - p).toNat with
  | zero => rfl
  | succ m => exact if_neg h
theorem letN_b {f : Int → Int} {n : Int} : ∀ (m : Nat) (p : Int), p ≤ letN f n m p ∧ letN f n m p ≤ p + m
  | 0, p => ⟨Int.le_refl p, by show p ≤ p + ((0 : Nat) : Int); omega⟩
  | m + 1, p => by
    have a := letN_b (f := f) (n := n) m (p + 1)
    show p ≤ (if ltP f n p then letN f n m (p + 1) else p) ∧ (if ltP f n p then letN f n m (p + 1) else p) ≤ p + ((m + 1 : Nat) : Int)
    split <;> omega
theorem letE_b {f : Int → Int} {n p : Int} (h : p ≤ n) : p ≤ letE f n p ∧ letE f n p ≤ n := by
  have := letN_b (f := f) (n := n) (n - p).toNat p
  unfold letE
  omega
theorem s_X5_lettersFrom {d : Nat} (hd : 1 ≤ d) {s : Int} {M : gMem} (h : TxOk (M 8) (M 7 1)) (s0 : 0 ≤ s) (s1 : s ≤ M 7 1) : Go d RX5 cX5_lettersFrom 3 (some .int) 0 [some (.inr 7), some (.inl s), none] [] M (some (.inl (letE (M 8) (M 7 1) s - s))) M := by
  have hn := h.1
  have K : ∀ i, 0 ≤ i → i ≤ M 7 1 - s → letE (M 8) (M 7 1) (s + i) = letE (M 8) (M 7 1) s → Go d RX5 cX5_lettersFrom 3 (some .int) 2 [some (.inr 7), some (.inl s), some (.inl i)] [] M (some (.inl (letE (M 8) (M 7 1) s - s))) M := by
    refine up_ind 0 (M 7 1 - s) _ (fun i i0 i1 ih hi => ?_)
    have hb := cT_b h (s + i)
    have e1 := fun c : ltP (M 8) (M 7 1) (s + i) => letE_y (f := M 8) (n := M 7 1) (p := s + i) (by omega) c
    have e2 := fun c : ¬ ltP (M 8) (M 7 1) (s + i) => letE_n (f := M 8) (n := M 7 1) (p := s + i) c
    refine Go_iload_n (pc := 2) dX5_lettersFrom_2 rfl rfl ?_
    refine Go_bipush (pc := 3) dX5_lettersFrom_3 (by decide) (by decide) ?_
    refine Go_icmp_ge (pc := 5) (tgt := 38) dX5_lettersFrom_5 (by decide) (by omega) (by decide) (fun c5 => ?_) (fun c5 => ?_)
    · refine Go_iload_n (pc := 38) dX5_lettersFrom_38 rfl rfl ?_
      have e3 := e2 (by omega)
      exact Go_ireturn (pc := 39) dX5_lettersFrom_39 rfl (by rw [← hi, e3]; congr 2; omega) rfl
    · refine Go_aload_n (pc := 8) dX5_lettersFrom_8 rfl (by decide) rfl ?_
      refine Go_iload_n (pc := 9) dX5_lettersFrom_9 rfl rfl ?_
      refine Go_iload_n (pc := 10) dX5_lettersFrom_10 rfl rfl ?_
      refine Go_iadd (pc := 11) dX5_lettersFrom_11 ?_
      refine Go_invV (pc := 12) (y := yX5_at) (avs := [.inl (s + i)]) (k := 7) (rest := []) (x := .inl (cT (M 8) (M 7 1) (s + i)))  (d' := d - 1) dX5_lettersFrom_12 ln_X5_19 mo_X5_at vo_X5_at rfl (rc_7) rfl rfl (Nat.le_of_ble_eq_true rfl) (by omega) (Nat.le_of_ble_eq_true rfl) rfl (s_X5_at (by omega) h (by omega)) ?_
      refine Go_bipush (pc := 15) dX5_lettersFrom_15 (by decide) (by decide) ?_
      refine Go_icmp_lt (pc := 17) (tgt := 38) dX5_lettersFrom_17 (by decide) (by omega) (by decide) (fun c17 => ?_) (fun c17 => ?_)
      · refine Go_iload_n (pc := 38) dX5_lettersFrom_38 rfl rfl ?_
        have e3 := e2 (by omega)
        exact Go_ireturn (pc := 39) dX5_lettersFrom_39 rfl (by rw [← hi, e3]; congr 2; omega) rfl
      · refine Go_aload_n (pc := 20) dX5_lettersFrom_20 rfl (by decide) rfl ?_
        refine Go_iload_n (pc := 21) dX5_lettersFrom_21 rfl rfl ?_
        refine Go_iload_n (pc := 22) dX5_lettersFrom_22 rfl rfl ?_
        refine Go_iadd (pc := 23) dX5_lettersFrom_23 ?_
        refine Go_invV (pc := 24) (y := yX5_at) (avs := [.inl (s + i)]) (k := 7) (rest := []) (x := .inl (cT (M 8) (M 7 1) (s + i)))  (d' := d - 1) dX5_lettersFrom_24 ln_X5_19 mo_X5_at vo_X5_at rfl (rc_7) rfl rfl (Nat.le_of_ble_eq_true rfl) (by omega) (Nat.le_of_ble_eq_true rfl) rfl (s_X5_at (by omega) h (by omega)) ?_
        refine Go_bipush (pc := 27) dX5_lettersFrom_27 (by decide) (by decide) ?_
        refine Go_icmp_gt (pc := 29) (tgt := 38) dX5_lettersFrom_29 (by decide) (by omega) (by decide) (fun c29 => ?_) (fun c29 => ?_)
        · refine Go_iload_n (pc := 38) dX5_lettersFrom_38 rfl rfl ?_
          have e3 := e2 (by omega)
          exact Go_ireturn (pc := 39) dX5_lettersFrom_39 rfl (by rw [← hi, e3]; congr 2; omega) rfl
        · refine Go_iinc (pc := 32) (L' := [some (.inr 7), some (.inl s), some (.inl (i + 1))]) dX5_lettersFrom_32 rfl (by decide) rfl ?_
          refine Go_goto (pc := 35) (tgt := 2) dX5_lettersFrom_35 (by decide) ?_
          have e3 := e1 (by omega)
          exact ih (by omega) (by rw [← hi, e3.1]; congr 1; omega)
  refine Go_iconst (pc := 0) dX5_lettersFrom_0 ?_
  refine Go_istore_n (pc := 1) (L' := [some (.inr 7), some (.inl s), some (.inl 0)]) dX5_lettersFrom_1 rfl (by decide) rfl ?_
  exact K 0 (by omega) (by omega) (by rw [Int.add_zero])
abbrev wd0 (f : Int → Int) (n s : Int) : Prop := (cT f n (s + 0) = 112 ∧ cT f n (s + 1) = 117 ∧ cT f n (s + 2) = 108 ∧ cT f n (s + 3) = 108) ∧ letE f n s - s = 4
theorem s_X5_hasWord_0 {d : Nat} (hd : 4 ≤ d) {s : Int} {M : gMem} (h : TxOk (M 8) (M 7 1)) (s0 : 0 ≤ s) (s1 : s ≤ M 7 1) : Go d RX5 cX5_hasWord 4 (some .boolean) 0 [some (.inr 7), some (.inl s), some (.inr 100), none] [] M (some (.inl (b2i (wd0 (M 8) (M 7 1) s)))) M := by
  have hn := h.1
  have hL := letE_b (f := M 8) (n := M 7 1) s1
  have hb0 := cT_b h (s + 0)
  have hb1 := cT_b h (s + 1)
  have hb2 := cT_b h (s + 2)
  have hb3 := cT_b h (s + 3)
  refine Go_iconst (pc := 0) dX5_hasWord_0 ?_
  refine Go_istore_n (pc := 1) (L' := [some (.inr 7), some (.inl s), some (.inr 100), some (.inl 0)]) dX5_hasWord_1 rfl (by decide) rfl ?_
  refine Go_iload_n (pc := 2) dX5_hasWord_2 rfl rfl ?_
  refine Go_aload_n (pc := 3) dX5_hasWord_3 rfl (by decide) rfl ?_
  refine Go_invV (pc := 4) (y := yJ0_length_8abf5) (avs := []) (k := 100) (rest := [.inl 0]) (x := .inl 4)  (d' := d - 1) dX5_hasWord_4 ln_X5_27 mo_J0_length_8abf5 vo_J0_length_8abf5 rfl (rc_s (i := 0) (by decide)) rfl rfl (Nat.le_of_ble_eq_true rfl) (by omega) (Nat.le_of_ble_eq_true rfl) rfl (s_J0_length_0 (by omega)) ?_
  refine Go_icmp_ge (pc := 7) (tgt := 33) dX5_hasWord_7 (by decide) (by decide) (by decide) (fun q => absurd q (by decide)) (fun _ => ?_)
  refine Go_aload_n (pc := 10) dX5_hasWord_10 rfl (by decide) rfl ?_
  refine Go_iload_n (pc := 11) dX5_hasWord_11 rfl rfl ?_
  refine Go_iload_n (pc := 12) dX5_hasWord_12 rfl rfl ?_
  refine Go_iadd (pc := 13) dX5_hasWord_13 ?_
  refine Go_invV (pc := 14) (y := yX5_at) (avs := [.inl (s + 0)]) (k := 7) (rest := []) (x := .inl (cT (M 8) (M 7 1) (s + 0)))  (d' := d - 1) dX5_hasWord_14 ln_X5_19 mo_X5_at vo_X5_at rfl (rc_7) rfl rfl (Nat.le_of_ble_eq_true rfl) (by omega) (Nat.le_of_ble_eq_true rfl) rfl (s_X5_at (by omega) h (by omega)) ?_
  refine Go_aload_n (pc := 17) dX5_hasWord_17 rfl (by decide) rfl ?_
  refine Go_iload_n (pc := 18) dX5_hasWord_18 rfl rfl ?_
  refine Go_invV (pc := 19) (y := yJ0_charAt_5068e) (avs := [.inl 0]) (k := 100) (rest := [.inl (cT (M 8) (M 7 1) (s + 0))]) (x := .inl 112)  (d' := d - 1) dX5_hasWord_19 ln_X5_32 mo_J0_charAt_5068e vo_J0_charAt_5068e rfl (rc_s (i := 0) (by decide)) rfl rfl (Nat.le_of_ble_eq_true rfl) (by omega) (Nat.le_of_ble_eq_true rfl) rfl (s_J0_charAt_0_0 (by omega)) ?_
  refine Go_icmp_eq (pc := 22) (tgt := 27) dX5_hasWord_22 (by decide) (by omega) (by decide) (fun c22 => ?_) (fun c22 => ?_)
  · refine Go_iinc (pc := 27) (L' := [some (.inr 7), some (.inl s), some (.inr 100), some (.inl 1)]) dX5_hasWord_27 rfl (by decide) rfl ?_
    refine Go_goto (pc := 30) (tgt := 2) dX5_hasWord_30 (by decide) ?_
    refine Go_iload_n (pc := 2) dX5_hasWord_2 rfl rfl ?_
    refine Go_aload_n (pc := 3) dX5_hasWord_3 rfl (by decide) rfl ?_
    refine Go_invV (pc := 4) (y := yJ0_length_8abf5) (avs := []) (k := 100) (rest := [.inl 1]) (x := .inl 4)  (d' := d - 1) dX5_hasWord_4 ln_X5_27 mo_J0_length_8abf5 vo_J0_length_8abf5 rfl (rc_s (i := 0) (by decide)) rfl rfl (Nat.le_of_ble_eq_true rfl) (by omega) (Nat.le_of_ble_eq_true rfl) rfl (s_J0_length_0 (by omega)) ?_
    refine Go_icmp_ge (pc := 7) (tgt := 33) dX5_hasWord_7 (by decide) (by decide) (by decide) (fun q => absurd q (by decide)) (fun _ => ?_)
    refine Go_aload_n (pc := 10) dX5_hasWord_10 rfl (by decide) rfl ?_
    refine Go_iload_n (pc := 11) dX5_hasWord_11 rfl rfl ?_
    refine Go_iload_n (pc := 12) dX5_hasWord_12 rfl rfl ?_
    refine Go_iadd (pc := 13) dX5_hasWord_13 ?_
    refine Go_invV (pc := 14) (y := yX5_at) (avs := [.inl (s + 1)]) (k := 7) (rest := []) (x := .inl (cT (M 8) (M 7 1) (s + 1)))  (d' := d - 1) dX5_hasWord_14 ln_X5_19 mo_X5_at vo_X5_at rfl (rc_7) rfl rfl (Nat.le_of_ble_eq_true rfl) (by omega) (Nat.le_of_ble_eq_true rfl) rfl (s_X5_at (by omega) h (by omega)) ?_
    refine Go_aload_n (pc := 17) dX5_hasWord_17 rfl (by decide) rfl ?_
    refine Go_iload_n (pc := 18) dX5_hasWord_18 rfl rfl ?_
    refine Go_invV (pc := 19) (y := yJ0_charAt_5068e) (avs := [.inl 1]) (k := 100) (rest := [.inl (cT (M 8) (M 7 1) (s + 1))]) (x := .inl 117)  (d' := d - 1) dX5_hasWord_19 ln_X5_32 mo_J0_charAt_5068e vo_J0_charAt_5068e rfl (rc_s (i := 0) (by decide)) rfl rfl (Nat.le_of_ble_eq_true rfl) (by omega) (Nat.le_of_ble_eq_true rfl) rfl (s_J0_charAt_0_1 (by omega)) ?_
    refine Go_icmp_eq (pc := 22) (tgt := 27) dX5_hasWord_22 (by decide) (by omega) (by decide) (fun c22a => ?_) (fun c22a => ?_)
    · refine Go_iinc (pc := 27) (L' := [some (.inr 7), some (.inl s), some (.inr 100), some (.inl 2)]) dX5_hasWord_27 rfl (by decide) rfl ?_
      refine Go_goto (pc := 30) (tgt := 2) dX5_hasWord_30 (by decide) ?_
      refine Go_iload_n (pc := 2) dX5_hasWord_2 rfl rfl ?_
      refine Go_aload_n (pc := 3) dX5_hasWord_3 rfl (by decide) rfl ?_
      refine Go_invV (pc := 4) (y := yJ0_length_8abf5) (avs := []) (k := 100) (rest := [.inl 2]) (x := .inl 4)  (d' := d - 1) dX5_hasWord_4 ln_X5_27 mo_J0_length_8abf5 vo_J0_length_8abf5 rfl (rc_s (i := 0) (by decide)) rfl rfl (Nat.le_of_ble_eq_true rfl) (by omega) (Nat.le_of_ble_eq_true rfl) rfl (s_J0_length_0 (by omega)) ?_
      refine Go_icmp_ge (pc := 7) (tgt := 33) dX5_hasWord_7 (by decide) (by decide) (by decide) (fun q => absurd q (by decide)) (fun _ => ?_)
      refine Go_aload_n (pc := 10) dX5_hasWord_10 rfl (by decide) rfl ?_
      refine Go_iload_n (pc := 11) dX5_hasWord_11 rfl rfl ?_
      refine Go_iload_n (pc := 12) dX5_hasWord_12 rfl rfl ?_
      refine Go_iadd (pc := 13) dX5_hasWord_13 ?_
      refine Go_invV (pc := 14) (y := yX5_at) (avs := [.inl (s + 2)]) (k := 7) (rest := []) (x := .inl (cT (M 8) (M 7 1) (s + 2)))  (d' := d - 1) dX5_hasWord_14 ln_X5_19 mo_X5_at vo_X5_at rfl (rc_7) rfl rfl (Nat.le_of_ble_eq_true rfl) (by omega) (Nat.le_of_ble_eq_true rfl) rfl (s_X5_at (by omega) h (by omega)) ?_
      refine Go_aload_n (pc := 17) dX5_hasWord_17 rfl (by decide) rfl ?_
      refine Go_iload_n (pc := 18) dX5_hasWord_18 rfl rfl ?_
      refine Go_invV (pc := 19) (y := yJ0_charAt_5068e) (avs := [.inl 2]) (k := 100) (rest := [.inl (cT (M 8) (M 7 1) (s + 2))]) (x := .inl 108)  (d' := d - 1) dX5_hasWord_19 ln_X5_32 mo_J0_charAt_5068e vo_J0_charAt_5068e rfl (rc_s (i := 0) (by decide)) rfl rfl (Nat.le_of_ble_eq_true rfl) (by omega) (Nat.le_of_ble_eq_true rfl) rfl (s_J0_charAt_0_2 (by omega)) ?_
      refine Go_icmp_eq (pc := 22) (tgt := 27) dX5_hasWord_22 (by decide) (by omega) (by decide) (fun c22b => ?_) (fun c22b => ?_)
      · refine Go_iinc (pc := 27) (L' := [some (.inr 7), some (.inl s), some (.inr 100), some (.inl 3)]) dX5_hasWord_27 rfl (by decide) rfl ?_
        refine Go_goto (pc := 30) (tgt := 2) dX5_hasWord_30 (by decide) ?_
        refine Go_iload_n (pc := 2) dX5_hasWord_2 rfl rfl ?_
        refine Go_aload_n (pc := 3) dX5_hasWord_3 rfl (by decide) rfl ?_
        refine Go_invV (pc := 4) (y := yJ0_length_8abf5) (avs := []) (k := 100) (rest := [.inl 3]) (x := .inl 4)  (d' := d - 1) dX5_hasWord_4 ln_X5_27 mo_J0_length_8abf5 vo_J0_length_8abf5 rfl (rc_s (i := 0) (by decide)) rfl rfl (Nat.le_of_ble_eq_true rfl) (by omega) (Nat.le_of_ble_eq_true rfl) rfl (s_J0_length_0 (by omega)) ?_
        refine Go_icmp_ge (pc := 7) (tgt := 33) dX5_hasWord_7 (by decide) (by decide) (by decide) (fun q => absurd q (by decide)) (fun _ => ?_)
        refine Go_aload_n (pc := 10) dX5_hasWord_10 rfl (by decide) rfl ?_
        refine Go_iload_n (pc := 11) dX5_hasWord_11 rfl rfl ?_
        refine Go_iload_n (pc := 12) dX5_hasWord_12 rfl rfl ?_
        refine Go_iadd (pc := 13) dX5_hasWord_13 ?_
        refine Go_invV (pc := 14) (y := yX5_at) (avs := [.inl (s + 3)]) (k := 7) (rest := []) (x := .inl (cT (M 8) (M 7 1) (s + 3)))  (d' := d - 1) dX5_hasWord_14 ln_X5_19 mo_X5_at vo_X5_at rfl (rc_7) rfl rfl (Nat.le_of_ble_eq_true rfl) (by omega) (Nat.le_of_ble_eq_true rfl) rfl (s_X5_at (by omega) h (by omega)) ?_
        refine Go_aload_n (pc := 17) dX5_hasWord_17 rfl (by decide) rfl ?_
        refine Go_iload_n (pc := 18) dX5_hasWord_18 rfl rfl ?_
        refine Go_invV (pc := 19) (y := yJ0_charAt_5068e) (avs := [.inl 3]) (k := 100) (rest := [.inl (cT (M 8) (M 7 1) (s + 3))]) (x := .inl 108)  (d' := d - 1) dX5_hasWord_19 ln_X5_32 mo_J0_charAt_5068e vo_J0_charAt_5068e rfl (rc_s (i := 0) (by decide)) rfl rfl (Nat.le_of_ble_eq_true rfl) (by omega) (Nat.le_of_ble_eq_true rfl) rfl (s_J0_charAt_0_3 (by omega)) ?_
        refine Go_icmp_eq (pc := 22) (tgt := 27) dX5_hasWord_22 (by decide) (by omega) (by decide) (fun c22c => ?_) (fun c22c => ?_)
        · refine Go_iinc (pc := 27) (L' := [some (.inr 7), some (.inl s), some (.inr 100), some (.inl 4)]) dX5_hasWord_27 rfl (by decide) rfl ?_
          refine Go_goto (pc := 30) (tgt := 2) dX5_hasWord_30 (by decide) ?_
          refine Go_iload_n (pc := 2) dX5_hasWord_2 rfl rfl ?_
          refine Go_aload_n (pc := 3) dX5_hasWord_3 rfl (by decide) rfl ?_
          refine Go_invV (pc := 4) (y := yJ0_length_8abf5) (avs := []) (k := 100) (rest := [.inl 4]) (x := .inl 4)  (d' := d - 1) dX5_hasWord_4 ln_X5_27 mo_J0_length_8abf5 vo_J0_length_8abf5 rfl (rc_s (i := 0) (by decide)) rfl rfl (Nat.le_of_ble_eq_true rfl) (by omega) (Nat.le_of_ble_eq_true rfl) rfl (s_J0_length_0 (by omega)) ?_
          refine Go_icmp_ge (pc := 7) (tgt := 33) dX5_hasWord_7 (by decide) (by decide) (by decide) (fun _ => ?_) (fun q => absurd q (by decide))
          refine Go_aload_n (pc := 33) dX5_hasWord_33 rfl (by decide) rfl ?_
          refine Go_iload_n (pc := 34) dX5_hasWord_34 rfl rfl ?_
          refine Go_invV (pc := 35) (y := yX5_lettersFrom) (avs := [.inl s]) (k := 7) (rest := []) (x := .inl (letE (M 8) (M 7 1) s - s))  (d' := d - 1) dX5_hasWord_35 ln_X5_35 mo_X5_lettersFrom vo_X5_lettersFrom rfl (rc_7) rfl rfl (Nat.le_of_ble_eq_true rfl) (by omega) (Nat.le_of_ble_eq_true rfl) rfl (s_X5_lettersFrom (by omega) h (by first | omega | (simp only [Nat.reduceAdd, setR_s]; omega) | (simp only [setR, Nat.reduceEqDiff, reduceIte]; omega)) (by first | omega | (simp only [Nat.reduceAdd, setR_s]; omega) | (simp only [setR, Nat.reduceEqDiff, reduceIte]; omega))) ?_
          refine Go_aload_n (pc := 38) dX5_hasWord_38 rfl (by decide) rfl ?_
          refine Go_invV (pc := 39) (y := yJ0_length_8abf5) (avs := []) (k := 100) (rest := [.inl (letE (M 8) (M 7 1) s - s)]) (x := .inl 4)  (d' := d - 1) dX5_hasWord_39 ln_X5_27 mo_J0_length_8abf5 vo_J0_length_8abf5 rfl (rc_s (i := 0) (by decide)) rfl rfl (Nat.le_of_ble_eq_true rfl) (by omega) (Nat.le_of_ble_eq_true rfl) rfl (s_J0_length_0 (by omega)) ?_
          refine Go_icmp_ne (pc := 42) (tgt := 49) dX5_hasWord_42 (by decide) (by omega) (by decide) (fun c42 => ?_) (fun c42 => ?_)
          · refine Go_iconst (pc := 49) dX5_hasWord_49 ?_
            exact Go_zreturn (pc := 50) dX5_hasWord_50 rfl (by decide) (by first | rw [b2i_t (by omega)] | rw [b2i_f (by omega)]) rfl
          · refine Go_iconst (pc := 45) dX5_hasWord_45 ?_
            refine Go_goto (pc := 46) (tgt := 50) dX5_hasWord_46 (by decide) ?_
            exact Go_zreturn (pc := 50) dX5_hasWord_50 rfl (by decide) (by first | rw [b2i_t (by omega)] | rw [b2i_f (by omega)]) rfl
        · refine Go_iconst (pc := 25) dX5_hasWord_25 ?_
          exact Go_zreturn (pc := 26) dX5_hasWord_26 rfl (by decide) (by first | rw [b2i_t (by omega)] | rw [b2i_f (by omega)]) rfl
      · refine Go_iconst (pc := 25) dX5_hasWord_25 ?_
        exact Go_zreturn (pc := 26) dX5_hasWord_26 rfl (by decide) (by first | rw [b2i_t (by omega)] | rw [b2i_f (by omega)]) rfl
    · refine Go_iconst (pc := 25) dX5_hasWord_25 ?_
      exact Go_zreturn (pc := 26) dX5_hasWord_26 rfl (by decide) (by first | rw [b2i_t (by omega)] | rw [b2i_f (by omega)]) rfl
  · refine Go_iconst (pc := 25) dX5_hasWord_25 ?_
    exact Go_zreturn (pc := 26) dX5_hasWord_26 rfl (by decide) (by first | rw [b2i_t (by omega)] | rw [b2i_f (by omega)]) rfl
abbrev wd1 (f : Int → Int) (n s : Int) : Prop := (cT f n (s + 0) = 100 ∧ cT f n (s + 1) = 114 ∧ cT f n (s + 2) = 111 ∧ cT f n (s + 3) = 112) ∧ letE f n s - s = 4
theorem s_X5_hasWord_1 {d : Nat} (hd : 4 ≤ d) {s : Int} {M : gMem} (h : TxOk (M 8) (M 7 1)) (s0 : 0 ≤ s) (s1 : s ≤ M 7 1) : Go d RX5 cX5_hasWord 4 (some .boolean) 0 [some (.inr 7), some (.inl s), some (.inr 101), none] [] M (some (.inl (b2i (wd1 (M 8) (M 7 1) s)))) M := by
  have hn := h.1
  have hL := letE_b (f := M 8) (n := M 7 1) s1
  have hb0 := cT_b h (s + 0)
  have hb1 := cT_b h (s + 1)
  have hb2 := cT_b h (s + 2)
  have hb3 := cT_b h (s + 3)
  refine Go_iconst (pc := 0) dX5_hasWord_0 ?_
  refine Go_istore_n (pc := 1) (L' := [some (.inr 7), some (.inl s), some (.inr 101), some (.inl 0)]) dX5_hasWord_1 rfl (by decide) rfl ?_
  refine Go_iload_n (pc := 2) dX5_hasWord_2 rfl rfl ?_
  refine Go_aload_n (pc := 3) dX5_hasWord_3 rfl (by decide) rfl ?_
  refine Go_invV (pc := 4) (y := yJ0_length_8abf5) (avs := []) (k := 101) (rest := [.inl 0]) (x := .inl 4)  (d' := d - 1) dX5_hasWord_4 ln_X5_27 mo_J0_length_8abf5 vo_J0_length_8abf5 rfl (rc_s (i := 1) (by decide)) rfl rfl (Nat.le_of_ble_eq_true rfl) (by omega) (Nat.le_of_ble_eq_true rfl) rfl (s_J0_length_1 (by omega)) ?_
  refine Go_icmp_ge (pc := 7) (tgt := 33) dX5_hasWord_7 (by decide) (by decide) (by decide) (fun q => absurd q (by decide)) (fun _ => ?_)
  refine Go_aload_n (pc := 10) dX5_hasWord_10 rfl (by decide) rfl ?_
  refine Go_iload_n (pc := 11) dX5_hasWord_11 rfl rfl ?_
  refine Go_iload_n (pc := 12) dX5_hasWord_12 rfl rfl ?_
  refine Go_iadd (pc := 13) dX5_hasWord_13 ?_
  refine Go_invV (pc := 14) (y := yX5_at) (avs := [.inl (s + 0)]) (k := 7) (rest := []) (x := .inl (cT (M 8) (M 7 1) (s + 0)))  (d' := d - 1) dX5_hasWord_14 ln_X5_19 mo_X5_at vo_X5_at rfl (rc_7) rfl rfl (Nat.le_of_ble_eq_true rfl) (by omega) (Nat.le_of_ble_eq_true rfl) rfl (s_X5_at (by omega) h (by omega)) ?_
  refine Go_aload_n (pc := 17) dX5_hasWord_17 rfl (by decide) rfl ?_
  refine Go_iload_n (pc := 18) dX5_hasWord_18 rfl rfl ?_
  refine Go_invV (pc := 19) (y := yJ0_charAt_5068e) (avs := [.inl 0]) (k := 101) (rest := [.inl (cT (M 8) (M 7 1) (s + 0))]) (x := .inl 100)  (d' := d - 1) dX5_hasWord_19 ln_X5_32 mo_J0_charAt_5068e vo_J0_charAt_5068e rfl (rc_s (i := 1) (by decide)) rfl rfl (Nat.le_of_ble_eq_true rfl) (by omega) (Nat.le_of_ble_eq_true rfl) rfl (s_J0_charAt_1_0 (by omega)) ?_
  refine Go_icmp_eq (pc := 22) (tgt := 27) dX5_hasWord_22 (by decide) (by omega) (by decide) (fun c22 => ?_) (fun c22 => ?_)
  · refine Go_iinc (pc := 27) (L' := [some (.inr 7), some (.inl s), some (.inr 101), some (.inl 1)]) dX5_hasWord_27 rfl (by decide) rfl ?_
    refine Go_goto (pc := 30) (tgt := 2) dX5_hasWord_30 (by decide) ?_
    refine Go_iload_n (pc := 2) dX5_hasWord_2 rfl rfl ?_
    refine Go_aload_n (pc := 3) dX5_hasWord_3 rfl (by decide) rfl ?_
    refine Go_invV (pc := 4) (y := yJ0_length_8abf5) (avs := []) (k := 101) (rest := [.inl 1]) (x := .inl 4)  (d' := d - 1) dX5_hasWord_4 ln_X5_27 mo_J0_length_8abf5 vo_J0_length_8abf5 rfl (rc_s (i := 1) (by decide)) rfl rfl (Nat.le_of_ble_eq_true rfl) (by omega) (Nat.le_of_ble_eq_true rfl) rfl (s_J0_length_1 (by omega)) ?_
    refine Go_icmp_ge (pc := 7) (tgt := 33) dX5_hasWord_7 (by decide) (by decide) (by decide) (fun q => absurd q (by decide)) (fun _ => ?_)
    refine Go_aload_n (pc := 10) dX5_hasWord_10 rfl (by decide) rfl ?_
    refine Go_iload_n (pc := 11) dX5_hasWord_11 rfl rfl ?_
    refine Go_iload_n (pc := 12) dX5_hasWord_12 rfl rfl ?_
    refine Go_iadd (pc := 13) dX5_hasWord_13 ?_
    refine Go_invV (pc := 14) (y := yX5_at) (avs := [.inl (s + 1)]) (k := 7) (rest := []) (x := .inl (cT (M 8) (M 7 1) (s + 1)))  (d' := d - 1) dX5_hasWord_14 ln_X5_19 mo_X5_at vo_X5_at rfl (rc_7) rfl rfl (Nat.le_of_ble_eq_true rfl) (by omega) (Nat.le_of_ble_eq_true rfl) rfl (s_X5_at (by omega) h (by omega)) ?_
    refine Go_aload_n (pc := 17) dX5_hasWord_17 rfl (by decide) rfl ?_
    refine Go_iload_n (pc := 18) dX5_hasWord_18 rfl rfl ?_
    refine Go_invV (pc := 19) (y := yJ0_charAt_5068e) (avs := [.inl 1]) (k := 101) (rest := [.inl (cT (M 8) (M 7 1) (s + 1))]) (x := .inl 114)  (d' := d - 1) dX5_hasWord_19 ln_X5_32 mo_J0_charAt_5068e vo_J0_charAt_5068e rfl (rc_s (i := 1) (by decide)) rfl rfl (Nat.le_of_ble_eq_true rfl) (by omega) (Nat.le_of_ble_eq_true rfl) rfl (s_J0_charAt_1_1 (by omega)) ?_
    refine Go_icmp_eq (pc := 22) (tgt := 27) dX5_hasWord_22 (by decide) (by omega) (by decide) (fun c22a => ?_) (fun c22a => ?_)
    · refine Go_iinc (pc := 27) (L' := [some (.inr 7), some (.inl s), some (.inr 101), some (.inl 2)]) dX5_hasWord_27 rfl (by decide) rfl ?_
      refine Go_goto (pc := 30) (tgt := 2) dX5_hasWord_30 (by decide) ?_
      refine Go_iload_n (pc := 2) dX5_hasWord_2 rfl rfl ?_
      refine Go_aload_n (pc := 3) dX5_hasWord_3 rfl (by decide) rfl ?_
      refine Go_invV (pc := 4) (y := yJ0_length_8abf5) (avs := []) (k := 101) (rest := [.inl 2]) (x := .inl 4)  (d' := d - 1) dX5_hasWord_4 ln_X5_27 mo_J0_length_8abf5 vo_J0_length_8abf5 rfl (rc_s (i := 1) (by decide)) rfl rfl (Nat.le_of_ble_eq_true rfl) (by omega) (Nat.le_of_ble_eq_true rfl) rfl (s_J0_length_1 (by omega)) ?_
      refine Go_icmp_ge (pc := 7) (tgt := 33) dX5_hasWord_7 (by decide) (by decide) (by decide) (fun q => absurd q (by decide)) (fun _ => ?_)
      refine Go_aload_n (pc := 10) dX5_hasWord_10 rfl (by decide) rfl ?_
      refine Go_iload_n (pc := 11) dX5_hasWord_11 rfl rfl ?_
      refine Go_iload_n (pc := 12) dX5_hasWord_12 rfl rfl ?_
      refine Go_iadd (pc := 13) dX5_hasWord_13 ?_
      refine Go_invV (pc := 14) (y := yX5_at) (avs := [.inl (s + 2)]) (k := 7) (rest := []) (x := .inl (cT (M 8) (M 7 1) (s + 2)))  (d' := d - 1) dX5_hasWord_14 ln_X5_19 mo_X5_at vo_X5_at rfl (rc_7) rfl rfl (Nat.le_of_ble_eq_true rfl) (by omega) (Nat.le_of_ble_eq_true rfl) rfl (s_X5_at (by omega) h (by omega)) ?_
      refine Go_aload_n (pc := 17) dX5_hasWord_17 rfl (by decide) rfl ?_
      refine Go_iload_n (pc := 18) dX5_hasWord_18 rfl rfl ?_
      refine Go_invV (pc := 19) (y := yJ0_charAt_5068e) (avs := [.inl 2]) (k := 101) (rest := [.inl (cT (M 8) (M 7 1) (s + 2))]) (x := .inl 111)  (d' := d - 1) dX5_hasWord_19 ln_X5_32 mo_J0_charAt_5068e vo_J0_charAt_5068e rfl (rc_s (i := 1) (by decide)) rfl rfl (Nat.le_of_ble_eq_true rfl) (by omega) (Nat.le_of_ble_eq_true rfl) rfl (s_J0_charAt_1_2 (by omega)) ?_
      refine Go_icmp_eq (pc := 22) (tgt := 27) dX5_hasWord_22 (by decide) (by omega) (by decide) (fun c22b => ?_) (fun c22b => ?_)
      · refine Go_iinc (pc := 27) (L' := [some (.inr 7), some (.inl s), some (.inr 101), some (.inl 3)]) dX5_hasWord_27 rfl (by decide) rfl ?_
        refine Go_goto (pc := 30) (tgt := 2) dX5_hasWord_30 (by decide) ?_
        refine Go_iload_n (pc := 2) dX5_hasWord_2 rfl rfl ?_
        refine Go_aload_n (pc := 3) dX5_hasWord_3 rfl (by decide) rfl ?_
        refine Go_invV (pc := 4) (y := yJ0_length_8abf5) (avs := []) (k := 101) (rest := [.inl 3]) (x := .inl 4)  (d' := d - 1) dX5_hasWord_4 ln_X5_27 mo_J0_length_8abf5 vo_J0_length_8abf5 rfl (rc_s (i := 1) (by decide)) rfl rfl (Nat.le_of_ble_eq_true rfl) (by omega) (Nat.le_of_ble_eq_true rfl) rfl (s_J0_length_1 (by omega)) ?_
        refine Go_icmp_ge (pc := 7) (tgt := 33) dX5_hasWord_7 (by decide) (by decide) (by decide) (fun q => absurd q (by decide)) (fun _ => ?_)
        refine Go_aload_n (pc := 10) dX5_hasWord_10 rfl (by decide) rfl ?_
        refine Go_iload_n (pc := 11) dX5_hasWord_11 rfl rfl ?_
        refine Go_iload_n (pc := 12) dX5_hasWord_12 rfl rfl ?_
        refine Go_iadd (pc := 13) dX5_hasWord_13 ?_
        refine Go_invV (pc := 14) (y := yX5_at) (avs := [.inl (s + 3)]) (k := 7) (rest := []) (x := .inl (cT (M 8) (M 7 1) (s + 3)))  (d' := d - 1) dX5_hasWord_14 ln_X5_19 mo_X5_at vo_X5_at rfl (rc_7) rfl rfl (Nat.le_of_ble_eq_true rfl) (by omega) (Nat.le_of_ble_eq_true rfl) rfl (s_X5_at (by omega) h (by omega)) ?_
        refine Go_aload_n (pc := 17) dX5_hasWord_17 rfl (by decide) rfl ?_
        refine Go_iload_n (pc := 18) dX5_hasWord_18 rfl rfl ?_
        refine Go_invV (pc := 19) (y := yJ0_charAt_5068e) (avs := [.inl 3]) (k := 101) (rest := [.inl (cT (M 8) (M 7 1) (s + 3))]) (x := .inl 112)  (d' := d - 1) dX5_hasWord_19 ln_X5_32 mo_J0_charAt_5068e vo_J0_charAt_5068e rfl (rc_s (i := 1) (by decide)) rfl rfl (Nat.le_of_ble_eq_true rfl) (by omega) (Nat.le_of_ble_eq_true rfl) rfl (s_J0_charAt_1_3 (by omega)) ?_
        refine Go_icmp_eq (pc := 22) (tgt := 27) dX5_hasWord_22 (by decide) (by omega) (by decide) (fun c22c => ?_) (fun c22c => ?_)
        · refine Go_iinc (pc := 27) (L' := [some (.inr 7), some (.inl s), some (.inr 101), some (.inl 4)]) dX5_hasWord_27 rfl (by decide) rfl ?_
          refine Go_goto (pc := 30) (tgt := 2) dX5_hasWord_30 (by decide) ?_
          refine Go_iload_n (pc := 2) dX5_hasWord_2 rfl rfl ?_
          refine Go_aload_n (pc := 3) dX5_hasWord_3 rfl (by decide) rfl ?_
          refine Go_invV (pc := 4) (y := yJ0_length_8abf5) (avs := []) (k := 101) (rest := [.inl 4]) (x := .inl 4)  (d' := d - 1) dX5_hasWord_4 ln_X5_27 mo_J0_length_8abf5 vo_J0_length_8abf5 rfl (rc_s (i := 1) (by decide)) rfl rfl (Nat.le_of_ble_eq_true rfl) (by omega) (Nat.le_of_ble_eq_true rfl) rfl (s_J0_length_1 (by omega)) ?_
          refine Go_icmp_ge (pc := 7) (tgt := 33) dX5_hasWord_7 (by decide) (by decide) (by decide) (fun _ => ?_) (fun q => absurd q (by decide))
          refine Go_aload_n (pc := 33) dX5_hasWord_33 rfl (by decide) rfl ?_
          refine Go_iload_n (pc := 34) dX5_hasWord_34 rfl rfl ?_
          refine Go_invV (pc := 35) (y := yX5_lettersFrom) (avs := [.inl s]) (k := 7) (rest := []) (x := .inl (letE (M 8) (M 7 1) s - s))  (d' := d - 1) dX5_hasWord_35 ln_X5_35 mo_X5_lettersFrom vo_X5_lettersFrom rfl (rc_7) rfl rfl (Nat.le_of_ble_eq_true rfl) (by omega) (Nat.le_of_ble_eq_true rfl) rfl (s_X5_lettersFrom (by omega) h (by first | omega | (simp only [Nat.reduceAdd, setR_s]; omega) | (simp only [setR, Nat.reduceEqDiff, reduceIte]; omega)) (by first | omega | (simp only [Nat.reduceAdd, setR_s]; omega) | (simp only [setR, Nat.reduceEqDiff, reduceIte]; omega))) ?_
          refine Go_aload_n (pc := 38) dX5_hasWord_38 rfl (by decide) rfl ?_
          refine Go_invV (pc := 39) (y := yJ0_length_8abf5) (avs := []) (k := 101) (rest := [.inl (letE (M 8) (M 7 1) s - s)]) (x := .inl 4)  (d' := d - 1) dX5_hasWord_39 ln_X5_27 mo_J0_length_8abf5 vo_J0_length_8abf5 rfl (rc_s (i := 1) (by decide)) rfl rfl (Nat.le_of_ble_eq_true rfl) (by omega) (Nat.le_of_ble_eq_true rfl) rfl (s_J0_length_1 (by omega)) ?_
          refine Go_icmp_ne (pc := 42) (tgt := 49) dX5_hasWord_42 (by decide) (by omega) (by decide) (fun c42 => ?_) (fun c42 => ?_)
          · refine Go_iconst (pc := 49) dX5_hasWord_49 ?_
            exact Go_zreturn (pc := 50) dX5_hasWord_50 rfl (by decide) (by first | rw [b2i_t (by omega)] | rw [b2i_f (by omega)]) rfl
          · refine Go_iconst (pc := 45) dX5_hasWord_45 ?_
            refine Go_goto (pc := 46) (tgt := 50) dX5_hasWord_46 (by decide) ?_
            exact Go_zreturn (pc := 50) dX5_hasWord_50 rfl (by decide) (by first | rw [b2i_t (by omega)] | rw [b2i_f (by omega)]) rfl
        · refine Go_iconst (pc := 25) dX5_hasWord_25 ?_
          exact Go_zreturn (pc := 26) dX5_hasWord_26 rfl (by decide) (by first | rw [b2i_t (by omega)] | rw [b2i_f (by omega)]) rfl
      · refine Go_iconst (pc := 25) dX5_hasWord_25 ?_
        exact Go_zreturn (pc := 26) dX5_hasWord_26 rfl (by decide) (by first | rw [b2i_t (by omega)] | rw [b2i_f (by omega)]) rfl
    · refine Go_iconst (pc := 25) dX5_hasWord_25 ?_
      exact Go_zreturn (pc := 26) dX5_hasWord_26 rfl (by decide) (by first | rw [b2i_t (by omega)] | rw [b2i_f (by omega)]) rfl
  · refine Go_iconst (pc := 25) dX5_hasWord_25 ?_
    exact Go_zreturn (pc := 26) dX5_hasWord_26 rfl (by decide) (by first | rw [b2i_t (by omega)] | rw [b2i_f (by omega)]) rfl
abbrev wd2 (f : Int → Int) (n s : Int) : Prop := (cT f n (s + 0) = 117 ∧ cT f n (s + 1) = 110 ∧ cT f n (s + 2) = 116 ∧ cT f n (s + 3) = 105 ∧ cT f n (s + 4) = 101) ∧ letE f n s - s = 5
theorem s_X5_hasWord_2 {d : Nat} (hd : 4 ≤ d) {s : Int} {M : gMem} (h : TxOk (M 8) (M 7 1)) (s0 : 0 ≤ s) (s1 : s ≤ M 7 1) : Go d RX5 cX5_hasWord 4 (some .boolean) 0 [some (.inr 7), some (.inl s), some (.inr 102), none] [] M (some (.inl (b2i (wd2 (M 8) (M 7 1) s)))) M := by
  have hn := h.1
  have hL := letE_b (f := M 8) (n := M 7 1) s1
  have hb0 := cT_b h (s + 0)
  have hb1 := cT_b h (s + 1)
  have hb2 := cT_b h (s + 2)
  have hb3 := cT_b h (s + 3)
  have hb4 := cT_b h (s + 4)
  refine Go_iconst (pc := 0) dX5_hasWord_0 ?_
  refine Go_istore_n (pc := 1) (L' := [some (.inr 7), some (.inl s), some (.inr 102), some (.inl 0)]) dX5_hasWord_1 rfl (by decide) rfl ?_
  refine Go_iload_n (pc := 2) dX5_hasWord_2 rfl rfl ?_
  refine Go_aload_n (pc := 3) dX5_hasWord_3 rfl (by decide) rfl ?_
  refine Go_invV (pc := 4) (y := yJ0_length_8abf5) (avs := []) (k := 102) (rest := [.inl 0]) (x := .inl 5)  (d' := d - 1) dX5_hasWord_4 ln_X5_27 mo_J0_length_8abf5 vo_J0_length_8abf5 rfl (rc_s (i := 2) (by decide)) rfl rfl (Nat.le_of_ble_eq_true rfl) (by omega) (Nat.le_of_ble_eq_true rfl) rfl (s_J0_length_2 (by omega)) ?_
  refine Go_icmp_ge (pc := 7) (tgt := 33) dX5_hasWord_7 (by decide) (by decide) (by decide) (fun q => absurd q (by decide)) (fun _ => ?_)
  refine Go_aload_n (pc := 10) dX5_hasWord_10 rfl (by decide) rfl ?_
  refine Go_iload_n (pc := 11) dX5_hasWord_11 rfl rfl ?_
  refine Go_iload_n (pc := 12) dX5_hasWord_12 rfl rfl ?_
  refine Go_iadd (pc := 13) dX5_hasWord_13 ?_
  refine Go_invV (pc := 14) (y := yX5_at) (avs := [.inl (s + 0)]) (k := 7) (rest := []) (x := .inl (cT (M 8) (M 7 1) (s + 0)))  (d' := d - 1) dX5_hasWord_14 ln_X5_19 mo_X5_at vo_X5_at rfl (rc_7) rfl rfl (Nat.le_of_ble_eq_true rfl) (by omega) (Nat.le_of_ble_eq_true rfl) rfl (s_X5_at (by omega) h (by omega)) ?_
  refine Go_aload_n (pc := 17) dX5_hasWord_17 rfl (by decide) rfl ?_
  refine Go_iload_n (pc := 18) dX5_hasWord_18 rfl rfl ?_
  refine Go_invV (pc := 19) (y := yJ0_charAt_5068e) (avs := [.inl 0]) (k := 102) (rest := [.inl (cT (M 8) (M 7 1) (s + 0))]) (x := .inl 117)  (d' := d - 1) dX5_hasWord_19 ln_X5_32 mo_J0_charAt_5068e vo_J0_charAt_5068e rfl (rc_s (i := 2) (by decide)) rfl rfl (Nat.le_of_ble_eq_true rfl) (by omega) (Nat.le_of_ble_eq_true rfl) rfl (s_J0_charAt_2_0 (by omega)) ?_
  refine Go_icmp_eq (pc := 22) (tgt := 27) dX5_hasWord_22 (by decide) (by omega) (by decide) (fun c22 => ?_) (fun c22 => ?_)
  · refine Go_iinc (pc := 27) (L' := [some (.inr 7), some (.inl s), some (.inr 102), some (.inl 1)]) dX5_hasWord_27 rfl (by decide) rfl ?_
    refine Go_goto (pc := 30) (tgt := 2) dX5_hasWord_30 (by decide) ?_
    refine Go_iload_n (pc := 2) dX5_hasWord_2 rfl rfl ?_
    refine Go_aload_n (pc := 3) dX5_hasWord_3 rfl (by decide) rfl ?_
    refine Go_invV (pc := 4) (y := yJ0_length_8abf5) (avs := []) (k := 102) (rest := [.inl 1]) (x := .inl 5)  (d' := d - 1) dX5_hasWord_4 ln_X5_27 mo_J0_length_8abf5 vo_J0_length_8abf5 rfl (rc_s (i := 2) (by decide)) rfl rfl (Nat.le_of_ble_eq_true rfl) (by omega) (Nat.le_of_ble_eq_true rfl) rfl (s_J0_length_2 (by omega)) ?_
    refine Go_icmp_ge (pc := 7) (tgt := 33) dX5_hasWord_7 (by decide) (by decide) (by decide) (fun q => absurd q (by decide)) (fun _ => ?_)
    refine Go_aload_n (pc := 10) dX5_hasWord_10 rfl (by decide) rfl ?_
    refine Go_iload_n (pc := 11) dX5_hasWord_11 rfl rfl ?_
    refine Go_iload_n (pc := 12) dX5_hasWord_12 rfl rfl ?_
    refine Go_iadd (pc := 13) dX5_hasWord_13 ?_
    refine Go_invV (pc := 14) (y := yX5_at) (avs := [.inl (s + 1)]) (k := 7) (rest := []) (x := .inl (cT (M 8) (M 7 1) (s + 1)))  (d' := d - 1) dX5_hasWord_14 ln_X5_19 mo_X5_at vo_X5_at rfl (rc_7) rfl rfl (Nat.le_of_ble_eq_true rfl) (by omega) (Nat.le_of_ble_eq_true rfl) rfl (s_X5_at (by omega) h (by omega)) ?_
    refine Go_aload_n (pc := 17) dX5_hasWord_17 rfl (by decide) rfl ?_
    refine Go_iload_n (pc := 18) dX5_hasWord_18 rfl rfl ?_
    refine Go_invV (pc := 19) (y := yJ0_charAt_5068e) (avs := [.inl 1]) (k := 102) (rest := [.inl (cT (M 8) (M 7 1) (s + 1))]) (x := .inl 110)  (d' := d - 1) dX5_hasWord_19 ln_X5_32 mo_J0_charAt_5068e vo_J0_charAt_5068e rfl (rc_s (i := 2) (by decide)) rfl rfl (Nat.le_of_ble_eq_true rfl) (by omega) (Nat.le_of_ble_eq_true rfl) rfl (s_J0_charAt_2_1 (by omega)) ?_
    refine Go_icmp_eq (pc := 22) (tgt := 27) dX5_hasWord_22 (by decide) (by omega) (by decide) (fun c22a => ?_) (fun c22a => ?_)
    · refine Go_iinc (pc := 27) (L' := [some (.inr 7), some (.inl s), some (.inr 102), some (.inl 2)]) dX5_hasWord_27 rfl (by decide) rfl ?_
      refine Go_goto (pc := 30) (tgt := 2) dX5_hasWord_30 (by decide) ?_
      refine Go_iload_n (pc := 2) dX5_hasWord_2 rfl rfl ?_
      refine Go_aload_n (pc := 3) dX5_hasWord_3 rfl (by decide) rfl ?_
      refine Go_invV (pc := 4) (y := yJ0_length_8abf5) (avs := []) (k := 102) (rest := [.inl 2]) (x := .inl 5)  (d' := d - 1) dX5_hasWord_4 ln_X5_27 mo_J0_length_8abf5 vo_J0_length_8abf5 rfl (rc_s (i := 2) (by decide)) rfl rfl (Nat.le_of_ble_eq_true rfl) (by omega) (Nat.le_of_ble_eq_true rfl) rfl (s_J0_length_2 (by omega)) ?_
      refine Go_icmp_ge (pc := 7) (tgt := 33) dX5_hasWord_7 (by decide) (by decide) (by decide) (fun q => absurd q (by decide)) (fun _ => ?_)
      refine Go_aload_n (pc := 10) dX5_hasWord_10 rfl (by decide) rfl ?_
      refine Go_iload_n (pc := 11) dX5_hasWord_11 rfl rfl ?_
      refine Go_iload_n (pc := 12) dX5_hasWord_12 rfl rfl ?_
      refine Go_iadd (pc := 13) dX5_hasWord_13 ?_
      refine Go_invV (pc := 14) (y := yX5_at) (avs := [.inl (s + 2)]) (k := 7) (rest := []) (x := .inl (cT (M 8) (M 7 1) (s + 2)))  (d' := d - 1) dX5_hasWord_14 ln_X5_19 mo_X5_at vo_X5_at rfl (rc_7) rfl rfl (Nat.le_of_ble_eq_true rfl) (by omega) (Nat.le_of_ble_eq_true rfl) rfl (s_X5_at (by omega) h (by omega)) ?_
      refine Go_aload_n (pc := 17) dX5_hasWord_17 rfl (by decide) rfl ?_
      refine Go_iload_n (pc := 18) dX5_hasWord_18 rfl rfl ?_
      refine Go_invV (pc := 19) (y := yJ0_charAt_5068e) (avs := [.inl 2]) (k := 102) (rest := [.inl (cT (M 8) (M 7 1) (s + 2))]) (x := .inl 116)  (d' := d - 1) dX5_hasWord_19 ln_X5_32 mo_J0_charAt_5068e vo_J0_charAt_5068e rfl (rc_s (i := 2) (by decide)) rfl rfl (Nat.le_of_ble_eq_true rfl) (by omega) (Nat.le_of_ble_eq_true rfl) rfl (s_J0_charAt_2_2 (by omega)) ?_
      refine Go_icmp_eq (pc := 22) (tgt := 27) dX5_hasWord_22 (by decide) (by omega) (by decide) (fun c22b => ?_) (fun c22b => ?_)
      · refine Go_iinc (pc := 27) (L' := [some (.inr 7), some (.inl s), some (.inr 102), some (.inl 3)]) dX5_hasWord_27 rfl (by decide) rfl ?_
        refine Go_goto (pc := 30) (tgt := 2) dX5_hasWord_30 (by decide) ?_
        refine Go_iload_n (pc := 2) dX5_hasWord_2 rfl rfl ?_
        refine Go_aload_n (pc := 3) dX5_hasWord_3 rfl (by decide) rfl ?_
        refine Go_invV (pc := 4) (y := yJ0_length_8abf5) (avs := []) (k := 102) (rest := [.inl 3]) (x := .inl 5)  (d' := d - 1) dX5_hasWord_4 ln_X5_27 mo_J0_length_8abf5 vo_J0_length_8abf5 rfl (rc_s (i := 2) (by decide)) rfl rfl (Nat.le_of_ble_eq_true rfl) (by omega) (Nat.le_of_ble_eq_true rfl) rfl (s_J0_length_2 (by omega)) ?_
        refine Go_icmp_ge (pc := 7) (tgt := 33) dX5_hasWord_7 (by decide) (by decide) (by decide) (fun q => absurd q (by decide)) (fun _ => ?_)
        refine Go_aload_n (pc := 10) dX5_hasWord_10 rfl (by decide) rfl ?_
        refine Go_iload_n (pc := 11) dX5_hasWord_11 rfl rfl ?_
        refine Go_iload_n (pc := 12) dX5_hasWord_12 rfl rfl ?_
        refine Go_iadd (pc := 13) dX5_hasWord_13 ?_
        refine Go_invV (pc := 14) (y := yX5_at) (avs := [.inl (s + 3)]) (k := 7) (rest := []) (x := .inl (cT (M 8) (M 7 1) (s + 3)))  (d' := d - 1) dX5_hasWord_14 ln_X5_19 mo_X5_at vo_X5_at rfl (rc_7) rfl rfl (Nat.le_of_ble_eq_true rfl) (by omega) (Nat.le_of_ble_eq_true rfl) rfl (s_X5_at (by omega) h (by omega)) ?_
        refine Go_aload_n (pc := 17) dX5_hasWord_17 rfl (by decide) rfl ?_
        refine Go_iload_n (pc := 18) dX5_hasWord_18 rfl rfl ?_
        refine Go_invV (pc := 19) (y := yJ0_charAt_5068e) (avs := [.inl 3]) (k := 102) (rest := [.inl (cT (M 8) (M 7 1) (s + 3))]) (x := .inl 105)  (d' := d - 1) dX5_hasWord_19 ln_X5_32 mo_J0_charAt_5068e vo_J0_charAt_5068e rfl (rc_s (i := 2) (by decide)) rfl rfl (Nat.le_of_ble_eq_true rfl) (by omega) (Nat.le_of_ble_eq_true rfl) rfl (s_J0_charAt_2_3 (by omega)) ?_
        refine Go_icmp_eq (pc := 22) (tgt := 27) dX5_hasWord_22 (by decide) (by omega) (by decide) (fun c22c => ?_) (fun c22c => ?_)
        · refine Go_iinc (pc := 27) (L' := [some (.inr 7), some (.inl s), some (.inr 102), some (.inl 4)]) dX5_hasWord_27 rfl (by decide) rfl ?_
          refine Go_goto (pc := 30) (tgt := 2) dX5_hasWord_30 (by decide) ?_
          refine Go_iload_n (pc := 2) dX5_hasWord_2 rfl rfl ?_
          refine Go_aload_n (pc := 3) dX5_hasWord_3 rfl (by decide) rfl ?_
          refine Go_invV (pc := 4) (y := yJ0_length_8abf5) (avs := []) (k := 102) (rest := [.inl 4]) (x := .inl 5)  (d' := d - 1) dX5_hasWord_4 ln_X5_27 mo_J0_length_8abf5 vo_J0_length_8abf5 rfl (rc_s (i := 2) (by decide)) rfl rfl (Nat.le_of_ble_eq_true rfl) (by omega) (Nat.le_of_ble_eq_true rfl) rfl (s_J0_length_2 (by omega)) ?_
          refine Go_icmp_ge (pc := 7) (tgt := 33) dX5_hasWord_7 (by decide) (by decide) (by decide) (fun q => absurd q (by decide)) (fun _ => ?_)
          refine Go_aload_n (pc := 10) dX5_hasWord_10 rfl (by decide) rfl ?_
          refine Go_iload_n (pc := 11) dX5_hasWord_11 rfl rfl ?_
          refine Go_iload_n (pc := 12) dX5_hasWord_12 rfl rfl ?_
          refine Go_iadd (pc := 13) dX5_hasWord_13 ?_
          refine Go_invV (pc := 14) (y := yX5_at) (avs := [.inl (s + 4)]) (k := 7) (rest := []) (x := .inl (cT (M 8) (M 7 1) (s + 4)))  (d' := d - 1) dX5_hasWord_14 ln_X5_19 mo_X5_at vo_X5_at rfl (rc_7) rfl rfl (Nat.le_of_ble_eq_true rfl) (by omega) (Nat.le_of_ble_eq_true rfl) rfl (s_X5_at (by omega) h (by omega)) ?_
          refine Go_aload_n (pc := 17) dX5_hasWord_17 rfl (by decide) rfl ?_
          refine Go_iload_n (pc := 18) dX5_hasWord_18 rfl rfl ?_
          refine Go_invV (pc := 19) (y := yJ0_charAt_5068e) (avs := [.inl 4]) (k := 102) (rest := [.inl (cT (M 8) (M 7 1) (s + 4))]) (x := .inl 101)  (d' := d - 1) dX5_hasWord_19 ln_X5_32 mo_J0_charAt_5068e vo_J0_charAt_5068e rfl (rc_s (i := 2) (by decide)) rfl rfl (Nat.le_of_ble_eq_true rfl) (by omega) (Nat.le_of_ble_eq_true rfl) rfl (s_J0_charAt_2_4 (by omega)) ?_
          refine Go_icmp_eq (pc := 22) (tgt := 27) dX5_hasWord_22 (by decide) (by omega) (by decide) (fun c22d => ?_) (fun c22d => ?_)
          · refine Go_iinc (pc := 27) (L' := [some (.inr 7), some (.inl s), some (.inr 102), some (.inl 5)]) dX5_hasWord_27 rfl (by decide) rfl ?_
            refine Go_goto (pc := 30) (tgt := 2) dX5_hasWord_30 (by decide) ?_
            refine Go_iload_n (pc := 2) dX5_hasWord_2 rfl rfl ?_
            refine Go_aload_n (pc := 3) dX5_hasWord_3 rfl (by decide) rfl ?_
            refine Go_invV (pc := 4) (y := yJ0_length_8abf5) (avs := []) (k := 102) (rest := [.inl 5]) (x := .inl 5)  (d' := d - 1) dX5_hasWord_4 ln_X5_27 mo_J0_length_8abf5 vo_J0_length_8abf5 rfl (rc_s (i := 2) (by decide)) rfl rfl (Nat.le_of_ble_eq_true rfl) (by omega) (Nat.le_of_ble_eq_true rfl) rfl (s_J0_length_2 (by omega)) ?_
            refine Go_icmp_ge (pc := 7) (tgt := 33) dX5_hasWord_7 (by decide) (by decide) (by decide) (fun _ => ?_) (fun q => absurd q (by decide))
            refine Go_aload_n (pc := 33) dX5_hasWord_33 rfl (by decide) rfl ?_
            refine Go_iload_n (pc := 34) dX5_hasWord_34 rfl rfl ?_
            refine Go_invV (pc := 35) (y := yX5_lettersFrom) (avs := [.inl s]) (k := 7) (rest := []) (x := .inl (letE (M 8) (M 7 1) s - s))  (d' := d - 1) dX5_hasWord_35 ln_X5_35 mo_X5_lettersFrom vo_X5_lettersFrom rfl (rc_7) rfl rfl (Nat.le_of_ble_eq_true rfl) (by omega) (Nat.le_of_ble_eq_true rfl) rfl (s_X5_lettersFrom (by omega) h (by first | omega | (simp only [Nat.reduceAdd, setR_s]; omega) | (simp only [setR, Nat.reduceEqDiff, reduceIte]; omega)) (by first | omega | (simp only [Nat.reduceAdd, setR_s]; omega) | (simp only [setR, Nat.reduceEqDiff, reduceIte]; omega))) ?_
            refine Go_aload_n (pc := 38) dX5_hasWord_38 rfl (by decide) rfl ?_
            refine Go_invV (pc := 39) (y := yJ0_length_8abf5) (avs := []) (k := 102) (rest := [.inl (letE (M 8) (M 7 1) s - s)]) (x := .inl 5)  (d' := d - 1) dX5_hasWord_39 ln_X5_27 mo_J0_length_8abf5 vo_J0_length_8abf5 rfl (rc_s (i := 2) (by decide)) rfl rfl (Nat.le_of_ble_eq_true rfl) (by omega) (Nat.le_of_ble_eq_true rfl) rfl (s_J0_length_2 (by omega)) ?_
            refine Go_icmp_ne (pc := 42) (tgt := 49) dX5_hasWord_42 (by decide) (by omega) (by decide) (fun c42 => ?_) (fun c42 => ?_)
            · refine Go_iconst (pc := 49) dX5_hasWord_49 ?_
              exact Go_zreturn (pc := 50) dX5_hasWord_50 rfl (by decide) (by first | rw [b2i_t (by omega)] | rw [b2i_f (by omega)]) rfl
            · refine Go_iconst (pc := 45) dX5_hasWord_45 ?_
              refine Go_goto (pc := 46) (tgt := 50) dX5_hasWord_46 (by decide) ?_
              exact Go_zreturn (pc := 50) dX5_hasWord_50 rfl (by decide) (by first | rw [b2i_t (by omega)] | rw [b2i_f (by omega)]) rfl
          · refine Go_iconst (pc := 25) dX5_hasWord_25 ?_
            exact Go_zreturn (pc := 26) dX5_hasWord_26 rfl (by decide) (by first | rw [b2i_t (by omega)] | rw [b2i_f (by omega)]) rfl
        · refine Go_iconst (pc := 25) dX5_hasWord_25 ?_
          exact Go_zreturn (pc := 26) dX5_hasWord_26 rfl (by decide) (by first | rw [b2i_t (by omega)] | rw [b2i_f (by omega)]) rfl
      · refine Go_iconst (pc := 25) dX5_hasWord_25 ?_
        exact Go_zreturn (pc := 26) dX5_hasWord_26 rfl (by decide) (by first | rw [b2i_t (by omega)] | rw [b2i_f (by omega)]) rfl
    · refine Go_iconst (pc := 25) dX5_hasWord_25 ?_
      exact Go_zreturn (pc := 26) dX5_hasWord_26 rfl (by decide) (by first | rw [b2i_t (by omega)] | rw [b2i_f (by omega)]) rfl
  · refine Go_iconst (pc := 25) dX5_hasWord_25 ?_
    exact Go_zreturn (pc := 26) dX5_hasWord_26 rfl (by decide) (by first | rw [b2i_t (by omega)] | rw [b2i_f (by omega)]) rfl
abbrev wd3 (f : Int → Int) (n s : Int) : Prop := (cT f n (s + 0) = 116 ∧ cT f n (s + 1) = 101 ∧ cT f n (s + 2) = 108 ∧ cT f n (s + 3) = 108) ∧ letE f n s - s = 4
theorem s_X5_hasWord_3 {d : Nat} (hd : 4 ≤ d) {s : Int} {M : gMem} (h : TxOk (M 8) (M 7 1)) (s0 : 0 ≤ s) (s1 : s ≤ M 7 1) : Go d RX5 cX5_hasWord 4 (some .boolean) 0 [some (.inr 7), some (.inl s), some (.inr 103), none] [] M (some (.inl (b2i (wd3 (M 8) (M 7 1) s)))) M := by
  have hn := h.1
  have hL := letE_b (f := M 8) (n := M 7 1) s1
  have hb0 := cT_b h (s + 0)
  have hb1 := cT_b h (s + 1)
  have hb2 := cT_b h (s + 2)
  have hb3 := cT_b h (s + 3)
  refine Go_iconst (pc := 0) dX5_hasWord_0 ?_
  refine Go_istore_n (pc := 1) (L' := [some (.inr 7), some (.inl s), some (.inr 103), some (.inl 0)]) dX5_hasWord_1 rfl (by decide) rfl ?_
  refine Go_iload_n (pc := 2) dX5_hasWord_2 rfl rfl ?_
  refine Go_aload_n (pc := 3) dX5_hasWord_3 rfl (by decide) rfl ?_
  refine Go_invV (pc := 4) (y := yJ0_length_8abf5) (avs := []) (k := 103) (rest := [.inl 0]) (x := .inl 4)  (d' := d - 1) dX5_hasWord_4 ln_X5_27 mo_J0_length_8abf5 vo_J0_length_8abf5 rfl (rc_s (i := 3) (by decide)) rfl rfl (Nat.le_of_ble_eq_true rfl) (by omega) (Nat.le_of_ble_eq_true rfl) rfl (s_J0_length_3 (by omega)) ?_
  refine Go_icmp_ge (pc := 7) (tgt := 33) dX5_hasWord_7 (by decide) (by decide) (by decide) (fun q => absurd q (by decide)) (fun _ => ?_)
  refine Go_aload_n (pc := 10) dX5_hasWord_10 rfl (by decide) rfl ?_
  refine Go_iload_n (pc := 11) dX5_hasWord_11 rfl rfl ?_
  refine Go_iload_n (pc := 12) dX5_hasWord_12 rfl rfl ?_
  refine Go_iadd (pc := 13) dX5_hasWord_13 ?_
  refine Go_invV (pc := 14) (y := yX5_at) (avs := [.inl (s + 0)]) (k := 7) (rest := []) (x := .inl (cT (M 8) (M 7 1) (s + 0)))  (d' := d - 1) dX5_hasWord_14 ln_X5_19 mo_X5_at vo_X5_at rfl (rc_7) rfl rfl (Nat.le_of_ble_eq_true rfl) (by omega) (Nat.le_of_ble_eq_true rfl) rfl (s_X5_at (by omega) h (by omega)) ?_
  refine Go_aload_n (pc := 17) dX5_hasWord_17 rfl (by decide) rfl ?_
  refine Go_iload_n (pc := 18) dX5_hasWord_18 rfl rfl ?_
  refine Go_invV (pc := 19) (y := yJ0_charAt_5068e) (avs := [.inl 0]) (k := 103) (rest := [.inl (cT (M 8) (M 7 1) (s + 0))]) (x := .inl 116)  (d' := d - 1) dX5_hasWord_19 ln_X5_32 mo_J0_charAt_5068e vo_J0_charAt_5068e rfl (rc_s (i := 3) (by decide)) rfl rfl (Nat.le_of_ble_eq_true rfl) (by omega) (Nat.le_of_ble_eq_true rfl) rfl (s_J0_charAt_3_0 (by omega)) ?_
  refine Go_icmp_eq (pc := 22) (tgt := 27) dX5_hasWord_22 (by decide) (by omega) (by decide) (fun c22 => ?_) (fun c22 => ?_)
  · refine Go_iinc (pc := 27) (L' := [some (.inr 7), some (.inl s), some (.inr 103), some (.inl 1)]) dX5_hasWord_27 rfl (by decide) rfl ?_
    refine Go_goto (pc := 30) (tgt := 2) dX5_hasWord_30 (by decide) ?_
    refine Go_iload_n (pc := 2) dX5_hasWord_2 rfl rfl ?_
    refine Go_aload_n (pc := 3) dX5_hasWord_3 rfl (by decide) rfl ?_
    refine Go_invV (pc := 4) (y := yJ0_length_8abf5) (avs := []) (k := 103) (rest := [.inl 1]) (x := .inl 4)  (d' := d - 1) dX5_hasWord_4 ln_X5_27 mo_J0_length_8abf5 vo_J0_length_8abf5 rfl (rc_s (i := 3) (by decide)) rfl rfl (Nat.le_of_ble_eq_true rfl) (by omega) (Nat.le_of_ble_eq_true rfl) rfl (s_J0_length_3 (by omega)) ?_
    refine Go_icmp_ge (pc := 7) (tgt := 33) dX5_hasWord_7 (by decide) (by decide) (by decide) (fun q => absurd q (by decide)) (fun _ => ?_)
    refine Go_aload_n (pc := 10) dX5_hasWord_10 rfl (by decide) rfl ?_
    refine Go_iload_n (pc := 11) dX5_hasWord_11 rfl rfl ?_
    refine Go_iload_n (pc := 12) dX5_hasWord_12 rfl rfl ?_
    refine Go_iadd (pc := 13) dX5_hasWord_13 ?_
    refine Go_invV (pc := 14) (y := yX5_at) (avs := [.inl (s + 1)]) (k := 7) (rest := []) (x := .inl (cT (M 8) (M 7 1) (s + 1)))  (d' := d - 1) dX5_hasWord_14 ln_X5_19 mo_X5_at vo_X5_at rfl (rc_7) rfl rfl (Nat.le_of_ble_eq_true rfl) (by omega) (Nat.le_of_ble_eq_true rfl) rfl (s_X5_at (by omega) h (by omega)) ?_
    refine Go_aload_n (pc := 17) dX5_hasWord_17 rfl (by decide) rfl ?_
    refine Go_iload_n (pc := 18) dX5_hasWord_18 rfl rfl ?_
    refine Go_invV (pc := 19) (y := yJ0_charAt_5068e) (avs := [.inl 1]) (k := 103) (rest := [.inl (cT (M 8) (M 7 1) (s + 1))]) (x := .inl 101)  (d' := d - 1) dX5_hasWord_19 ln_X5_32 mo_J0_charAt_5068e vo_J0_charAt_5068e rfl (rc_s (i := 3) (by decide)) rfl rfl (Nat.le_of_ble_eq_true rfl) (by omega) (Nat.le_of_ble_eq_true rfl) rfl (s_J0_charAt_3_1 (by omega)) ?_
    refine Go_icmp_eq (pc := 22) (tgt := 27) dX5_hasWord_22 (by decide) (by omega) (by decide) (fun c22a => ?_) (fun c22a => ?_)
    · refine Go_iinc (pc := 27) (L' := [some (.inr 7), some (.inl s), some (.inr 103), some (.inl 2)]) dX5_hasWord_27 rfl (by decide) rfl ?_
      refine Go_goto (pc := 30) (tgt := 2) dX5_hasWord_30 (by decide) ?_
      refine Go_iload_n (pc := 2) dX5_hasWord_2 rfl rfl ?_
      refine Go_aload_n (pc := 3) dX5_hasWord_3 rfl (by decide) rfl ?_
      refine Go_invV (pc := 4) (y := yJ0_length_8abf5) (avs := []) (k := 103) (rest := [.inl 2]) (x := .inl 4)  (d' := d - 1) dX5_hasWord_4 ln_X5_27 mo_J0_length_8abf5 vo_J0_length_8abf5 rfl (rc_s (i := 3) (by decide)) rfl rfl (Nat.le_of_ble_eq_true rfl) (by omega) (Nat.le_of_ble_eq_true rfl) rfl (s_J0_length_3 (by omega)) ?_
      refine Go_icmp_ge (pc := 7) (tgt := 33) dX5_hasWord_7 (by decide) (by decide) (by decide) (fun q => absurd q (by decide)) (fun _ => ?_)
      refine Go_aload_n (pc := 10) dX5_hasWord_10 rfl (by decide) rfl ?_
      refine Go_iload_n (pc := 11) dX5_hasWord_11 rfl rfl ?_
      refine Go_iload_n (pc := 12) dX5_hasWord_12 rfl rfl ?_
      refine Go_iadd (pc := 13) dX5_hasWord_13 ?_
      refine Go_invV (pc := 14) (y := yX5_at) (avs := [.inl (s + 2)]) (k := 7) (rest := []) (x := .inl (cT (M 8) (M 7 1) (s + 2)))  (d' := d - 1) dX5_hasWord_14 ln_X5_19 mo_X5_at vo_X5_at rfl (rc_7) rfl rfl (Nat.le_of_ble_eq_true rfl) (by omega) (Nat.le_of_ble_eq_true rfl) rfl (s_X5_at (by omega) h (by omega)) ?_
      refine Go_aload_n (pc := 17) dX5_hasWord_17 rfl (by decide) rfl ?_
      refine Go_iload_n (pc := 18) dX5_hasWord_18 rfl rfl ?_
      refine Go_invV (pc := 19) (y := yJ0_charAt_5068e) (avs := [.inl 2]) (k := 103) (rest := [.inl (cT (M 8) (M 7 1) (s + 2))]) (x := .inl 108)  (d' := d - 1) dX5_hasWord_19 ln_X5_32 mo_J0_charAt_5068e vo_J0_charAt_5068e rfl (rc_s (i := 3) (by decide)) rfl rfl (Nat.le_of_ble_eq_true rfl) (by omega) (Nat.le_of_ble_eq_true rfl) rfl (s_J0_charAt_3_2 (by omega)) ?_
      refine Go_icmp_eq (pc := 22) (tgt := 27) dX5_hasWord_22 (by decide) (by omega) (by decide) (fun c22b => ?_) (fun c22b => ?_)
      · refine Go_iinc (pc := 27) (L' := [some (.inr 7), some (.inl s), some (.inr 103), some (.inl 3)]) dX5_hasWord_27 rfl (by decide) rfl ?_
        refine Go_goto (pc := 30) (tgt := 2) dX5_hasWord_30 (by decide) ?_
        refine Go_iload_n (pc := 2) dX5_hasWord_2 rfl rfl ?_
        refine Go_aload_n (pc := 3) dX5_hasWord_3 rfl (by decide) rfl ?_
        refine Go_invV (pc := 4) (y := yJ0_length_8abf5) (avs := []) (k := 103) (rest := [.inl 3]) (x := .inl 4)  (d' := d - 1) dX5_hasWord_4 ln_X5_27 mo_J0_length_8abf5 vo_J0_length_8abf5 rfl (rc_s (i := 3) (by decide)) rfl rfl (Nat.le_of_ble_eq_true rfl) (by omega) (Nat.le_of_ble_eq_true rfl) rfl (s_J0_length_3 (by omega)) ?_
        refine Go_icmp_ge (pc := 7) (tgt := 33) dX5_hasWord_7 (by decide) (by decide) (by decide) (fun q => absurd q (by decide)) (fun _ => ?_)
        refine Go_aload_n (pc := 10) dX5_hasWord_10 rfl (by decide) rfl ?_
        refine Go_iload_n (pc := 11) dX5_hasWord_11 rfl rfl ?_
        refine Go_iload_n (pc := 12) dX5_hasWord_12 rfl rfl ?_
        refine Go_iadd (pc := 13) dX5_hasWord_13 ?_
        refine Go_invV (pc := 14) (y := yX5_at) (avs := [.inl (s + 3)]) (k := 7) (rest := []) (x := .inl (cT (M 8) (M 7 1) (s + 3)))  (d' := d - 1) dX5_hasWord_14 ln_X5_19 mo_X5_at vo_X5_at rfl (rc_7) rfl rfl (Nat.le_of_ble_eq_true rfl) (by omega) (Nat.le_of_ble_eq_true rfl) rfl (s_X5_at (by omega) h (by omega)) ?_
        refine Go_aload_n (pc := 17) dX5_hasWord_17 rfl (by decide) rfl ?_
        refine Go_iload_n (pc := 18) dX5_hasWord_18 rfl rfl ?_
        refine Go_invV (pc := 19) (y := yJ0_charAt_5068e) (avs := [.inl 3]) (k := 103) (rest := [.inl (cT (M 8) (M 7 1) (s + 3))]) (x := .inl 108)  (d' := d - 1) dX5_hasWord_19 ln_X5_32 mo_J0_charAt_5068e vo_J0_charAt_5068e rfl (rc_s (i := 3) (by decide)) rfl rfl (Nat.le_of_ble_eq_true rfl) (by omega) (Nat.le_of_ble_eq_true rfl) rfl (s_J0_charAt_3_3 (by omega)) ?_
        refine Go_icmp_eq (pc := 22) (tgt := 27) dX5_hasWord_22 (by decide) (by omega) (by decide) (fun c22c => ?_) (fun c22c => ?_)
        · refine Go_iinc (pc := 27) (L' := [some (.inr 7), some (.inl s), some (.inr 103), some (.inl 4)]) dX5_hasWord_27 rfl (by decide) rfl ?_
          refine Go_goto (pc := 30) (tgt := 2) dX5_hasWord_30 (by decide) ?_
          refine Go_iload_n (pc := 2) dX5_hasWord_2 rfl rfl ?_
          refine Go_aload_n (pc := 3) dX5_hasWord_3 rfl (by decide) rfl ?_
          refine Go_invV (pc := 4) (y := yJ0_length_8abf5) (avs := []) (k := 103) (rest := [.inl 4]) (x := .inl 4)  (d' := d - 1) dX5_hasWord_4 ln_X5_27 mo_J0_length_8abf5 vo_J0_length_8abf5 rfl (rc_s (i := 3) (by decide)) rfl rfl (Nat.le_of_ble_eq_true rfl) (by omega) (Nat.le_of_ble_eq_true rfl) rfl (s_J0_length_3 (by omega)) ?_
          refine Go_icmp_ge (pc := 7) (tgt := 33) dX5_hasWord_7 (by decide) (by decide) (by decide) (fun _ => ?_) (fun q => absurd q (by decide))
          refine Go_aload_n (pc := 33) dX5_hasWord_33 rfl (by decide) rfl ?_
          refine Go_iload_n (pc := 34) dX5_hasWord_34 rfl rfl ?_
          refine Go_invV (pc := 35) (y := yX5_lettersFrom) (avs := [.inl s]) (k := 7) (rest := []) (x := .inl (letE (M 8) (M 7 1) s - s))  (d' := d - 1) dX5_hasWord_35 ln_X5_35 mo_X5_lettersFrom vo_X5_lettersFrom rfl (rc_7) rfl rfl (Nat.le_of_ble_eq_true rfl) (by omega) (Nat.le_of_ble_eq_true rfl) rfl (s_X5_lettersFrom (by omega) h (by first | omega | (simp only [Nat.reduceAdd, setR_s]; omega) | (simp only [setR, Nat.reduceEqDiff, reduceIte]; omega)) (by first | omega | (simp only [Nat.reduceAdd, setR_s]; omega) | (simp only [setR, Nat.reduceEqDiff, reduceIte]; omega))) ?_
          refine Go_aload_n (pc := 38) dX5_hasWord_38 rfl (by decide) rfl ?_
          refine Go_invV (pc := 39) (y := yJ0_length_8abf5) (avs := []) (k := 103) (rest := [.inl (letE (M 8) (M 7 1) s - s)]) (x := .inl 4)  (d' := d - 1) dX5_hasWord_39 ln_X5_27 mo_J0_length_8abf5 vo_J0_length_8abf5 rfl (rc_s (i := 3) (by decide)) rfl rfl (Nat.le_of_ble_eq_true rfl) (by omega) (Nat.le_of_ble_eq_true rfl) rfl (s_J0_length_3 (by omega)) ?_
          refine Go_icmp_ne (pc := 42) (tgt := 49) dX5_hasWord_42 (by decide) (by omega) (by decide) (fun c42 => ?_) (fun c42 => ?_)
          · refine Go_iconst (pc := 49) dX5_hasWord_49 ?_
            exact Go_zreturn (pc := 50) dX5_hasWord_50 rfl (by decide) (by first | rw [b2i_t (by omega)] | rw [b2i_f (by omega)]) rfl
          · refine Go_iconst (pc := 45) dX5_hasWord_45 ?_
            refine Go_goto (pc := 46) (tgt := 50) dX5_hasWord_46 (by decide) ?_
            exact Go_zreturn (pc := 50) dX5_hasWord_50 rfl (by decide) (by first | rw [b2i_t (by omega)] | rw [b2i_f (by omega)]) rfl
        · refine Go_iconst (pc := 25) dX5_hasWord_25 ?_
          exact Go_zreturn (pc := 26) dX5_hasWord_26 rfl (by decide) (by first | rw [b2i_t (by omega)] | rw [b2i_f (by omega)]) rfl
      · refine Go_iconst (pc := 25) dX5_hasWord_25 ?_
        exact Go_zreturn (pc := 26) dX5_hasWord_26 rfl (by decide) (by first | rw [b2i_t (by omega)] | rw [b2i_f (by omega)]) rfl
    · refine Go_iconst (pc := 25) dX5_hasWord_25 ?_
      exact Go_zreturn (pc := 26) dX5_hasWord_26 rfl (by decide) (by first | rw [b2i_t (by omega)] | rw [b2i_f (by omega)]) rfl
  · refine Go_iconst (pc := 25) dX5_hasWord_25 ?_
    exact Go_zreturn (pc := 26) dX5_hasWord_26 rfl (by decide) (by first | rw [b2i_t (by omega)] | rw [b2i_f (by omega)]) rfl
abbrev wd4 (f : Int → Int) (n s : Int) : Prop := (cT f n (s + 0) = 112 ∧ cT f n (s + 1) = 97 ∧ cT f n (s + 2) = 115 ∧ cT f n (s + 3) = 115) ∧ letE f n s - s = 4
theorem s_X5_hasWord_4 {d : Nat} (hd : 4 ≤ d) {s : Int} {M : gMem} (h : TxOk (M 8) (M 7 1)) (s0 : 0 ≤ s) (s1 : s ≤ M 7 1) : Go d RX5 cX5_hasWord 4 (some .boolean) 0 [some (.inr 7), some (.inl s), some (.inr 104), none] [] M (some (.inl (b2i (wd4 (M 8) (M 7 1) s)))) M := by
  have hn := h.1
  have hL := letE_b (f := M 8) (n := M 7 1) s1
  have hb0 := cT_b h (s + 0)
  have hb1 := cT_b h (s + 1)
  have hb2 := cT_b h (s + 2)
  have hb3 := cT_b h (s + 3)
  refine Go_iconst (pc := 0) dX5_hasWord_0 ?_
  refine Go_istore_n (pc := 1) (L' := [some (.inr 7), some (.inl s), some (.inr 104), some (.inl 0)]) dX5_hasWord_1 rfl (by decide) rfl ?_
  refine Go_iload_n (pc := 2) dX5_hasWord_2 rfl rfl ?_
  refine Go_aload_n (pc := 3) dX5_hasWord_3 rfl (by decide) rfl ?_
  refine Go_invV (pc := 4) (y := yJ0_length_8abf5) (avs := []) (k := 104) (rest := [.inl 0]) (x := .inl 4)  (d' := d - 1) dX5_hasWord_4 ln_X5_27 mo_J0_length_8abf5 vo_J0_length_8abf5 rfl (rc_s (i := 4) (by decide)) rfl rfl (Nat.le_of_ble_eq_true rfl) (by omega) (Nat.le_of_ble_eq_true rfl) rfl (s_J0_length_4 (by omega)) ?_
  refine Go_icmp_ge (pc := 7) (tgt := 33) dX5_hasWord_7 (by decide) (by decide) (by decide) (fun q => absurd q (by decide)) (fun _ => ?_)
  refine Go_aload_n (pc := 10) dX5_hasWord_10 rfl (by decide) rfl ?_
  refine Go_iload_n (pc := 11) dX5_hasWord_11 rfl rfl ?_
  refine Go_iload_n (pc := 12) dX5_hasWord_12 rfl rfl ?_
  refine Go_iadd (pc := 13) dX5_hasWord_13 ?_
  refine Go_invV (pc := 14) (y := yX5_at) (avs := [.inl (s + 0)]) (k := 7) (rest := []) (x := .inl (cT (M 8) (M 7 1) (s + 0)))  (d' := d - 1) dX5_hasWord_14 ln_X5_19 mo_X5_at vo_X5_at rfl (rc_7) rfl rfl (Nat.le_of_ble_eq_true rfl) (by omega) (Nat.le_of_ble_eq_true rfl) rfl (s_X5_at (by omega) h (by omega)) ?_
  refine Go_aload_n (pc := 17) dX5_hasWord_17 rfl (by decide) rfl ?_
  refine Go_iload_n (pc := 18) dX5_hasWord_18 rfl rfl ?_
  refine Go_invV (pc := 19) (y := yJ0_charAt_5068e) (avs := [.inl 0]) (k := 104) (rest := [.inl (cT (M 8) (M 7 1) (s + 0))]) (x := .inl 112)  (d' := d - 1) dX5_hasWord_19 ln_X5_32 mo_J0_charAt_5068e vo_J0_charAt_5068e rfl (rc_s (i := 4) (by decide)) rfl rfl (Nat.le_of_ble_eq_true rfl) (by omega) (Nat.le_of_ble_eq_true rfl) rfl (s_J0_charAt_4_0 (by omega)) ?_
  refine Go_icmp_eq (pc := 22) (tgt := 27) dX5_hasWord_22 (by decide) (by omega) (by decide) (fun c22 => ?_) (fun c22 => ?_)
  · refine Go_iinc (pc := 27) (L' := [some (.inr 7), some (.inl s), some (.inr 104), some (.inl 1)]) dX5_hasWord_27 rfl (by decide) rfl ?_
    refine Go_goto (pc := 30) (tgt := 2) dX5_hasWord_30 (by decide) ?_
    refine Go_iload_n (pc := 2) dX5_hasWord_2 rfl rfl ?_
    refine Go_aload_n (pc := 3) dX5_hasWord_3 rfl (by decide) rfl ?_
    refine Go_invV (pc := 4) (y := yJ0_length_8abf5) (avs := []) (k := 104) (rest := [.inl 1]) (x := .inl 4)  (d' := d - 1) dX5_hasWord_4 ln_X5_27 mo_J0_length_8abf5 vo_J0_length_8abf5 rfl (rc_s (i := 4) (by decide)) rfl rfl (Nat.le_of_ble_eq_true rfl) (by omega) (Nat.le_of_ble_eq_true rfl) rfl (s_J0_length_4 (by omega)) ?_
    refine Go_icmp_ge (pc := 7) (tgt := 33) dX5_hasWord_7 (by decide) (by decide) (by decide) (fun q => absurd q (by decide)) (fun _ => ?_)
    refine Go_aload_n (pc := 10) dX5_hasWord_10 rfl (by decide) rfl ?_
    refine Go_iload_n (pc := 11) dX5_hasWord_11 rfl rfl ?_
    refine Go_iload_n (pc := 12) dX5_hasWord_12 rfl rfl ?_
    refine Go_iadd (pc := 13) dX5_hasWord_13 ?_
    refine Go_invV (pc := 14) (y := yX5_at) (avs := [.inl (s + 1)]) (k := 7) (rest := []) (x := .inl (cT (M 8) (M 7 1) (s + 1)))  (d' := d - 1) dX5_hasWord_14 ln_X5_19 mo_X5_at vo_X5_at rfl (rc_7) rfl rfl (Nat.le_of_ble_eq_true rfl) (by omega) (Nat.le_of_ble_eq_true rfl) rfl (s_X5_at (by omega) h (by omega)) ?_
    refine Go_aload_n (pc := 17) dX5_hasWord_17 rfl (by decide) rfl ?_
    refine Go_iload_n (pc := 18) dX5_hasWord_18 rfl rfl ?_
    refine Go_invV (pc := 19) (y := yJ0_charAt_5068e) (avs := [.inl 1]) (k := 104) (rest := [.inl (cT (M 8) (M 7 1) (s + 1))]) (x := .inl 97)  (d' := d - 1) dX5_hasWord_19 ln_X5_32 mo_J0_charAt_5068e vo_J0_charAt_5068e rfl (rc_s (i := 4) (by decide)) rfl rfl (Nat.le_of_ble_eq_true rfl) (by omega) (Nat.le_of_ble_eq_true rfl) rfl (s_J0_charAt_4_1 (by omega)) ?_
    refine Go_icmp_eq (pc := 22) (tgt := 27) dX5_hasWord_22 (by decide) (by omega) (by decide) (fun c22a => ?_) (fun c22a => ?_)
    · refine Go_iinc (pc := 27) (L' := [some (.inr 7), some (.inl s), some (.inr 104), some (.inl 2)]) dX5_hasWord_27 rfl (by decide) rfl ?_
      refine Go_goto (pc := 30) (tgt := 2) dX5_hasWord_30 (by decide) ?_
      refine Go_iload_n (pc := 2) dX5_hasWord_2 rfl rfl ?_
      refine Go_aload_n (pc := 3) dX5_hasWord_3 rfl (by decide) rfl ?_
      refine Go_invV (pc := 4) (y := yJ0_length_8abf5) (avs := []) (k := 104) (rest := [.inl 2]) (x := .inl 4)  (d' := d - 1) dX5_hasWord_4 ln_X5_27 mo_J0_length_8abf5 vo_J0_length_8abf5 rfl (rc_s (i := 4) (by decide)) rfl rfl (Nat.le_of_ble_eq_true rfl) (by omega) (Nat.le_of_ble_eq_true rfl) rfl (s_J0_length_4 (by omega)) ?_
      refine Go_icmp_ge (pc := 7) (tgt := 33) dX5_hasWord_7 (by decide) (by decide) (by decide) (fun q => absurd q (by decide)) (fun _ => ?_)
      refine Go_aload_n (pc := 10) dX5_hasWord_10 rfl (by decide) rfl ?_
      refine Go_iload_n (pc := 11) dX5_hasWord_11 rfl rfl ?_
      refine Go_iload_n (pc := 12) dX5_hasWord_12 rfl rfl ?_
      refine Go_iadd (pc := 13) dX5_hasWord_13 ?_
      refine Go_invV (pc := 14) (y := yX5_at) (avs := [.inl (s + 2)]) (k := 7) (rest := []) (x := .inl (cT (M 8) (M 7 1) (s + 2)))  (d' := d - 1) dX5_hasWord_14 ln_X5_19 mo_X5_at vo_X5_at rfl (rc_7) rfl rfl (Nat.le_of_ble_eq_true rfl) (by omega) (Nat.le_of_ble_eq_true rfl) rfl (s_X5_at (by omega) h (by omega)) ?_
      refine Go_aload_n (pc := 17) dX5_hasWord_17 rfl (by decide) rfl ?_
      refine Go_iload_n (pc := 18) dX5_hasWord_18 rfl rfl ?_
      refine Go_invV (pc := 19) (y := yJ0_charAt_5068e) (avs := [.inl 2]) (k := 104) (rest := [.inl (cT (M 8) (M 7 1) (s + 2))]) (x := .inl 115)  (d' := d - 1) dX5_hasWord_19 ln_X5_32 mo_J0_charAt_5068e vo_J0_charAt_5068e rfl (rc_s (i := 4) (by decide)) rfl rfl (Nat.le_of_ble_eq_true rfl) (by omega) (Nat.le_of_ble_eq_true rfl) rfl (s_J0_charAt_4_2 (by omega)) ?_
      refine Go_icmp_eq (pc := 22) (tgt := 27) dX5_hasWord_22 (by decide) (by omega) (by decide) (fun c22b => ?_) (fun c22b => ?_)
      · refine Go_iinc (pc := 27) (L' := [some (.inr 7), some (.inl s), some (.inr 104), some (.inl 3)]) dX5_hasWord_27 rfl (by decide) rfl ?_
        refine Go_goto (pc := 30) (tgt := 2) dX5_hasWord_30 (by decide) ?_
        refine Go_iload_n (pc := 2) dX5_hasWord_2 rfl rfl ?_
        refine Go_aload_n (pc := 3) dX5_hasWord_3 rfl (by decide) rfl ?_
        refine Go_invV (pc := 4) (y := yJ0_length_8abf5) (avs := []) (k := 104) (rest := [.inl 3]) (x := .inl 4)  (d' := d - 1) dX5_hasWord_4 ln_X5_27 mo_J0_length_8abf5 vo_J0_length_8abf5 rfl (rc_s (i := 4) (by decide)) rfl rfl (Nat.le_of_ble_eq_true rfl) (by omega) (Nat.le_of_ble_eq_true rfl) rfl (s_J0_length_4 (by omega)) ?_
        refine Go_icmp_ge (pc := 7) (tgt := 33) dX5_hasWord_7 (by decide) (by decide) (by decide) (fun q => absurd q (by decide)) (fun _ => ?_)
        refine Go_aload_n (pc := 10) dX5_hasWord_10 rfl (by decide) rfl ?_
        refine Go_iload_n (pc := 11) dX5_hasWord_11 rfl rfl ?_
        refine Go_iload_n (pc := 12) dX5_hasWord_12 rfl rfl ?_
        refine Go_iadd (pc := 13) dX5_hasWord_13 ?_
        refine Go_invV (pc := 14) (y := yX5_at) (avs := [.inl (s + 3)]) (k := 7) (rest := []) (x := .inl (cT (M 8) (M 7 1) (s + 3)))  (d' := d - 1) dX5_hasWord_14 ln_X5_19 mo_X5_at vo_X5_at rfl (rc_7) rfl rfl (Nat.le_of_ble_eq_true rfl) (by omega) (Nat.le_of_ble_eq_true rfl) rfl (s_X5_at (by omega) h (by omega)) ?_
        refine Go_aload_n (pc := 17) dX5_hasWord_17 rfl (by decide) rfl ?_
        refine Go_iload_n (pc := 18) dX5_hasWord_18 rfl rfl ?_
        refine Go_invV (pc := 19) (y := yJ0_charAt_5068e) (avs := [.inl 3]) (k := 104) (rest := [.inl (cT (M 8) (M 7 1) (s + 3))]) (x := .inl 115)  (d' := d - 1) dX5_hasWord_19 ln_X5_32 mo_J0_charAt_5068e vo_J0_charAt_5068e rfl (rc_s (i := 4) (by decide)) rfl rfl (Nat.le_of_ble_eq_true rfl) (by omega) (Nat.le_of_ble_eq_true rfl) rfl (s_J0_charAt_4_3 (by omega)) ?_
        refine Go_icmp_eq (pc := 22) (tgt := 27) dX5_hasWord_22 (by decide) (by omega) (by decide) (fun c22c => ?_) (fun c22c => ?_)
        · refine Go_iinc (pc := 27) (L' := [some (.inr 7), some (.inl s), some (.inr 104), some (.inl 4)]) dX5_hasWord_27 rfl (by decide) rfl ?_
          refine Go_goto (pc := 30) (tgt := 2) dX5_hasWord_30 (by decide) ?_
          refine Go_iload_n (pc := 2) dX5_hasWord_2 rfl rfl ?_
          refine Go_aload_n (pc := 3) dX5_hasWord_3 rfl (by decide) rfl ?_
          refine Go_invV (pc := 4) (y := yJ0_length_8abf5) (avs := []) (k := 104) (rest := [.inl 4]) (x := .inl 4)  (d' := d - 1) dX5_hasWord_4 ln_X5_27 mo_J0_length_8abf5 vo_J0_length_8abf5 rfl (rc_s (i := 4) (by decide)) rfl rfl (Nat.le_of_ble_eq_true rfl) (by omega) (Nat.le_of_ble_eq_true rfl) rfl (s_J0_length_4 (by omega)) ?_
          refine Go_icmp_ge (pc := 7) (tgt := 33) dX5_hasWord_7 (by decide) (by decide) (by decide) (fun _ => ?_) (fun q => absurd q (by decide))
          refine Go_aload_n (pc := 33) dX5_hasWord_33 rfl (by decide) rfl ?_
          refine Go_iload_n (pc := 34) dX5_hasWord_34 rfl rfl ?_
          refine Go_invV (pc := 35) (y := yX5_lettersFrom) (avs := [.inl s]) (k := 7) (rest := []) (x := .inl (letE (M 8) (M 7 1) s - s))  (d' := d - 1) dX5_hasWord_35 ln_X5_35 mo_X5_lettersFrom vo_X5_lettersFrom rfl (rc_7) rfl rfl (Nat.le_of_ble_eq_true rfl) (by omega) (Nat.le_of_ble_eq_true rfl) rfl (s_X5_lettersFrom (by omega) h (by first | omega | (simp only [Nat.reduceAdd, setR_s]; omega) | (simp only [setR, Nat.reduceEqDiff, reduceIte]; omega)) (by first | omega | (simp only [Nat.reduceAdd, setR_s]; omega) | (simp only [setR, Nat.reduceEqDiff, reduceIte]; omega))) ?_
          refine Go_aload_n (pc := 38) dX5_hasWord_38 rfl (by decide) rfl ?_
          refine Go_invV (pc := 39) (y := yJ0_length_8abf5) (avs := []) (k := 104) (rest := [.inl (letE (M 8) (M 7 1) s - s)]) (x := .inl 4)  (d' := d - 1) dX5_hasWord_39 ln_X5_27 mo_J0_length_8abf5 vo_J0_length_8abf5 rfl (rc_s (i := 4) (by decide)) rfl rfl (Nat.le_of_ble_eq_true rfl) (by omega) (Nat.le_of_ble_eq_true rfl) rfl (s_J0_length_4 (by omega)) ?_
          refine Go_icmp_ne (pc := 42) (tgt := 49) dX5_hasWord_42 (by decide) (by omega) (by decide) (fun c42 => ?_) (fun c42 => ?_)
          · refine Go_iconst (pc := 49) dX5_hasWord_49 ?_
            exact Go_zreturn (pc := 50) dX5_hasWord_50 rfl (by decide) (by first | rw [b2i_t (by omega)] | rw [b2i_f (by omega)]) rfl
          · refine Go_iconst (pc := 45) dX5_hasWord_45 ?_
            refine Go_goto (pc := 46) (tgt := 50) dX5_hasWord_46 (by decide) ?_
            exact Go_zreturn (pc := 50) dX5_hasWord_50 rfl (by decide) (by first | rw [b2i_t (by omega)] | rw [b2i_f (by omega)]) rfl
        · refine Go_iconst (pc := 25) dX5_hasWord_25 ?_
          exact Go_zreturn (pc := 26) dX5_hasWord_26 rfl (by decide) (by first | rw [b2i_t (by omega)] | rw [b2i_f (by omega)]) rfl
      · refine Go_iconst (pc := 25) dX5_hasWord_25 ?_
        exact Go_zreturn (pc := 26) dX5_hasWord_26 rfl (by decide) (by first | rw [b2i_t (by omega)] | rw [b2i_f (by omega)]) rfl
    · refine Go_iconst (pc := 25) dX5_hasWord_25 ?_
      exact Go_zreturn (pc := 26) dX5_hasWord_26 rfl (by decide) (by first | rw [b2i_t (by omega)] | rw [b2i_f (by omega)]) rfl
  · refine Go_iconst (pc := 25) dX5_hasWord_25 ?_
    exact Go_zreturn (pc := 26) dX5_hasWord_26 rfl (by decide) (by first | rw [b2i_t (by omega)] | rw [b2i_f (by omega)]) rfl
