/-! the reference: how far, whether right -/
def inH (f t : Int → Int) (k i : Int) : Int := sc f k 0 + sumZ (fun j => effH f k j * t j) i
theorem inH_s (f t : Int → Int) (k : Int) {i : Int} (h : 0 ≤ i) : inH f t k (i + 1) = inH f t k i + (bitV (tc f i 0) k * t i - bitV (tc f i 1) k * t i) := by
  unfold inH
  rw [sumZ_s _ h]
  show _ + (_ + (bitV (tc f i 0) k - bitV (tc f i 1) k) * t i) = _
  rw [Int.sub_mul]
  omega
def offV (f t : Int → Int) (k : Int) : Int := inH f t k (f 1) - sc f k 6
theorem offV_b {f t : Int → Int} (hW : Wf f) (hb : boxV (f 1) t) {k : Int} (k0 : 0 ≤ k) (k1 : k < 8) : -100 ≤ offV f t k ∧ offV f t k ≤ 100 := by
  have ht := hW.t
  have a := sumZ_b (g := fun j => effH f k j * t j) (a := -9) (b := 9) ht.1 (fun j p q => by
    have e := mul_01 (b := t j) (effH_01 hW (j := j) k0 k1).1
    have h := hb j p q
    show -9 ≤ effH f k j * t j ∧ effH f k j * t j ≤ 9
    omega)
  have b := hW.ht k
  have c := hW.to k
  unfold offV inH
  omega
theorem offV_iff (f t : Int → Int) (k : Int) : offV f t k = 0 ↔ sc f k 6 - sc f k 0 = sumZ (fun j => effH f k j * t j) (f 1) := by
  unfold offV inH
  omega
noncomputable def okB (f : Int → Int) (i : Int) (t : Int → Int) : Int := @ite _ (okH f i t) (Classical.propDecidable _) 1 0
theorem okB_y {f t : Int → Int} {i : Int} (h : okH f i t) : okB f i t = 1 := if_pos h
theorem okB_n {f t : Int → Int} {i : Int} (h : ¬ okH f i t) : okB f i t = 0 := if_neg h
theorem okB_01 (f t : Int → Int) (i : Int) : (okB f i t = 1 ∧ okH f i t) ∨ (okB f i t = 0 ∧ ¬ okH f i t) := by
  by_cases h : okH f i t
  · exact Or.inl ⟨okB_y h, h⟩
  · exact Or.inr ⟨okB_n h, h⟩
theorem okB_s {f t : Int → Int} {i : Int} (i0 : 0 ≤ i) : okB f (i + 1) t = if okB f i t = 1 ∧ (¬ 0 ≤ sc f i 6 ∨ offV f t i = 0) then 1 else 0 := by
  by_cases c : okB f i t = 1 ∧ (¬ 0 ≤ sc f i 6 ∨ offV f t i = 0)
  · rw [if_pos c]
    rcases okB_01 f t i with ⟨_, o⟩ | ⟨z, _⟩
    · refine okB_y (fun k p q r => ?_)
      by_cases e : k = i
      · subst e
        rcases c.2 with x | x
        · exact absurd r x
        · exact (offV_iff f t k).mp x
      · exact o k p (by omega) r
    · omega
  · rw [if_neg c]
    refine okB_n (fun o => c ⟨?_, ?_⟩)
    · exact okB_y (fun k p q r => o k p (by omega) r)
    · by_cases r : 0 ≤ sc f i 6
      · exact Or.inr ((offV_iff f t i).mpr (o i i0 (by omega) r))
      · exact Or.inl r
theorem s_X8_off {d : Nat} (hd : 3 ≤ d) {k : Int} {M : gMem} (hW : Wf (M 17)) (k0 : 0 ≤ k) (k1 : k < 8) : Go d RX8 cX8_off 4 (some .int) 0 [some (.inr 16), some (.inl k), none, none] [] M (some (.inl (offV (M 17) (M 25) k))) M := by
  have ht := hW.t
  have K : ∀ i, 0 ≤ i → i ≤ M 17 1 → Go d RX8 cX8_off 4 (some .int) 9 [some (.inr 16), some (.inl k), some (.inl (inH (M 17) (M 25) k i)), some (.inl i)] [] M (some (.inl (offV (M 17) (M 25) k))) M := by
    refine up_ind 0 (M 17 1) _ (fun i i0 i1 ih => ?_)
    rw [inH_s _ _ _ i0] at ih
    have eE : i = M 17 1 → offV (M 17) (M 25) k = inH (M 17) (M 25) k i - sc (M 17) k 6 := fun e => by subst e; rfl
    generalize inH (M 17) (M 25) k i = H at ih eE ⊢
    refine Go_iload_n (pc := 9) dX8_off_9 rfl rfl ?_
    refine Go_aload_n (pc := 10) dX8_off_10 rfl (by decide) rfl ?_
    refine Go_getr (pc := 11) (r := 17) dX8_off_11 fo_X8_7 (by decide) rfl rfl (by decide) ?_
    refine Go_iconst (pc := 14) dX8_off_14 ?_
    refine Go_iaload (pc := 15) (z := M 17 1) dX8_off_15 (by decide) rfl (by decide) (by decide) (rfl) ?_
    refine Go_icmp_ge (pc := 16) (tgt := 63) dX8_off_16 (by decide) (by omega) (by omega) (fun c16 => ?_) (fun c16 => ?_)
    · refine Go_iload_n (pc := 63) dX8_off_63 rfl rfl ?_
      refine Go_aload_n (pc := 64) dX8_off_64 rfl (by decide) rfl ?_
      refine Go_iload_n (pc := 65) dX8_off_65 rfl rfl ?_
      refine Go_bipush (pc := 66) dX8_off_66 (by decide) (by decide) ?_
      refine Go_invV (pc := 68) (y := yX8_sh) (avs := [.inl k, .inl 6]) (k := 16) (rest := [.inl H]) (x := .inl (sc (M 17) k 6))  (d' := d - 1) dX8_off_68 ln_X8_59 mo_X8_sh vo_X8_sh rfl (rc_16) rfl rfl (Nat.le_of_ble_eq_true rfl) (by omega) (Nat.le_of_ble_eq_true rfl) rfl (s_X8_sh (by omega) (by first | omega | (simp only [Nat.reduceAdd, setR_s]; omega) | (simp only [setR, Nat.reduceEqDiff, reduceIte]; omega)) (by first | omega | (simp only [Nat.reduceAdd, setR_s]; omega) | (simp only [setR, Nat.reduceEqDiff, reduceIte]; omega)) (by decide) (by decide)) ?_
      refine Go_isub (pc := 71) dX8_off_71 ?_
      exact Go_ireturn (pc := 72) dX8_off_72 rfl (by rw [eE (by omega)]) rfl
    · refine Go_iload_n (pc := 19) dX8_off_19 rfl rfl ?_
      refine Go_aload_n (pc := 20) dX8_off_20 rfl (by decide) rfl ?_
      refine Go_iload_n (pc := 21) dX8_off_21 rfl rfl ?_
      refine Go_iconst (pc := 22) dX8_off_22 ?_
      refine Go_invV (pc := 23) (y := yX8_st) (avs := [.inl i, .inl 0]) (k := 16) (rest := [.inl H]) (x := .inl (tc (M 17) i 0))  (d' := d - 1) dX8_off_23 ln_X8_63 mo_X8_st vo_X8_st rfl (rc_16) rfl rfl (Nat.le_of_ble_eq_true rfl) (by omega) (Nat.le_of_ble_eq_true rfl) rfl (s_X8_st (by omega) (by first | omega | (simp only [Nat.reduceAdd, setR_s]; omega) | (simp only [setR, Nat.reduceEqDiff, reduceIte]; omega)) (by first | omega | (simp only [Nat.reduceAdd, setR_s]; omega) | (simp only [setR, Nat.reduceEqDiff, reduceIte]; omega)) (by decide) (by decide)) ?_
      refine Go_iload_n (pc := 26) dX8_off_26 rfl rfl ?_
      refine Go_ishr (pc := 27) dX8_off_27 ?_
      refine Go_iconst (pc := 28) dX8_off_28 ?_
      refine Go_iand (pc := 29) dX8_off_29 ?_
      refine Go_aload_n (pc := 30) dX8_off_30 rfl (by decide) rfl ?_
      refine Go_getr (pc := 31) (r := 25) dX8_off_31 fo_X8_35 (by decide) rfl rfl (by decide) ?_
      refine Go_iload_n (pc := 34) dX8_off_34 rfl rfl ?_
      refine Go_iaload (pc := 35) (z := M 25 i) dX8_off_35 (by decide) rfl (by omega) (by omega) (rfl) ?_
      refine Go_imul (pc := 36) dX8_off_36 ?_
      refine Go_aload_n (pc := 37) dX8_off_37 rfl (by decide) rfl ?_
      refine Go_iload_n (pc := 38) dX8_off_38 rfl rfl ?_
      refine Go_iconst (pc := 39) dX8_off_39 ?_
      refine Go_invV (pc := 40) (y := yX8_st) (avs := [.inl i, .inl 1]) (k := 16) (rest := [.inl ((gand (gshr (tc (M 17) i 0) k) 1) * (M 25 i)), .inl H]) (x := .inl (tc (M 17) i 1))  (d' := d - 1) dX8_off_40 ln_X8_63 mo_X8_st vo_X8_st rfl (rc_16) rfl rfl (Nat.le_of_ble_eq_true rfl) (by omega) (Nat.le_of_ble_eq_true rfl) rfl (s_X8_st (by omega) (by first | omega | (simp only [Nat.reduceAdd, setR_s]; omega) | (simp only [setR, Nat.reduceEqDiff, reduceIte]; omega)) (by first | omega | (simp only [Nat.reduceAdd, setR_s]; omega) | (simp only [setR, Nat.reduceEqDiff, reduceIte]; omega)) (by decide) (by decide)) ?_
      refine Go_iload_n (pc := 43) dX8_off_43 rfl rfl ?_
      refine Go_ishr (pc := 44) dX8_off_44 ?_
      refine Go_iconst (pc := 45) dX8_off_45 ?_
      refine Go_iand (pc := 46) dX8_off_46 ?_
      refine Go_aload_n (pc := 47) dX8_off_47 rfl (by decide) rfl ?_
      refine Go_getr (pc := 48) (r := 25) dX8_off_48 fo_X8_35 (by decide) rfl rfl (by decide) ?_
      refine Go_iload_n (pc := 51) dX8_off_51 rfl rfl ?_
      refine Go_iaload (pc := 52) (z := M 25 i) dX8_off_52 (by decide) rfl (by omega) (by omega) (rfl) ?_
      refine Go_imul (pc := 53) dX8_off_53 ?_
      refine Go_isub (pc := 54) dX8_off_54 ?_
      refine Go_iadd (pc := 55) dX8_off_55 ?_
      refine Go_istore_n (pc := 56) (L' := [some (.inr 16), some (.inl k), some (.inl (H + (((gand (gshr (tc (M 17) i 0) k) 1) * (M 25 i)) - ((gand (gshr (tc (M 17) i 1) k) 1) * (M 25 i))))), some (.inl i)]) dX8_off_56 rfl (by decide) rfl ?_
      refine Go_iinc (pc := 57) (L' := [some (.inr 16), some (.inl k), some (.inl (H + (((gand (gshr (tc (M 17) i 0) k) 1) * (M 25 i)) - ((gand (gshr (tc (M 17) i 1) k) 1) * (M 25 i))))), some (.inl (i + 1))]) dX8_off_57 rfl (by decide) rfl ?_
      refine Go_goto (pc := 60) (tgt := 9) dX8_off_60 (by decide) ?_
      exact ih (by omega)
  refine Go_aload_n (pc := 0) dX8_off_0 rfl (by decide) rfl ?_
  refine Go_iload_n (pc := 1) dX8_off_1 rfl rfl ?_
  refine Go_iconst (pc := 2) dX8_off_2 ?_
  refine Go_invV (pc := 3) (y := yX8_sh) (avs := [.inl k, .inl 0]) (k := 16) (rest := []) (x := .inl (sc (M 17) k 0))  (d' := d - 1) dX8_off_3 ln_X8_59 mo_X8_sh vo_X8_sh rfl (rc_16) rfl rfl (Nat.le_of_ble_eq_true rfl) (by omega) (Nat.le_of_ble_eq_true rfl) rfl (s_X8_sh (by omega) (by first | omega | (simp only [Nat.reduceAdd, setR_s]; omega) | (simp only [setR, Nat.reduceEqDiff, reduceIte]; omega)) (by first | omega | (simp only [Nat.reduceAdd, setR_s]; omega) | (simp only [setR, Nat.reduceEqDiff, reduceIte]; omega)) (by decide) (by decide)) ?_
  refine Go_istore_n (pc := 6) (L' := [some (.inr 16), some (.inl k), some (.inl (sc (M 17) k 0)), none]) dX8_off_6 rfl (by decide) rfl ?_
  refine Go_iconst (pc := 7) dX8_off_7 ?_
  refine Go_istore_n (pc := 8) (L' := [some (.inr 16), some (.inl k), some (.inl (sc (M 17) k 0)), some (.inl 0)]) dX8_off_8 rfl (by decide) rfl ?_
  exact Go_LS (by rw [show inH (M 17) (M 25) k 0 = sc (M 17) k 0 from by unfold inH; rw [sumZ_0]; omega]) rfl (K 0 (by omega) (by omega))
theorem s_X8_isRight {d : Nat} (hd : 5 ≤ d) {M : gMem} (hW : Wf (M 17)) (hb : boxV (M 17 1) (M 25)) : Go d RX8 cX8_isRight 3 (some .boolean) 0 [some (.inr 16), none, none] [] M (some (.inl (okB (M 17) (M 17 0) (M 25)))) M := by
  have hn := hW.n
  have K : ∀ i, 0 ≤ i → i ≤ M 17 0 → Go d RX8 cX8_isRight 3 (some .boolean) 4 [some (.inr 16), some (.inl (okB (M 17) i (M 25))), some (.inl i)] [] M (some (.inl (okB (M 17) (M 17 0) (M 25)))) M := by
    refine up_ind 0 (M 17 0) _ (fun i i0 i1 ih => ?_)
    have h01 := okB_01 (M 17) (M 25) i
    have hob := fun h : i < 8 => offV_b hW hb (k := i) i0 h
    rw [okB_s i0] at ih
    have eE : i = M 17 0 → okB (M 17) (M 17 0) (M 25) = okB (M 17) i (M 25) := fun e => by rw [e]
    generalize okB (M 17) i (M 25) = B at ih eE h01 ⊢
    have hB : B = 0 ∨ B = 1 := by rcases h01 with ⟨a, _⟩ | ⟨a, _⟩ <;> omega
    clear h01
    refine Go_iload_n (pc := 4) dX8_isRight_4 rfl rfl ?_
    refine Go_aload_n (pc := 5) dX8_isRight_5 rfl (by decide) rfl ?_
    refine Go_getr (pc := 6) (r := 17) dX8_isRight_6 fo_X8_7 (by decide) rfl rfl (by decide) ?_
    refine Go_iconst (pc := 9) dX8_isRight_9 ?_
    refine Go_iaload (pc := 10) (z := M 17 0) dX8_isRight_10 (by decide) rfl (by decide) (by decide) (rfl) ?_
    refine Go_icmp_ge (pc := 11) (tgt := 46) dX8_isRight_11 (by decide) (by omega) (by omega) (fun c11 => ?_) (fun c11 => ?_)
    · refine Go_iload_n (pc := 46) dX8_isRight_46 rfl rfl ?_
      exact Go_zreturn (pc := 47) dX8_isRight_47 rfl (by omega) (by rw [eE (by omega)]) rfl
    · refine Go_iload_n (pc := 14) dX8_isRight_14 rfl rfl ?_
      refine Go_if_eq (pc := 15) (tgt := 38) dX8_isRight_15 (by decide) (by omega) (fun c15 => ?_) (fun c15 => ?_)
      · refine Go_iconst (pc := 38) dX8_isRight_38 ?_
        refine Go_istore_n (pc := 39) (L' := [some (.inr 16), some (.inl 0), some (.inl i)]) dX8_isRight_39 rfl (by decide) rfl ?_
        refine Go_iinc (pc := 40) (L' := [some (.inr 16), some (.inl 0), some (.inl (i + 1))]) dX8_isRight_40 rfl (by decide) rfl ?_
        refine Go_goto (pc := 43) (tgt := 4) dX8_isRight_43 (by decide) ?_
        refine Go_LS ?_ rfl (ih (by omega))
        first | rw [if_pos (by omega)] | rw [if_neg (by omega)]
      · refine Go_aload_n (pc := 18) dX8_isRight_18 rfl (by decide) rfl ?_
        refine Go_iload_n (pc := 19) dX8_isRight_19 rfl rfl ?_
        refine Go_invV (pc := 20) (y := yX8_isTold) (avs := [.inl i]) (k := 16) (rest := []) (x := .inl (b2i (0 ≤ sc (M 17) i 6)))  (d' := d - 1) dX8_isRight_20 ln_X8_100 mo_X8_isTold vo_X8_isTold rfl (rc_16) rfl rfl (Nat.le_of_ble_eq_true rfl) (by omega) (Nat.le_of_ble_eq_true rfl) rfl (s_X8_isTold (by omega) hW (by first | omega | (simp only [Nat.reduceAdd, setR_s]; omega) | (simp only [setR, Nat.reduceEqDiff, reduceIte]; omega)) (by first | omega | (simp only [Nat.reduceAdd, setR_s]; omega) | (simp only [setR, Nat.reduceEqDiff, reduceIte]; omega))) ?_
        refine Go_ifeqB (pc := 23) (tgt := 34) dX8_isRight_23 (by decide) (fun c23 => ?_) (fun c23 => ?_)
        · refine Go_iconst (pc := 34) dX8_isRight_34 ?_
          refine Go_goto (pc := 35) (tgt := 39) dX8_isRight_35 (by decide) ?_
          refine Go_istore_n (pc := 39) (L' := [some (.inr 16), some (.inl 1), some (.inl i)]) dX8_isRight_39 rfl (by decide) rfl ?_
          refine Go_iinc (pc := 40) (L' := [some (.inr 16), some (.inl 1), some (.inl (i + 1))]) dX8_isRight_40 rfl (by decide) rfl ?_
          refine Go_goto (pc := 43) (tgt := 4) dX8_isRight_43 (by decide) ?_
          refine Go_LS ?_ rfl (ih (by omega))
          first | rw [if_pos (by omega)] | rw [if_neg (by omega)]
        · refine Go_aload_n (pc := 26) dX8_isRight_26 rfl (by decide) rfl ?_
          refine Go_iload_n (pc := 27) dX8_isRight_27 rfl rfl ?_
          refine Go_invV (pc := 28) (y := yX8_off) (avs := [.inl i]) (k := 16) (rest := []) (x := .inl (offV (M 17) (M 25) i))  (d' := d - 1) dX8_isRight_28 ln_X8_137 mo_X8_off vo_X8_off rfl (rc_16) rfl rfl (Nat.le_of_ble_eq_true rfl) (by omega) (Nat.le_of_ble_eq_true rfl) rfl (s_X8_off (by omega) hW (by first | omega | (simp only [Nat.reduceAdd, setR_s]; omega) | (simp only [setR, Nat.reduceEqDiff, reduceIte]; omega)) (by first | omega | (simp only [Nat.reduceAdd, setR_s]; omega) | (simp only [setR, Nat.reduceEqDiff, reduceIte]; omega))) ?_
          refine Go_if_ne (pc := 31) (tgt := 38) dX8_isRight_31 (by decide) (by omega) (fun c31 => ?_) (fun c31 => ?_)
          · refine Go_iconst (pc := 38) dX8_isRight_38 ?_
            refine Go_istore_n (pc := 39) (L' := [some (.inr 16), some (.inl 0), some (.inl i)]) dX8_isRight_39 rfl (by decide) rfl ?_
            refine Go_iinc (pc := 40) (L' := [some (.inr 16), some (.inl 0), some (.inl (i + 1))]) dX8_isRight_40 rfl (by decide) rfl ?_
            refine Go_goto (pc := 43) (tgt := 4) dX8_isRight_43 (by decide) ?_
            refine Go_LS ?_ rfl (ih (by omega))
            first | rw [if_pos (by omega)] | rw [if_neg (by omega)]
          · refine Go_iconst (pc := 34) dX8_isRight_34 ?_
            refine Go_goto (pc := 35) (tgt := 39) dX8_isRight_35 (by decide) ?_
            refine Go_istore_n (pc := 39) (L' := [some (.inr 16), some (.inl 1), some (.inl i)]) dX8_isRight_39 rfl (by decide) rfl ?_
            refine Go_iinc (pc := 40) (L' := [some (.inr 16), some (.inl 1), some (.inl (i + 1))]) dX8_isRight_40 rfl (by decide) rfl ?_
            refine Go_goto (pc := 43) (tgt := 4) dX8_isRight_43 (by decide) ?_
            refine Go_LS ?_ rfl (ih (by omega))
            first | rw [if_pos (by omega)] | rw [if_neg (by omega)]
  refine Go_iconst (pc := 0) dX8_isRight_0 ?_
  refine Go_istore_n (pc := 1) (L' := [some (.inr 16), some (.inl 1), none]) dX8_isRight_1 rfl (by decide) rfl ?_
  refine Go_iconst (pc := 2) dX8_isRight_2 ?_
  refine Go_istore_n (pc := 3) (L' := [some (.inr 16), some (.inl 1), some (.inl 0)]) dX8_isRight_3 rfl (by decide) rfl ?_
  exact Go_LS (by rw [okB_y (f := M 17) (t := M 25) (i := 0) (fun k p q => by omega)]) rfl (K 0 (by omega) (by omega))
