/-! a group by its place; the history; the text -/
def gaN (f : Int → Int) : Nat → Int → Int → Int
  | 0, _, _ => -1000004
  | m + 1, k, r => if sc f (k - 1) 3 = 0 then (if r = 0 then gm (begG f k) (endG f k) else gaN f m (k + 1) (r - 1)) else gaN f m (k + 1) r
/-- the group at place r of those from shade k on -/
def gaZ (f : Int → Int) (k r : Int) : Int := gaN f (f 0 - k).toNat k r
theorem gaZ_out {f : Int → Int} {k r : Int} (h : f 0 ≤ k) : gaZ f k r = -1000004 := by
  unfold gaZ
  rw [show (f 0 - k).toNat = 0 by omega]
  rfl
theorem gaZ_go {f : Int → Int} {k r : Int} (h : k < f 0) : gaZ f k r = if sc f (k - 1) 3 = 0 then (if r = 0 then gm (begG f k) (endG f k) else gaZ f (k + 1) (r - 1)) else gaZ f (k + 1) r := by
  unfold gaZ
  rw [show (f 0 - k).toNat = (f 0 - (k + 1)).toNat + 1 by omega]
  rfl
def groupAtF (f : Int → Int) (a : Int) : Int := if a < 0 then -1000001 else gaZ f 0 a
theorem s_X7_groupAt {d : Nat} (hd : 4 ≤ d) {a : Int} {M : gMem} (hW : Wf (M 2)) (ha : inR a) : Go d RX7 cX7_groupAt 4 (some .int) 0 [some (.inr 0), some (.inl a), none, none] [] M (some (.inl (groupAtF (M 2) a))) M := by
  have hn := hW.n
  have K : 0 ≤ a → ∀ i, 0 ≤ i → i ≤ M 2 0 → ∀ g, 0 ≤ g → g ≤ i → Go d RX7 cX7_groupAt 4 (some .int) 11 [some (.inr 0), some (.inl a), some (.inl g), some (.inl i)] [] M (some (.inl (gaZ (M 2) i (a - g)))) M := by
    intro a0
    refine up_ind 0 (M 2 0) _ (fun i h0 h1 ih g g0 g1 => ?_)
    refine Go_iload_n (pc := 11) dX7_groupAt_11 rfl rfl ?_
    refine Go_aload_n (pc := 12) dX7_groupAt_12 rfl (by decide) rfl ?_
    refine Go_getr (pc := 13) (r := 1) dX7_groupAt_13 fo_X7_10 (by decide) rfl rfl (by decide) ?_
    refine Go_invV (pc := 16) (y := yX1_shades) (avs := []) (k := 1) (rest := [.inl i]) (x := .inl (M 2 0))  (d' := d - 1) dX7_groupAt_16 ln_X7_121 mo_X1_shades vo_X1_shades rfl (rc_1) rfl rfl (Nat.le_of_ble_eq_true rfl) (by omega) (Nat.le_of_ble_eq_true rfl) rfl (s_X1_shades (by omega) (by decide)) ?_
    refine Go_icmp_ge (pc := 19) (tgt := 56) dX7_groupAt_19 (by decide) (by omega) (by omega) (fun c19 => ?_) (fun c19 => ?_)
    · refine Go_ldc (pc := 56) (n := -1000004) rfl kc_X7_110 dX7_groupAt_56 ?_
      exact Go_ireturn (pc := 58) dX7_groupAt_58 rfl (by first | rw [gaZ_out (by omega)] | rw [gaZ_go (by omega), if_pos (by assumption), if_pos (by omega)]) rfl
    · refine Go_aload_n (pc := 22) dX7_groupAt_22 rfl (by decide) rfl ?_
      refine Go_getr (pc := 23) (r := 1) dX7_groupAt_23 fo_X7_10 (by decide) rfl rfl (by decide) ?_
      refine Go_iload_n (pc := 26) dX7_groupAt_26 rfl rfl ?_
      refine Go_invV (pc := 27) (y := yX1_isLowestOfGroup) (avs := [.inl i]) (k := 1) (rest := []) (x := .inl (b2i (sc (M 2) (i - 1) 3 = 0)))  (d' := d - 1) dX7_groupAt_27 ln_X7_125 mo_X1_isLowestOfGroup vo_X1_isLowestOfGroup rfl (rc_1) rfl rfl (Nat.le_of_ble_eq_true rfl) (by omega) (Nat.le_of_ble_eq_true rfl) rfl (s_X1_isLowestOfGroup (by omega) (by decide) (by first | omega | (simp only [Nat.reduceAdd]; omega)) (by first | omega | (simp only [Nat.reduceAdd]; omega)) hW) ?_
      refine Go_ifeqB (pc := 30) (tgt := 50) dX7_groupAt_30 (by decide) (fun c30 => ?_) (fun c30 => ?_)
      · refine Go_iinc (pc := 50) (L' := [some (.inr 0), some (.inl a), some (.inl g), some (.inl (i + 1))]) dX7_groupAt_50 rfl (by decide) rfl ?_
        refine Go_goto (pc := 53) (tgt := 11) dX7_groupAt_53 (by decide) ?_
        first | exact Go_v (by rw [gaZ_go (k := i) (by omega), if_neg (by assumption)]) rfl (ih (by omega) g g0 (by omega)) | exact Go_v (by rw [gaZ_go (k := i) (by omega), if_pos (by assumption), if_neg (by omega), show a - g - 1 = a - (g + 1) by omega]) rfl (ih (by omega) (g + 1) (by omega) (by omega))
      · refine Go_iload_n (pc := 33) dX7_groupAt_33 rfl rfl ?_
        refine Go_iload_n (pc := 34) dX7_groupAt_34 rfl rfl ?_
        refine Go_icmp_ne (pc := 35) (tgt := 47) dX7_groupAt_35 (by decide) (by omega) (by omega) (fun c35 => ?_) (fun c35 => ?_)
        · refine Go_iinc (pc := 47) (L' := [some (.inr 0), some (.inl a), some (.inl (g + 1)), some (.inl i)]) dX7_groupAt_47 rfl (by decide) rfl ?_
          refine Go_iinc (pc := 50) (L' := [some (.inr 0), some (.inl a), some (.inl (g + 1)), some (.inl (i + 1))]) dX7_groupAt_50 rfl (by decide) rfl ?_
          refine Go_goto (pc := 53) (tgt := 11) dX7_groupAt_53 (by decide) ?_
          first | exact Go_v (by rw [gaZ_go (k := i) (by omega), if_neg (by assumption)]) rfl (ih (by omega) g g0 (by omega)) | exact Go_v (by rw [gaZ_go (k := i) (by omega), if_pos (by assumption), if_neg (by omega), show a - g - 1 = a - (g + 1) by omega]) rfl (ih (by omega) (g + 1) (by omega) (by omega))
        · refine Go_aload_n (pc := 38) dX7_groupAt_38 rfl (by decide) rfl ?_
          refine Go_getr (pc := 39) (r := 1) dX7_groupAt_39 fo_X7_10 (by decide) rfl rfl (by decide) ?_
          refine Go_iload_n (pc := 42) dX7_groupAt_42 rfl rfl ?_
          refine Go_invV (pc := 43) (y := yX1_groupOf) (avs := [.inl i]) (k := 1) (rest := []) (x := .inl (gm (begG (M 2) i) (endG (M 2) i)))  (d' := d - 1) dX7_groupAt_43 ln_X7_99 mo_X1_groupOf vo_X1_groupOf rfl (rc_1) rfl rfl (Nat.le_of_ble_eq_true rfl) (by omega) (Nat.le_of_ble_eq_true rfl) rfl (s_X1_groupOf (by omega) (by decide) hW (by first | omega | (simp only [Nat.reduceAdd]; omega)) (by first | omega | (simp only [Nat.reduceAdd]; omega))) ?_
          exact Go_ireturn (pc := 46) dX7_groupAt_46 rfl (by first | rw [gaZ_out (by omega)] | rw [gaZ_go (by omega), if_pos (by assumption), if_pos (by omega)]) rfl
  refine Go_iload_n (pc := 0) dX7_groupAt_0 rfl rfl ?_
  refine Go_if_ge (pc := 1) (tgt := 7) dX7_groupAt_1 (by decide) (by omega) (fun c1 => ?_) (fun c1 => ?_)
  · refine Go_iconst (pc := 7) dX7_groupAt_7 ?_
    refine Go_istore_n (pc := 8) (L' := [some (.inr 0), some (.inl a), some (.inl 0), none]) dX7_groupAt_8 rfl (by decide) rfl ?_
    refine Go_iconst (pc := 9) dX7_groupAt_9 ?_
    refine Go_istore_n (pc := 10) (L' := [some (.inr 0), some (.inl a), some (.inl 0), some (.inl 0)]) dX7_groupAt_10 rfl (by decide) rfl ?_
    exact Go_v (by unfold groupAtF; rw [if_neg (by omega), Int.sub_zero]) rfl (K (by omega) 0 (by omega) (by omega) 0 (by omega) (by omega))
  · refine Go_ldc (pc := 4) (n := -1000001) rfl kc_X7_94 dX7_groupAt_4 ?_
    exact Go_ireturn (pc := 6) dX7_groupAt_6 rfl (by unfold groupAtF; rw [if_pos (by omega)]) rfl
/-- no group begins between a shade of a group and its end -/
theorem gaZ_end {f : Int → Int} {k : Int} (h0 : 0 ≤ k) (h1 : k < f 0) (r : Int) : gaZ f (k + 1) r = gaZ f (endG f k + 1) r := by
  have H : ∀ i : Int, k ≤ i → i ≤ f 0 - 1 → gaZ f (i + 1) r = gaZ f (endG f i + 1) r := by
    refine up_ind k (f 0 - 1) _ (fun i a b ih => ?_)
    by_cases h : i + 1 < f 0 ∧ 0 < sc f i 3
    · rw [endG_go h.1 h.2, gaZ_go h.1, if_neg (by rw [show i + 1 - 1 = i by omega]; omega), ih (by omega)]
    · rw [endG_st h]
  exact H k (Int.le_refl k) (by omega)
theorem endG_kz {f : Int → Int} (hW : Wf f) {k : Int} (h1 : k < f 0) : sc f (endG f k) 3 = 0 := by
  have H : ∀ i : Int, k ≤ i → i ≤ f 0 - 1 → sc f (endG f i) 3 = 0 := by
    refine up_ind k (f 0 - 1) _ (fun i a b ih => ?_)
    by_cases h : i + 1 < f 0 ∧ 0 < sc f i 3
    · rw [endG_go h.1 h.2]; exact ih (by omega)
    · rw [endG_st h]
      have h2 := hW.kn i
      by_cases h3 : i + 1 < f 0
      · omega
      · exact hW.kz (by omega)
  exact H k (Int.le_refl k) (by omega)
theorem s_X8_groupAt {d : Nat} (hd : 4 ≤ d) {a : Int} {M : gMem} (hW : Wf (M 17)) (ha : inR a) : Go d RX8 cX8_groupAt 4 (some .int) 0 [some (.inr 16), some (.inl a), none, none] [] M (some (.inl (groupAtF (M 17) a))) M := by
  have hn := hW.n
  have K : ∀ (m : Nat) (k r : Int), (M 17 0 - k).toNat = m → 0 ≤ k → k ≤ M 17 0 → sc (M 17) (k - 1) 3 = 0 → 0 ≤ r → r ≤ 2147483647 → Go d RX8 cX8_groupAt 4 (some .int) 11 [some (.inr 16), some (.inl a), some (.inl r), some (.inl k)] [] M (some (.inl (gaZ (M 17) k r))) M := by
    intro m
    induction m using Nat.strongRecOn with
    | _ m ih =>
      intro k r hm k0 k1 kz r0 r1
      refine Go_iload_n (pc := 11) dX8_groupAt_11 rfl rfl ?_
      refine Go_aload_n (pc := 12) dX8_groupAt_12 rfl (by decide) rfl ?_
      refine Go_getr (pc := 13) (r := 17) dX8_groupAt_13 fo_X8_7 (by decide) rfl rfl (by decide) ?_
      refine Go_iconst (pc := 16) dX8_groupAt_16 ?_
      refine Go_iaload (pc := 17) (z := M 17 0) dX8_groupAt_17 (by decide) rfl (by decide) (by decide) (rfl) ?_
      refine Go_icmp_ge (pc := 18) (tgt := 45) dX8_groupAt_18 (by decide) (by omega) (by omega) (fun c18 => ?_) (fun c18 => ?_)
      · refine Go_ldc (pc := 45) (n := -1000004) rfl kc_X8_123 dX8_groupAt_45 ?_
        exact Go_ireturn (pc := 47) dX8_groupAt_47 rfl (by first | rw [gaZ_out (by omega)] | rw [gaZ_go (by omega), if_pos kz, if_pos (by omega)]) rfl
      · refine Go_iload_n (pc := 21) dX8_groupAt_21 rfl rfl ?_
        refine Go_if_ne (pc := 22) (tgt := 31) dX8_groupAt_22 (by decide) (by omega) (fun c22 => ?_) (fun c22 => ?_)
        · refine Go_iinc (pc := 31) (L' := [some (.inr 16), some (.inl a), some (.inl (r + (-1))), some (.inl k)]) dX8_groupAt_31 rfl (by decide) rfl ?_
          refine Go_aload_n (pc := 34) dX8_groupAt_34 rfl (by decide) rfl ?_
          refine Go_iload_n (pc := 35) dX8_groupAt_35 rfl rfl ?_
          refine Go_invV (pc := 36) (y := yX8_endOf) (avs := [.inl k]) (k := 16) (rest := []) (x := .inl (endG (M 17) k))  (d' := d - 1) dX8_groupAt_36 ln_X8_66 mo_X8_endOf vo_X8_endOf rfl (rc_16) rfl rfl (Nat.le_of_ble_eq_true rfl) (by omega) (Nat.le_of_ble_eq_true rfl) rfl (s_X8_endOf (by omega) hW (by first | omega | (simp only [Nat.reduceAdd]; omega)) (by first | omega | (simp only [Nat.reduceAdd]; omega))) ?_
          refine Go_iconst (pc := 39) dX8_groupAt_39 ?_
          refine Go_iadd (pc := 40) dX8_groupAt_40 ?_
          refine Go_istore_n (pc := 41) (L' := [some (.inr 16), some (.inl a), some (.inl (r + (-1))), some (.inl ((endG (M 17) k) + 1))]) dX8_groupAt_41 rfl (by decide) rfl ?_
          refine Go_goto (pc := 42) (tgt := 11) dX8_groupAt_42 (by decide) ?_
          have hb := endG_b (f := M 17) (k := k) (by omega)
          refine Go_v ?_ rfl (ih _ (by omega) (endG (M 17) k + 1) (r - 1) rfl (by omega) (by omega) (by rw [show endG (M 17) k + 1 - 1 = endG (M 17) k by omega]; exact endG_kz hW (by omega)) (by omega) (by omega))
          rw [gaZ_go (k := k) (by omega), if_pos kz, if_neg (by omega), gaZ_end k0 (by omega)]
        · refine Go_aload_n (pc := 25) dX8_groupAt_25 rfl (by decide) rfl ?_
          refine Go_iload_n (pc := 26) dX8_groupAt_26 rfl rfl ?_
          refine Go_invV (pc := 27) (y := yX8_groupOf) (avs := [.inl k]) (k := 16) (rest := []) (x := .inl (gm (begG (M 17) k) (endG (M 17) k)))  (d' := d - 1) dX8_groupAt_27 ln_X8_120 mo_X8_groupOf vo_X8_groupOf rfl (rc_16) rfl rfl (Nat.le_of_ble_eq_true rfl) (by omega) (Nat.le_of_ble_eq_true rfl) rfl (s_X8_groupOf (by omega) hW (by first | omega | (simp only [Nat.reduceAdd]; omega)) (by first | omega | (simp only [Nat.reduceAdd]; omega))) ?_
          exact Go_ireturn (pc := 30) dX8_groupAt_30 rfl (by first | rw [gaZ_out (by omega)] | rw [gaZ_go (by omega), if_pos kz, if_pos (by omega)]) rfl
  refine Go_iload_n (pc := 0) dX8_groupAt_0 rfl rfl ?_
  refine Go_if_ge (pc := 1) (tgt := 7) dX8_groupAt_1 (by decide) (by omega) (fun c1 => ?_) (fun c1 => ?_)
  · refine Go_iload_n (pc := 7) dX8_groupAt_7 rfl rfl ?_
    refine Go_istore_n (pc := 8) (L' := [some (.inr 16), some (.inl a), some (.inl a), none]) dX8_groupAt_8 rfl (by decide) rfl ?_
    refine Go_iconst (pc := 9) dX8_groupAt_9 ?_
    refine Go_istore_n (pc := 10) (L' := [some (.inr 16), some (.inl a), some (.inl a), some (.inl 0)]) dX8_groupAt_10 rfl (by decide) rfl ?_
    exact Go_v (by unfold groupAtF; rw [if_neg (by omega)]) rfl (K _ 0 a rfl (by omega) (by omega) (sc_out _ _ (by omega)) (by omega) (by omega))
  · refine Go_ldc (pc := 4) (n := -1000001) rfl kc_X8_42 dX8_groupAt_4 ?_
    exact Go_ireturn (pc := 6) dX8_groupAt_6 rfl (by unfold groupAtF; rw [if_pos (by omega)]) rfl
-- the history of the class
theorem s_X1_copyTo {d : Nat} (hd : 1 ≤ d) {a : Int} {M : gMem} (a0 : 0 ≤ a) (a1 : a ≤ 237) : Go d RX1 cX1_copyTo 3 none 0 [some (.inr 1), some (.inr 6), some (.inl a)] [] M none (setR M 6 (cpyI (M 2) (M 6) 0 a 79)) := by
  refine Go_iload_n (pc := 0) dX1_copyTo_0 rfl rfl ?_
  refine Go_if_lt (pc := 1) (tgt := 25) dX1_copyTo_1 (by decide) (by omega) (fun c1 => ?_) (fun c1 => ?_)
  · exact Go_return (pc := 25) dX1_copyTo_25 rfl rfl (by first | rfl | omega)
  · refine Go_iload_n (pc := 4) dX1_copyTo_4 rfl rfl ?_
    refine Go_aload_n (pc := 5) dX1_copyTo_5 rfl (by decide) rfl ?_
    refine Go_alen (pc := 6) dX1_copyTo_6 (by decide) rfl ?_
    refine Go_bipush (pc := 7) dX1_copyTo_7 (by decide) (by decide) ?_
    refine Go_isub (pc := 9) dX1_copyTo_9 ?_
    refine Go_icmp_gt (pc := 10) (tgt := 25) dX1_copyTo_10 (by decide) (by omega) (by decide) (fun c10 => ?_) (fun c10 => ?_)
    · exact Go_return (pc := 25) dX1_copyTo_25 rfl rfl (by first | rfl | omega)
    · refine Go_aload_n (pc := 13) dX1_copyTo_13 rfl (by decide) rfl ?_
      refine Go_getr (pc := 14) (r := 2) dX1_copyTo_14 fo_X1_11 (by decide) rfl rfl (by decide) ?_
      refine Go_iconst (pc := 17) dX1_copyTo_17 ?_
      refine Go_aload_n (pc := 18) dX1_copyTo_18 rfl (by decide) rfl ?_
      refine Go_iload_n (pc := 19) dX1_copyTo_19 rfl rfl ?_
      refine Go_bipush (pc := 20) dX1_copyTo_20 (by decide) (by decide) ?_
      refine Go_copy (pc := 22) dX1_copyTo_22 ln_X1_15 na_copy so_copy in_java_lang_System (by decide) (by decide) rfl rfl (by omega) (by omega) (by omega) (by omega) (by omega) (by omega) (Nat.le_of_ble_eq_true rfl) ?_
      refine Go_M (M1 := setR M 6 (cpyI (M 2) (M 6) 0 a 79)) rfl ?_
      exact Go_return (pc := 25) dX1_copyTo_25 rfl rfl (by first | rfl | omega)
theorem s_X1_copyBack {d : Nat} (hd : 1 ≤ d) {a : Int} {M : gMem} (a0 : 0 ≤ a) (a1 : a ≤ 237) : Go d RX1 cX1_copyBack 3 none 0 [some (.inr 1), some (.inr 6), some (.inl a)] [] M none (setR M 2 (cpyI (M 6) (M 2) a 0 79)) := by
  refine Go_iload_n (pc := 0) dX1_copyBack_0 rfl rfl ?_
  refine Go_if_lt (pc := 1) (tgt := 25) dX1_copyBack_1 (by decide) (by omega) (fun c1 => ?_) (fun c1 => ?_)
  · exact Go_return (pc := 25) dX1_copyBack_25 rfl rfl (by first | rfl | omega)
  · refine Go_iload_n (pc := 4) dX1_copyBack_4 rfl rfl ?_
    refine Go_aload_n (pc := 5) dX1_copyBack_5 rfl (by decide) rfl ?_
    refine Go_alen (pc := 6) dX1_copyBack_6 (by decide) rfl ?_
    refine Go_bipush (pc := 7) dX1_copyBack_7 (by decide) (by decide) ?_
    refine Go_isub (pc := 9) dX1_copyBack_9 ?_
    refine Go_icmp_gt (pc := 10) (tgt := 25) dX1_copyBack_10 (by decide) (by omega) (by decide) (fun c10 => ?_) (fun c10 => ?_)
    · exact Go_return (pc := 25) dX1_copyBack_25 rfl rfl (by first | rfl | omega)
    · refine Go_aload_n (pc := 13) dX1_copyBack_13 rfl (by decide) rfl ?_
      refine Go_iload_n (pc := 14) dX1_copyBack_14 rfl rfl ?_
      refine Go_aload_n (pc := 15) dX1_copyBack_15 rfl (by decide) rfl ?_
      refine Go_getr (pc := 16) (r := 2) dX1_copyBack_16 fo_X1_11 (by decide) rfl rfl (by decide) ?_
      refine Go_iconst (pc := 19) dX1_copyBack_19 ?_
      refine Go_bipush (pc := 20) dX1_copyBack_20 (by decide) (by decide) ?_
      refine Go_copy (pc := 22) dX1_copyBack_22 ln_X1_15 na_copy so_copy in_java_lang_System (by decide) (by decide) rfl rfl (by omega) (by omega) (by omega) (by omega) (by omega) (by omega) (Nat.le_of_ble_eq_true rfl) ?_
      refine Go_M (M1 := setR M 2 (cpyI (M 6) (M 2) a 0 79)) rfl ?_
      exact Go_return (pc := 25) dX1_copyBack_25 rfl rfl (by first | rfl | omega)
theorem s_X0_keep {d : Nat} (hd : 2 ≤ d) {M : gMem} (hn : 0 ≤ M 5 1 ∧ M 5 1 ≤ 4) : Go d RX0 cX0_keep 2 none 0 [some (.inr 5), some (.inr 1)] [] M none (setR (setR M 6 (hisR (M 6) (M 2) (M 5 1))) 5 (updI (M 5) 1 (hisN (M 5 1)))) := by
  refine Go_aload_n (pc := 0) dX0_keep_0 rfl (by decide) rfl ?_
  refine Go_geti (pc := 1) (z := M 5 1) dX0_keep_1 fo_X0_17 (by decide) rfl rfl (rfl) ?_
  refine Go_iconst (pc := 4) dX0_keep_4 ?_
  refine Go_icmp_lt (pc := 5) (tgt := 30) dX0_keep_5 (by decide) (by omega) (by decide) (fun c5 => ?_) (fun c5 => ?_)
  · refine Go_aload_n (pc := 30) dX0_keep_30 rfl (by decide) rfl ?_
    refine Go_aload_n (pc := 31) dX0_keep_31 rfl (by decide) rfl ?_
    refine Go_getr (pc := 32) (r := 6) dX0_keep_32 fo_X0_11 (by decide) rfl rfl (by decide) ?_
    refine Go_aload_n (pc := 35) dX0_keep_35 rfl (by decide) rfl ?_
    refine Go_geti (pc := 36) (z := M 5 1) dX0_keep_36 fo_X0_17 (by decide) rfl rfl (rfl) ?_
    refine Go_bipush (pc := 39) dX0_keep_39 (by decide) (by decide) ?_
    refine Go_imul (pc := 41) dX0_keep_41 ?_
    refine Go_invVv (pc := 42) (y := yX1_copyTo) (avs := [.inr 6, .inl ((M 5 1) * 79)]) (k := 1) (rest := [])  (M1 := setR M 6 (cpyI (M 2) (M 6) 0 ((M 5 1) * 79) 79)) (d' := d - 1) dX0_keep_42 ln_X0_27 mo_X1_copyTo vo_X1_copyTo rfl (rc_1) rfl rfl (Nat.le_of_ble_eq_true rfl) (by omega) (Nat.le_of_ble_eq_true rfl) rfl (s_X1_copyTo (by omega) (by omega) (by omega)) ?_
    refine Go_aload_n (pc := 45) dX0_keep_45 rfl (by decide) rfl ?_
    refine Go_dup (pc := 46) dX0_keep_46 ?_
    refine Go_geti (pc := 47) (z := M 5 1) dX0_keep_47 fo_X0_17 (by decide) rfl rfl (rfl) ?_
    refine Go_iconst (pc := 50) dX0_keep_50 ?_
    refine Go_iadd (pc := 51) dX0_keep_51 ?_
    refine Go_puti (pc := 52) dX0_keep_52 fw_X0_17 (by decide) rfl rfl ?_
    refine Go_M (M1 := setR (setR M 6 (cpyI (M 2) (M 6) 0 ((M 5 1) * 79) 79)) 5 (updI (M 5) 1 ((M 5 1) + 1))) rfl ?_
    exact Go_return (pc := 55) dX0_keep_55 rfl rfl (by unfold hisR hisN; first | (rw [if_neg (by omega), if_neg (by omega), Int.mul_comm 79 (M 5 1)]; done) | (rw [if_pos (by omega), if_pos (by omega), updI_tw]; (try rfl)))
  · refine Go_aload_n (pc := 8) dX0_keep_8 rfl (by decide) rfl ?_
    refine Go_getr (pc := 9) (r := 6) dX0_keep_9 fo_X0_11 (by decide) rfl rfl (by decide) ?_
    refine Go_bipush (pc := 12) dX0_keep_12 (by decide) (by decide) ?_
    refine Go_aload_n (pc := 14) dX0_keep_14 rfl (by decide) rfl ?_
    refine Go_getr (pc := 15) (r := 6) dX0_keep_15 fo_X0_11 (by decide) rfl rfl (by decide) ?_
    refine Go_iconst (pc := 18) dX0_keep_18 ?_
    refine Go_sipush (pc := 19) dX0_keep_19 (by decide) (by decide) ?_
    refine Go_copy (pc := 22) dX0_keep_22 ln_X0_21 na_copy so_copy in_java_lang_System (by decide) (by decide) rfl rfl (by omega) (by omega) (by omega) (by omega) (by omega) (by omega) (Nat.le_of_ble_eq_true rfl) ?_
    refine Go_M (M1 := setR M 6 (cpyI (M 6) (M 6) 79 0 237)) rfl ?_
    refine Go_aload_n (pc := 25) dX0_keep_25 rfl (by decide) rfl ?_
    refine Go_iconst (pc := 26) dX0_keep_26 ?_
    refine Go_puti (pc := 27) dX0_keep_27 fw_X0_17 (by decide) rfl rfl ?_
    refine Go_M (M1 := setR (setR M 6 (cpyI (M 6) (M 6) 79 0 237)) 5 (updI (M 5) 1 3)) rfl ?_
    refine Go_aload_n (pc := 30) dX0_keep_30 rfl (by decide) rfl ?_
    refine Go_aload_n (pc := 31) dX0_keep_31 rfl (by decide) rfl ?_
    refine Go_getr (pc := 32) (r := 6) dX0_keep_32 fo_X0_11 (by decide) rfl rfl (by decide) ?_
    refine Go_aload_n (pc := 35) dX0_keep_35 rfl (by decide) rfl ?_
    refine Go_geti (pc := 36) (z := 3) dX0_keep_36 fo_X0_17 (by decide) rfl rfl (show (updI (M 5) 1 3) 1 = 3 from updI_s _ _ _) ?_
    refine Go_bipush (pc := 39) dX0_keep_39 (by decide) (by decide) ?_
    refine Go_imul (pc := 41) dX0_keep_41 ?_
    refine Go_invVv (pc := 42) (y := yX1_copyTo) (avs := [.inr 6, .inl 237]) (k := 1) (rest := [])   (d' := d - 1) dX0_keep_42 ln_X0_27 mo_X1_copyTo vo_X1_copyTo rfl (rc_1) rfl rfl (Nat.le_of_ble_eq_true rfl) (by omega) (Nat.le_of_ble_eq_true rfl) rfl (s_X1_copyTo (by omega) (by omega) (by omega)) ?_
    refine Go_M (M1 := setR (setR M 5 (updI (M 5) 1 3)) 6 (cpyI (M 2) (cpyI (M 6) (M 6) 79 0 237) 0 237 79)) (by funext q; simp only [setR]; (repeat' split) <;> first | rfl | omega | simp_all) ?_
    refine Go_aload_n (pc := 45) dX0_keep_45 rfl (by decide) rfl ?_
    refine Go_dup (pc := 46) dX0_keep_46 ?_
    refine Go_geti (pc := 47) (z := 3) dX0_keep_47 fo_X0_17 (by decide) rfl rfl (show (updI (M 5) 1 3) 1 = 3 from updI_s _ _ _) ?_
    refine Go_iconst (pc := 50) dX0_keep_50 ?_
    refine Go_iadd (pc := 51) dX0_keep_51 ?_
    refine Go_puti (pc := 52) dX0_keep_52 fw_X0_17 (by decide) rfl rfl ?_
    refine Go_M (M1 := setR (setR M 6 (cpyI (M 2) (cpyI (M 6) (M 6) 79 0 237) 0 237 79)) 5 (updI (updI (M 5) 1 3) 1 4)) (by funext q; simp only [setR]; (repeat' split) <;> first | rfl | omega | simp_all) ?_
    exact Go_return (pc := 55) dX0_keep_55 rfl rfl (by unfold hisR hisN; first | (rw [if_neg (by omega), if_neg (by omega), Int.mul_comm 79 (M 5 1)]; done) | (rw [if_pos (by omega), if_pos (by omega), updI_tw]; (try rfl)))
theorem s_X0_takeLatest {d : Nat} (hd : 2 ≤ d) {M : gMem} (hn : 0 < M 5 1 ∧ M 5 1 ≤ 4) : Go d RX0 cX0_takeLatest 2 none 0 [some (.inr 5), some (.inr 1)] [] M none (setR (setR M 5 (updI (M 5) 1 (M 5 1 - 1))) 2 (cpyI (M 6) (M 2) ((M 5 1 - 1) * 79) 0 79)) := by
  refine Go_aload_n (pc := 0) dX0_takeLatest_0 rfl (by decide) rfl ?_
  refine Go_geti (pc := 1) (z := M 5 1) dX0_takeLatest_1 fo_X0_17 (by decide) rfl rfl (rfl) ?_
  refine Go_if_le (pc := 4) (tgt := 32) dX0_takeLatest_4 (by decide) (by omega) (fun c4 => ?_) (fun c4 => ?_)
  · exact Go_return (pc := 32) dX0_takeLatest_32 rfl rfl (by first | rfl | omega)
  · refine Go_aload_n (pc := 7) dX0_takeLatest_7 rfl (by decide) rfl ?_
    refine Go_dup (pc := 8) dX0_takeLatest_8 ?_
    refine Go_geti (pc := 9) (z := M 5 1) dX0_takeLatest_9 fo_X0_17 (by decide) rfl rfl (rfl) ?_
    refine Go_iconst (pc := 12) dX0_takeLatest_12 ?_
    refine Go_isub (pc := 13) dX0_takeLatest_13 ?_
    refine Go_puti (pc := 14) dX0_takeLatest_14 fw_X0_17 (by decide) rfl rfl ?_
    refine Go_M (M1 := setR M 5 (updI (M 5) 1 ((M 5 1) - 1))) rfl ?_
    refine Go_aload_n (pc := 17) dX0_takeLatest_17 rfl (by decide) rfl ?_
    refine Go_aload_n (pc := 18) dX0_takeLatest_18 rfl (by decide) rfl ?_
    refine Go_getr (pc := 19) (r := 6) dX0_takeLatest_19 fo_X0_11 (by decide) rfl rfl (by decide) ?_
    refine Go_aload_n (pc := 22) dX0_takeLatest_22 rfl (by decide) rfl ?_
    refine Go_geti (pc := 23) (z := (M 5 1) - 1) dX0_takeLatest_23 fo_X0_17 (by decide) rfl rfl (show (updI (M 5) 1 ((M 5 1) - 1)) 1 = ((M 5 1) - 1) from updI_s _ _ _) ?_
    refine Go_bipush (pc := 26) dX0_takeLatest_26 (by decide) (by decide) ?_
    refine Go_imul (pc := 28) dX0_takeLatest_28 ?_
    refine Go_invVv (pc := 29) (y := yX1_copyBack) (avs := [.inr 6, .inl (((M 5 1) - 1) * 79)]) (k := 1) (rest := [])  (M1 := setR (setR M 5 (updI (M 5) 1 ((M 5 1) - 1))) 2 (cpyI (M 6) (M 2) (((M 5 1) - 1) * 79) 0 79)) (d' := d - 1) dX0_takeLatest_29 ln_X0_31 mo_X1_copyBack vo_X1_copyBack rfl (rc_1) rfl rfl (Nat.le_of_ble_eq_true rfl) (by omega) (Nat.le_of_ble_eq_true rfl) rfl (s_X1_copyBack (by omega) (by omega) (by omega)) ?_
    exact Go_return (pc := 32) dX0_takeLatest_32 rfl rfl (by first | rfl | omega)
theorem s_X5_append {d : Nat} (hd : 0 ≤ d) {a : Int} {M : gMem} (h0 : 0 ≤ M 7 1) (h1 : M 7 1 < 60) (ha : 0 ≤ a ∧ a < 65536) : Go d RX5 cX5_append 2 none 0 [some (.inr 7), some (.inl a)] [] M none (setR (setR M 8 (updI (M 8) (M 7 1) a)) 7 (updI (M 7) 1 (M 7 1 + 1))) := by
  refine Go_aload_n (pc := 0) dX5_append_0 rfl (by decide) rfl ?_
  refine Go_geti (pc := 1) (z := M 7 1) dX5_append_1 fo_X5_15 (by decide) rfl rfl (rfl) ?_
  refine Go_if_lt (pc := 4) (tgt := 36) dX5_append_4 (by decide) (by omega) (fun c4 => ?_) (fun c4 => ?_)
  · exact Go_return (pc := 36) dX5_append_36 rfl rfl (by first | rfl | omega)
  · refine Go_aload_n (pc := 7) dX5_append_7 rfl (by decide) rfl ?_
    refine Go_geti (pc := 8) (z := M 7 1) dX5_append_8 fo_X5_15 (by decide) rfl rfl (rfl) ?_
    refine Go_bipush (pc := 11) dX5_append_11 (by decide) (by decide) ?_
    refine Go_icmp_ge (pc := 13) (tgt := 36) dX5_append_13 (by decide) (by omega) (by decide) (fun c13 => ?_) (fun c13 => ?_)
    · exact Go_return (pc := 36) dX5_append_36 rfl rfl (by first | rfl | omega)
    · refine Go_aload_n (pc := 16) dX5_append_16 rfl (by decide) rfl ?_
      refine Go_getr (pc := 17) (r := 8) dX5_append_17 fo_X5_9 (by decide) rfl rfl (by decide) ?_
      refine Go_aload_n (pc := 20) dX5_append_20 rfl (by decide) rfl ?_
      refine Go_geti (pc := 21) (z := M 7 1) dX5_append_21 fo_X5_15 (by decide) rfl rfl (rfl) ?_
      refine Go_iload_n (pc := 24) dX5_append_24 rfl rfl ?_
      refine Go_castore (pc := 25) dX5_append_25 (by decide) rfl (by omega) (by omega) (by omega) (by omega) ?_
      refine Go_M (M1 := setR M 8 (updI (M 8) (M 7 1) a)) rfl ?_
      refine Go_aload_n (pc := 26) dX5_append_26 rfl (by decide) rfl ?_
      refine Go_dup (pc := 27) dX5_append_27 ?_
      refine Go_geti (pc := 28) (z := M 7 1) dX5_append_28 fo_X5_15 (by decide) rfl rfl (rfl) ?_
      refine Go_iconst (pc := 31) dX5_append_31 ?_
      refine Go_iadd (pc := 32) dX5_append_32 ?_
      refine Go_puti (pc := 33) dX5_append_33 fw_X5_15 (by decide) rfl rfl ?_
      refine Go_M (M1 := setR (setR M 8 (updI (M 8) (M 7 1) a)) 7 (updI (M 7) 1 ((M 7 1) + 1))) rfl ?_
      exact Go_return (pc := 36) dX5_append_36 rfl rfl (by first | rfl | omega)
theorem s_X5_empty {d : Nat} (hd : 0 ≤ d) {M : gMem} : Go d RX5 cX5_empty 1 none 0 [some (.inr 7)] [] M none (setR M 7 (updI (M 7) 1 0)) := by
  refine Go_aload_n (pc := 0) dX5_empty_0 rfl (by decide) rfl ?_
  refine Go_iconst (pc := 1) dX5_empty_1 ?_
  refine Go_puti (pc := 2) dX5_empty_2 fw_X5_15 (by decide) rfl rfl ?_
  refine Go_M (M1 := setR M 7 (updI (M 7) 1 0)) rfl ?_
  exact Go_return (pc := 5) dX5_empty_5 rfl rfl rfl
theorem s_X1_copyFrom_o {d h g : Nat} (hd : 1 ≤ d) (hh : h = 1 ∨ h = 3) (hg : g = 1 ∨ g = 3) {M : gMem} (ho : Oz (M (g + 1)) ∧ Oz (M (h + 1))) : Go d RX1 cX1_copyFrom 2 none 0 [some (.inr h), some (.inr g)] [] M none (setR M (h + 1) (M (g + 1))) := by
  have e := s_X1_copyFrom hd hh hg (M := M)
  rw [cpy_all ho.1 ho.2] at e
  exact e
