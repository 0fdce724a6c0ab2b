/-! the class: the equations -/
abbrev bitV (u k : Int) : Int := gand (gshr u k) 1
theorem bit0 : ∀ u : Nat, u < 256 → ∀ k : Nat, k < 8 → gand (gshr (u : Int) (k : Int)) 1 = 0 ∨ gand (gshr (u : Int) (k : Int)) 1 = 1 := by decide +kernel
theorem bit_01 {u k : Int} (hu : 0 ≤ u ∧ u ≤ 255) (h0 : 0 ≤ k) (h1 : k < 8) : bitV u k = 0 ∨ bitV u k = 1 := by
  obtain ⟨a, ha, rfl⟩ := nat_of hu.1 (show u < 256 by omega)
  obtain ⟨b, hb, rfl⟩ := nat_of h0 h1
  exact bit0 a (by omega) b (by omega)
def effH (f : Int → Int) (k j : Int) : Int := bitV (tc f j 0) k - bitV (tc f j 1) k
def magH (f : Int → Int) (k j : Int) : Int := 9 * (bitV (tc f j 0) k + bitV (tc f j 1) k)
def rchH (f : Int → Int) (k n j : Int) : Int := sumZ (magH f k) n - sumZ (magH f k) (j + 1)
/-- the cells of an equation E, for the strings a to n - 1 -/
def weF (g val : Int → Int) (E a n : Int) : Int → Int := fun q => if q % 8 = E ∧ a ≤ q / 8 ∧ q / 8 < n then val (q / 8) else g q
theorem weF_0 (g val : Int → Int) {E a n : Int} (h : n ≤ a) : weF g val E a n = g := by
  funext q
  unfold weF
  rw [if_neg (by omega)]
theorem weF_s (g val : Int → Int) {E a n : Int} (hE : 0 ≤ E ∧ E < 8) (h : a < n) : updI (weF g val E (a + 1) n) (a * 8 + E) (val a) = weF g val E a n := by
  funext q
  unfold weF
  by_cases z : q = a * 8 + E
  · subst z
    rw [updI_s, if_pos (by omega), show (a * 8 + E) / 8 = a by omega]
  · rw [updI_n z]
    by_cases y : q % 8 = E ∧ a + 1 ≤ q / 8 ∧ q / 8 < n
    · rw [if_pos y, if_pos (by omega)]
    · rw [if_neg y, if_neg (by omega)]
theorem weF_in {g val : Int → Int} {E n j : Int} (hE : 0 ≤ E ∧ E < 8) (j0 : 0 ≤ j) (j1 : j < n) : weF g val E 0 n (j * 8 + E) = val j := by
  unfold weF
  rw [if_pos (by omega), show (j * 8 + E) / 8 = j by omega]
theorem weF_out {g val : Int → Int} {E n j e : Int} (hE : 0 ≤ E ∧ E < 8) (he : 0 ≤ e ∧ e < 8) (h : e ≠ E) : weF g val E 0 n (j * 8 + e) = g (j * 8 + e) := by
  unfold weF
  rw [if_neg (by omega)]
theorem s_X2_writeEffects {d : Nat} (hd : 2 ≤ d) {k : Int} {M : gMem} (hW : Wf (M 2)) (hE : 0 ≤ M 10 5 ∧ M 10 5 < 8) (hn : 0 ≤ M 10 6 ∧ M 10 6 ≤ 4) (k0 : 0 ≤ k) (k1 : k < 8) : Go d RX2 cX2_writeEffects 7 none 0 [some (.inr 10), some (.inr 1), some (.inl k), none, none, none, none] [] M none (setR (setR M 12 (weF (M 12) (effH (M 2) k) (M 10 5) 0 (M 10 6))) 13 (weF (M 13) (rchH (M 2) k (M 10 6)) (M 10 5) 0 (M 10 6))) := by
  have K : ∀ i, -1 ≤ i → i ≤ M 10 6 - 1 → ∀ x y : Option MV, Go d RX2 cX2_writeEffects 7 none 10 [some (.inr 10), some (.inr 1), some (.inl k), some (.inl (rchH (M 2) k (M 10 6) i)), some (.inl i), x, y] [] (setR (setR M 12 (weF (M 12) (effH (M 2) k) (M 10 5) (i + 1) (M 10 6))) 13 (weF (M 13) (rchH (M 2) k (M 10 6)) (M 10 5) (i + 1) (M 10 6))) none (setR (setR M 12 (weF (M 12) (effH (M 2) k) (M 10 5) 0 (M 10 6))) 13 (weF (M 13) (rchH (M 2) k (M 10 6)) (M 10 5) 0 (M 10 6))) := by
    refine dn_ind (-1) (M 10 6 - 1) _ (fun i i0 i1 ih x y => ?_)
    have es : 0 ≤ i → rchH (M 2) k (M 10 6) i + 9 * (bitV (tc (M 2) i 0) k + bitV (tc (M 2) i 1) k) = rchH (M 2) k (M 10 6) (i - 1) := fun h => by
      unfold rchH
      rw [show i - 1 + 1 = i by omega, sumZ_s _ h]
      show _ - (_ + 9 * (bitV (tc (M 2) i 0) k + bitV (tc (M 2) i 1) k)) + 9 * (bitV (tc (M 2) i 0) k + bitV (tc (M 2) i 1) k) = _
      omega
    refine Go_iload (pc := 10) dX2_writeEffects_10 rfl ?_
    refine Go_if_lt (pc := 12) (tgt := 96) dX2_writeEffects_12 (by decide) (by omega) (fun c12 => ?_) (fun c12 => ?_)
    · exact Go_return (pc := 96) dX2_writeEffects_96 rfl rfl (by rw [show i + 1 = 0 by omega])
    · refine Go_aload_n (pc := 15) dX2_writeEffects_15 rfl (by decide) rfl ?_
      refine Go_iload (pc := 16) dX2_writeEffects_16 rfl ?_
      refine Go_iconst (pc := 18) dX2_writeEffects_18 ?_
      refine Go_invV (pc := 19) (y := yX1_ofString) (avs := [.inl i, .inl 0]) (k := 1) (rest := []) (x := .inl (tc (M 2) i 0))  (d' := d - 1) dX2_writeEffects_19 ln_X2_74 mo_X1_ofString vo_X1_ofString rfl (rc_1) rfl rfl (Nat.le_of_ble_eq_true rfl) (by omega) (Nat.le_of_ble_eq_true rfl) rfl (s_X1_ofString (by omega) (by decide) (by omega) (by decide) (by decide)) ?_
      refine Go_iload_n (pc := 22) dX2_writeEffects_22 rfl rfl ?_
      refine Go_ishr (pc := 23) dX2_writeEffects_23 ?_
      refine Go_iconst (pc := 24) dX2_writeEffects_24 ?_
      refine Go_iand (pc := 25) dX2_writeEffects_25 ?_
      refine Go_istore (pc := 26) (L' := [some (.inr 10), some (.inr 1), some (.inl k), some (.inl (rchH (M 2) k (M 10 6) i)), some (.inl i), some (.inl (gand (gshr (tc (M 2) i 0) k) 1)), y]) dX2_writeEffects_26 (by decide) rfl ?_
      refine Go_aload_n (pc := 28) dX2_writeEffects_28 rfl (by decide) rfl ?_
      refine Go_iload (pc := 29) dX2_writeEffects_29 rfl ?_
      refine Go_iconst (pc := 31) dX2_writeEffects_31 ?_
      refine Go_invV (pc := 32) (y := yX1_ofString) (avs := [.inl i, .inl 1]) (k := 1) (rest := []) (x := .inl (tc (M 2) i 1))  (d' := d - 1) dX2_writeEffects_32 ln_X2_74 mo_X1_ofString vo_X1_ofString rfl (rc_1) rfl rfl (Nat.le_of_ble_eq_true rfl) (by omega) (Nat.le_of_ble_eq_true rfl) rfl (s_X1_ofString (by omega) (by decide) (by omega) (by decide) (by decide)) ?_
      refine Go_iload_n (pc := 35) dX2_writeEffects_35 rfl rfl ?_
      refine Go_ishr (pc := 36) dX2_writeEffects_36 ?_
      refine Go_iconst (pc := 37) dX2_writeEffects_37 ?_
      refine Go_iand (pc := 38) dX2_writeEffects_38 ?_
      refine Go_istore (pc := 39) (L' := [some (.inr 10), some (.inr 1), some (.inl k), some (.inl (rchH (M 2) k (M 10 6) i)), some (.inl i), some (.inl (gand (gshr (tc (M 2) i 0) k) 1)), some (.inl (gand (gshr (tc (M 2) i 1) k) 1))]) dX2_writeEffects_39 (by decide) rfl ?_
      refine Go_aload_n (pc := 41) dX2_writeEffects_41 rfl (by decide) rfl ?_
      refine Go_getr (pc := 42) (r := 12) dX2_writeEffects_42 fo_X2_15 (by decide) rfl rfl (by decide) ?_
      refine Go_iload (pc := 45) dX2_writeEffects_45 rfl ?_
      refine Go_aload_n (pc := 47) dX2_writeEffects_47 rfl (by decide) rfl ?_
      refine Go_geti (pc := 48) (z := M 10 5) dX2_writeEffects_48 fo_X2_27 (by decide) rfl rfl (rfl) ?_
      refine Go_invS (pc := 51) (y := yX2_cell) (avs := [.inl i, .inl (M 10 5)]) (rest := [.inr 12]) (x := .inl (i * 8 + (M 10 5)))  (d' := d - 1) dX2_writeEffects_51 ln_X2_77 mo_X2_cell so_X2_cell rfl rfl rfl (Nat.le_of_ble_eq_true rfl) (by omega) (Nat.le_of_ble_eq_true rfl) rfl (s_X2_cell (by omega)) ?_
      refine Go_iload (pc := 54) dX2_writeEffects_54 rfl ?_
      refine Go_iload (pc := 56) dX2_writeEffects_56 rfl ?_
      refine Go_isub (pc := 58) dX2_writeEffects_58 ?_
      refine Go_invSv (pc := 59) (y := yX2_put) (avs := [.inr 12, .inl (i * 8 + (M 10 5)), .inl ((gand (gshr (tc (M 2) i 0) k) 1) - (gand (gshr (tc (M 2) i 1) k) 1))]) (rest := [])   (d' := d - 1) dX2_writeEffects_59 ln_X2_66 mo_X2_put so_X2_put rfl rfl rfl (Nat.le_of_ble_eq_true rfl) (by omega) (Nat.le_of_ble_eq_true rfl) rfl (s_X2_put_12 (by omega) (by first | omega | (simp only [Nat.reduceAdd, setR_s]; omega) | (simp only [setR, Nat.reduceEqDiff, reduceIte]; omega)) (by first | omega | (simp only [Nat.reduceAdd, setR_s]; omega) | (simp only [setR, Nat.reduceEqDiff, reduceIte]; omega))) ?_
      refine Go_M (M1 := setR (setR M 13 (weF (M 13) (rchH (M 2) k (M 10 6)) (M 10 5) (i + 1) (M 10 6))) 12 (updI (weF (M 12) (effH (M 2) k) (M 10 5) (i + 1) (M 10 6)) (i * 8 + (M 10 5)) ((gand (gshr (tc (M 2) i 0) k) 1) - (gand (gshr (tc (M 2) i 1) k) 1)))) (by funext q; simp only [setR]; (repeat' split) <;> first | rfl | omega | simp_all) ?_
      refine Go_aload_n (pc := 62) dX2_writeEffects_62 rfl (by decide) rfl ?_
      refine Go_getr (pc := 63) (r := 13) dX2_writeEffects_63 fo_X2_18 (by decide) rfl rfl (by decide) ?_
      refine Go_iload (pc := 66) dX2_writeEffects_66 rfl ?_
      refine Go_aload_n (pc := 68) dX2_writeEffects_68 rfl (by decide) rfl ?_
      refine Go_geti (pc := 69) (z := M 10 5) dX2_writeEffects_69 fo_X2_27 (by decide) rfl rfl (rfl) ?_
      refine Go_invS (pc := 72) (y := yX2_cell) (avs := [.inl i, .inl (M 10 5)]) (rest := [.inr 13]) (x := .inl (i * 8 + (M 10 5)))  (d' := d - 1) dX2_writeEffects_72 ln_X2_77 mo_X2_cell so_X2_cell rfl rfl rfl (Nat.le_of_ble_eq_true rfl) (by omega) (Nat.le_of_ble_eq_true rfl) rfl (s_X2_cell (by omega)) ?_
      refine Go_iload_n (pc := 75) dX2_writeEffects_75 rfl rfl ?_
      refine Go_invSv (pc := 76) (y := yX2_put) (avs := [.inr 13, .inl (i * 8 + (M 10 5)), .inl (rchH (M 2) k (M 10 6) i)]) (rest := [])   (d' := d - 1) dX2_writeEffects_76 ln_X2_66 mo_X2_put so_X2_put rfl rfl rfl (Nat.le_of_ble_eq_true rfl) (by omega) (Nat.le_of_ble_eq_true rfl) rfl (s_X2_put_13 (by omega) (by first | omega | (simp only [Nat.reduceAdd, setR_s]; omega) | (simp only [setR, Nat.reduceEqDiff, reduceIte]; omega)) (by first | omega | (simp only [Nat.reduceAdd, setR_s]; omega) | (simp only [setR, Nat.reduceEqDiff, reduceIte]; omega))) ?_
      refine Go_M (M1 := setR (setR M 12 (updI (weF (M 12) (effH (M 2) k) (M 10 5) (i + 1) (M 10 6)) (i * 8 + (M 10 5)) ((gand (gshr (tc (M 2) i 0) k) 1) - (gand (gshr (tc (M 2) i 1) k) 1)))) 13 (updI (weF (M 13) (rchH (M 2) k (M 10 6)) (M 10 5) (i + 1) (M 10 6)) (i * 8 + (M 10 5)) (rchH (M 2) k (M 10 6) i))) (by funext q; simp only [setR]; (repeat' split) <;> first | rfl | omega | simp_all) ?_
      refine Go_iload_n (pc := 79) dX2_writeEffects_79 rfl rfl ?_
      refine Go_bipush (pc := 80) dX2_writeEffects_80 (by decide) (by decide) ?_
      refine Go_iload (pc := 82) dX2_writeEffects_82 rfl ?_
      refine Go_iload (pc := 84) dX2_writeEffects_84 rfl ?_
      refine Go_iadd (pc := 86) dX2_writeEffects_86 ?_
      refine Go_imul (pc := 87) dX2_writeEffects_87 ?_
      refine Go_iadd (pc := 88) dX2_writeEffects_88 ?_
      refine Go_istore_n (pc := 89) (L' := [some (.inr 10), some (.inr 1), some (.inl k), some (.inl ((rchH (M 2) k (M 10 6) i) + (9 * ((gand (gshr (tc (M 2) i 0) k) 1) + (gand (gshr (tc (M 2) i 1) k) 1))))), some (.inl i), some (.inl (gand (gshr (tc (M 2) i 0) k) 1)), some (.inl (gand (gshr (tc (M 2) i 1) k) 1))]) dX2_writeEffects_89 rfl (by decide) rfl ?_
      refine Go_iinc (pc := 90) (L' := [some (.inr 10), some (.inr 1), some (.inl k), some (.inl ((rchH (M 2) k (M 10 6) i) + (9 * ((gand (gshr (tc (M 2) i 0) k) 1) + (gand (gshr (tc (M 2) i 1) k) 1))))), some (.inl (i + (-1))), some (.inl (gand (gshr (tc (M 2) i 0) k) 1)), some (.inl (gand (gshr (tc (M 2) i 1) k) 1))]) dX2_writeEffects_90 rfl (by decide) rfl ?_
      refine Go_goto (pc := 93) (tgt := 10) dX2_writeEffects_93 (by decide) ?_
      have w1 := weF_s (M 12) (effH (M 2) k) (E := M 10 5) (a := i) (n := M 10 6) hE (by omega)
      have w2 := weF_s (M 13) (rchH (M 2) k (M 10 6)) (E := M 10 5) (a := i) (n := M 10 6) hE (by omega)
      refine Go_LS (by rw [es (by omega)]; rfl) rfl (Go_M ?_ (ih (by omega) _ _))
      rw [show i - 1 + 1 = i by omega, ← w1, ← w2]
      rfl
  refine Go_iconst (pc := 0) dX2_writeEffects_0 ?_
  refine Go_istore_n (pc := 1) (L' := [some (.inr 10), some (.inr 1), some (.inl k), some (.inl 0), none, none, none]) dX2_writeEffects_1 rfl (by decide) rfl ?_
  refine Go_aload_n (pc := 2) dX2_writeEffects_2 rfl (by decide) rfl ?_
  refine Go_geti (pc := 3) (z := M 10 6) dX2_writeEffects_3 fo_X2_31 (by decide) rfl rfl (rfl) ?_
  refine Go_iconst (pc := 6) dX2_writeEffects_6 ?_
  refine Go_isub (pc := 7) dX2_writeEffects_7 ?_
  refine Go_istore (pc := 8) (L' := [some (.inr 10), some (.inr 1), some (.inl k), some (.inl 0), some (.inl ((M 10 6) - 1)), none, none]) dX2_writeEffects_8 (by decide) rfl ?_
  have er : rchH (M 2) k (M 10 6) (M 10 6 - 1) = 0 := by
    unfold rchH
    rw [show M 10 6 - 1 + 1 = M 10 6 by omega]
    omega
  have kk := K (M 10 6 - 1) (by omega) (by omega) none none
  rw [er, weF_0 _ _ (by omega), weF_0 _ _ (by omega), setR_id, setR_id] at kk
  exact kk
