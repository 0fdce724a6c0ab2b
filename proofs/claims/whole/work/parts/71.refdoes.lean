/-! the reference: an order is done -/
def dnR (v : Int) : Int := if -1000001 < v then 0 else if v = -1000001 then 2 else 3
theorem dnR_e {v : Int} (h : v < 0 → v ≤ -1000001) : dnR v = rsn v := by
  unfold dnR rsn
  (repeat' split) <;> omega
def FrR (M M' : gMem) : Prop := (∀ q, q ≠ 16 → q ≠ 17 → q ≠ 22 → q ≠ 23 → M' q = M q) ∧ (∀ q, q ≤ 6 → M' 16 q = M 16 q)
theorem FrR_t {M M1 M2 : gMem} (a : FrR M M1) (b : FrR M1 M2) : FrR M M2 := ⟨fun q h1 h2 h3 h4 => (b.1 q h1 h2 h3 h4).trans (a.1 q h1 h2 h3 h4), fun q h => (b.2 q h).trans (a.2 q h)⟩
abbrev z23 (M : gMem) : Prop := ∀ q : Int, q < 0 ∨ 8 ≤ q → M 23 q = 0
theorem pullMv_z {f : Int → Int} (h : Wf f) (j z : Int) : ∀ q : Int, q < 0 ∨ 8 ≤ q → pullMv f j z q = 0 := (stepS_ok (plZ_W h _ _ _).1 _ _).2
abbrev DoP (M : gMem) (k a b : Int) (M' : gMem) (v : Int) : Prop := (∀ q, q ≠ 17 → q ≠ 22 → q ≠ 23 → M' q = M q) ∧ z23 M' ∧ M' 17 = (odA (M 17) k a b).2 ∧ inR v ∧ dnR v = rsn (odA (M 17) k a b).1
theorem s_X8_does_0 {d : Nat} (hd : 6 ≤ d) {a b : Int} {M : gMem} (hW : Wf (M 17)) (h10 : M 16 10 = 0) (h11 : M 16 11 = a) (h12 : M 16 12 = b) (ha : 0 ≤ a ∧ a ≤ 9) (hb : 0 ≤ b ∧ b ≤ 9) (h23 : z23 M) : ∃ M' v, Go d RX8 cX8_does 1 (some .int) 0 [some (.inr 16)] [] M (some (.inl v)) M' ∧ DoP M 0 a b M' v := by
  by_cases c : pullOk (M 17) a b
  · have hr := pullR_r hW a b
    have hp := pullR_p hW c
    refine ⟨setR (setR (setR M 17 (pullG (M 17) a b)) 22 (stoodR (M 22) (M 17) (M 17 0))) 23 (pullMv (M 17) a b), (pullR (M 17) a b).1, ?_, fun q h1 h2 h3 => by rw [setR_n h3, setR_n h2, setR_n h1], pullMv_z hW _ _, (pullC_y c).symm, hr.1, ?_⟩
    · refine Go_aload_n (pc := 0) dX8_does_0 rfl (by decide) rfl ?_
      refine Go_geti (pc := 1) (z := 0) dX8_does_1 fo_X8_172 (by decide) rfl rfl (h10) ?_
      refine Go_tsIn (pc := 4) (tgt := 36) dX8_does_4 (by decide) (by decide) (by decide) rfl (by decide) ?_
      refine Go_aload_n (pc := 36) dX8_does_36 rfl (by decide) rfl ?_
      refine Go_aload_n (pc := 37) dX8_does_37 rfl (by decide) rfl ?_
      refine Go_geti (pc := 38) (z := a) dX8_does_38 fo_X8_178 (by decide) rfl rfl (h11) ?_
      refine Go_aload_n (pc := 41) dX8_does_41 rfl (by decide) rfl ?_
      refine Go_geti (pc := 42) (z := b) dX8_does_42 fo_X8_181 (by decide) rfl rfl (h12) ?_
      refine Go_invV (pc := 45) (y := yX8_pullsOne) (avs := [.inl a, .inl b]) (k := 16) (rest := []) (x := .inl ((pullR (M 17) a b).1)) (M1 := setR (setR (setR M 17 (pullG (M 17) a b)) 22 (stoodR (M 22) (M 17) (M 17 0))) 23 (pullMv (M 17) a b)) (d' := d - 1) dX8_does_45 ln_X8_80 mo_X8_pullsOne vo_X8_pullsOne rfl (rc_16) rfl rfl (Nat.le_of_ble_eq_true rfl) (by omega) (Nat.le_of_ble_eq_true rfl) rfl (s_X8_pullsOne (by omega) hW (by omega) (by omega) c h23) ?_
      exact Go_ireturn (pc := 48) dX8_does_48 rfl (by first | rfl | (simp_all; done)) rfl
    · rw [show (odA (M 17) 0 a b).1 = pullB (M 17) a b from rfl, pullB_y c]
      unfold dnR
      rw [if_pos (by omega)]
      rfl
  · refine ⟨M, -1000001, ?_, fun q _ _ _ => rfl, h23, (pullC_n c).symm, by omega, ?_⟩
    · refine Go_aload_n (pc := 0) dX8_does_0 rfl (by decide) rfl ?_
      refine Go_geti (pc := 1) (z := 0) dX8_does_1 fo_X8_172 (by decide) rfl rfl (h10) ?_
      refine Go_tsIn (pc := 4) (tgt := 36) dX8_does_4 (by decide) (by decide) (by decide) rfl (by decide) ?_
      refine Go_aload_n (pc := 36) dX8_does_36 rfl (by decide) rfl ?_
      refine Go_aload_n (pc := 37) dX8_does_37 rfl (by decide) rfl ?_
      refine Go_geti (pc := 38) (z := a) dX8_does_38 fo_X8_178 (by decide) rfl rfl (h11) ?_
      refine Go_aload_n (pc := 41) dX8_does_41 rfl (by decide) rfl ?_
      refine Go_geti (pc := 42) (z := b) dX8_does_42 fo_X8_181 (by decide) rfl rfl (h12) ?_
      refine Go_invV (pc := 45) (y := yX8_pullsOne) (avs := [.inl a, .inl b]) (k := 16) (rest := []) (x := .inl (-1000001))  (d' := d - 1) dX8_does_45 ln_X8_80 mo_X8_pullsOne vo_X8_pullsOne rfl (rc_16) rfl rfl (Nat.le_of_ble_eq_true rfl) (by omega) (Nat.le_of_ble_eq_true rfl) rfl (s_X8_pullsOne_no (by omega) hW (by omega) (by omega) c) ?_
      exact Go_ireturn (pc := 48) dX8_does_48 rfl (by first | rfl | (simp_all; done)) rfl
    · rw [show (odA (M 17) 0 a b).1 = pullB (M 17) a b from rfl, pullB_n c]
      rfl
theorem s_X8_does_1 {d : Nat} (hd : 6 ≤ d) {a b : Int} {M : gMem} (hW : Wf (M 17)) (h10 : M 16 10 = 1) (h11 : M 16 11 = a) (h12 : M 16 12 = b) (ha : 0 ≤ a ∧ a ≤ 9) (hb : 0 ≤ b ∧ b ≤ 9) (h23 : z23 M) : ∃ M' v, Go d RX8 cX8_does 1 (some .int) 0 [some (.inr 16)] [] M (some (.inl v)) M' ∧ DoP M 1 a b M' v := by
  by_cases c : pullOk (M 17) a (-b)
  · have hr := pullR_r hW a (-b)
    have hp := pullR_p hW c
    refine ⟨setR (setR (setR M 17 (pullG (M 17) a (-b))) 22 (stoodR (M 22) (M 17) (M 17 0))) 23 (pullMv (M 17) a (-b)), (pullR (M 17) a (-b)).1, ?_, fun q h1 h2 h3 => by rw [setR_n h3, setR_n h2, setR_n h1], pullMv_z hW _ _, (pullC_y c).symm, hr.1, ?_⟩
    · refine Go_aload_n (pc := 0) dX8_does_0 rfl (by decide) rfl ?_
      refine Go_geti (pc := 1) (z := 1) dX8_does_1 fo_X8_172 (by decide) rfl rfl (h10) ?_
      refine Go_tsIn (pc := 4) (tgt := 49) dX8_does_4 (by decide) (by decide) (by decide) rfl (by decide) ?_
      refine Go_aload_n (pc := 49) dX8_does_49 rfl (by decide) rfl ?_
      refine Go_aload_n (pc := 50) dX8_does_50 rfl (by decide) rfl ?_
      refine Go_geti (pc := 51) (z := a) dX8_does_51 fo_X8_178 (by decide) rfl rfl (h11) ?_
      refine Go_aload_n (pc := 54) dX8_does_54 rfl (by decide) rfl ?_
      refine Go_geti (pc := 55) (z := b) dX8_does_55 fo_X8_181 (by decide) rfl rfl (h12) ?_
      refine Go_ineg (pc := 58) dX8_does_58 ?_
      refine Go_invV (pc := 59) (y := yX8_pullsOne) (avs := [.inl a, .inl (-b)]) (k := 16) (rest := []) (x := .inl ((pullR (M 17) a (-b)).1)) (M1 := setR (setR (setR M 17 (pullG (M 17) a (-b))) 22 (stoodR (M 22) (M 17) (M 17 0))) 23 (pullMv (M 17) a (-b))) (d' := d - 1) dX8_does_59 ln_X8_80 mo_X8_pullsOne vo_X8_pullsOne rfl (rc_16) rfl rfl (Nat.le_of_ble_eq_true rfl) (by omega) (Nat.le_of_ble_eq_true rfl) rfl (s_X8_pullsOne (by omega) hW (by omega) (by omega) c h23) ?_
      exact Go_ireturn (pc := 62) dX8_does_62 rfl (by first | rfl | (simp_all; done)) rfl
    · rw [show (odA (M 17) 1 a b).1 = pullB (M 17) a (-b) from rfl, pullB_y c]
      unfold dnR
      rw [if_pos (by omega)]
      rfl
  · refine ⟨M, -1000001, ?_, fun q _ _ _ => rfl, h23, (pullC_n c).symm, by omega, ?_⟩
    · refine Go_aload_n (pc := 0) dX8_does_0 rfl (by decide) rfl ?_
      refine Go_geti (pc := 1) (z := 1) dX8_does_1 fo_X8_172 (by decide) rfl rfl (h10) ?_
      refine Go_tsIn (pc := 4) (tgt := 49) dX8_does_4 (by decide) (by decide) (by decide) rfl (by decide) ?_
      refine Go_aload_n (pc := 49) dX8_does_49 rfl (by decide) rfl ?_
      refine Go_aload_n (pc := 50) dX8_does_50 rfl (by decide) rfl ?_
      refine Go_geti (pc := 51) (z := a) dX8_does_51 fo_X8_178 (by decide) rfl rfl (h11) ?_
      refine Go_aload_n (pc := 54) dX8_does_54 rfl (by decide) rfl ?_
      refine Go_geti (pc := 55) (z := b) dX8_does_55 fo_X8_181 (by decide) rfl rfl (h12) ?_
      refine Go_ineg (pc := 58) dX8_does_58 ?_
      refine Go_invV (pc := 59) (y := yX8_pullsOne) (avs := [.inl a, .inl (-b)]) (k := 16) (rest := []) (x := .inl (-1000001))  (d' := d - 1) dX8_does_59 ln_X8_80 mo_X8_pullsOne vo_X8_pullsOne rfl (rc_16) rfl rfl (Nat.le_of_ble_eq_true rfl) (by omega) (Nat.le_of_ble_eq_true rfl) rfl (s_X8_pullsOne_no (by omega) hW (by omega) (by omega) c) ?_
      exact Go_ireturn (pc := 62) dX8_does_62 rfl (by first | rfl | (simp_all; done)) rfl
    · rw [show (odA (M 17) 1 a b).1 = pullB (M 17) a (-b) from rfl, pullB_n c]
      rfl
theorem s_X8_does_2 {d : Nat} (hd : 6 ≤ d) {a b : Int} {M : gMem} (hW : Wf (M 17)) (h10 : M 16 10 = 2) (h11 : M 16 11 = a) (h12 : ¬ (2 : Int) = 2 → ¬ (2 : Int) = 4 → M 16 12 = b) (ha : 0 ≤ a ∧ a ≤ 9) (hb : 0 ≤ b ∧ b ≤ 9) (h23 : z23 M) : ∃ M' v, Go d RX8 cX8_does 1 (some .int) 0 [some (.inr 16)] [] M (some (.inl v)) M' ∧ DoP M 2 a b M' v := by
  have hr := odA_r hW 2 a b
  have h3 : ¬ (2 : Int) = 2 → ¬ (2 : Int) = 4 → M 16 12 = b := h12
  refine ⟨setR M 17 (odA (M 17) 2 a b).2, (odA (M 17) 2 a b).1, ?_, fun q h1 h2 h3 => setR_n h1, h23, rfl, hr, ?_⟩
  · refine Go_aload_n (pc := 0) dX8_does_0 rfl (by decide) rfl ?_
    refine Go_geti (pc := 1) (z := 2) dX8_does_1 fo_X8_172 (by decide) rfl rfl (h10) ?_
    refine Go_tsIn (pc := 4) (tgt := 63) dX8_does_4 (by decide) (by decide) (by decide) rfl (by decide) ?_
    refine Go_aload_n (pc := 63) dX8_does_63 rfl (by decide) rfl ?_
    refine Go_aload_n (pc := 64) dX8_does_64 rfl (by decide) rfl ?_
    refine Go_geti (pc := 65) (z := a) dX8_does_65 fo_X8_178 (by decide) rfl rfl (h11) ?_
    refine Go_invV (pc := 68) (y := yX8_unties) (avs := [.inl a]) (k := 16) (rest := []) (x := .inl ((untieR (M 17) a).1)) (M1 := setR M 17 ((untieR (M 17) a).2)) (d' := d - 1) dX8_does_68 ln_X8_84 mo_X8_unties vo_X8_unties rfl (rc_16) rfl rfl (Nat.le_of_ble_eq_true rfl) (by omega) (Nat.le_of_ble_eq_true rfl) rfl (s_X8_unties (by omega) hW (by omega)) ?_
    exact Go_ireturn (pc := 71) dX8_does_71 rfl rfl rfl
  · exact dnR_e (fun z => by
      have z2 : (untieR (M 17) a).1 < 0 := z
      exact (untieR_e hW z2).1)
theorem s_X8_does_3 {d : Nat} (hd : 6 ≤ d) {a b : Int} {M : gMem} (hW : Wf (M 17)) (h10 : M 16 10 = 3) (h11 : M 16 11 = a) (h12 : ¬ (3 : Int) = 2 → ¬ (3 : Int) = 4 → M 16 12 = b) (ha : 0 ≤ a ∧ a ≤ 9) (hb : 0 ≤ b ∧ b ≤ 9) (h23 : z23 M) : ∃ M' v, Go d RX8 cX8_does 1 (some .int) 0 [some (.inr 16)] [] M (some (.inl v)) M' ∧ DoP M 3 a b M' v := by
  have hr := odA_r hW 3 a b
  have h3 : ¬ (3 : Int) = 2 → ¬ (3 : Int) = 4 → M 16 12 = b := h12
  refine ⟨setR M 17 (odA (M 17) 3 a b).2, (odA (M 17) 3 a b).1, ?_, fun q h1 h2 h3 => setR_n h1, h23, rfl, hr, ?_⟩
  · refine Go_aload_n (pc := 0) dX8_does_0 rfl (by decide) rfl ?_
    refine Go_geti (pc := 1) (z := 3) dX8_does_1 fo_X8_172 (by decide) rfl rfl (h10) ?_
    refine Go_tsIn (pc := 4) (tgt := 72) dX8_does_4 (by decide) (by decide) (by decide) rfl (by decide) ?_
    refine Go_aload_n (pc := 72) dX8_does_72 rfl (by decide) rfl ?_
    refine Go_aload_n (pc := 73) dX8_does_73 rfl (by decide) rfl ?_
    refine Go_geti (pc := 74) (z := a) dX8_does_74 fo_X8_178 (by decide) rfl rfl (h11) ?_
    refine Go_aload_n (pc := 77) dX8_does_77 rfl (by decide) rfl ?_
    refine Go_geti (pc := 78) (z := b) dX8_does_78 fo_X8_181 (by decide) rfl rfl (h3 (by decide) (by decide)) ?_
    refine Go_invV (pc := 81) (y := yX8_tells) (avs := [.inl a, .inl b]) (k := 16) (rest := []) (x := .inl ((tellR (M 17) a b).1)) (M1 := setR M 17 ((tellR (M 17) a b).2)) (d' := d - 1) dX8_does_81 ln_X8_97 mo_X8_tells vo_X8_tells rfl (rc_16) rfl rfl (Nat.le_of_ble_eq_true rfl) (by omega) (Nat.le_of_ble_eq_true rfl) rfl (s_X8_tells (by omega) hW (by omega) (by omega)) ?_
    exact Go_ireturn (pc := 84) dX8_does_84 rfl rfl rfl
  · exact dnR_e (fun z => by
      have z2 : (tellR (M 17) a b).1 < 0 := z
      exact (tellR_e hW z2).1)
theorem s_X8_does_4 {d : Nat} (hd : 6 ≤ d) {a b : Int} {M : gMem} (hW : Wf (M 17)) (h10 : M 16 10 = 4) (h11 : M 16 11 = a) (h12 : ¬ (4 : Int) = 2 → ¬ (4 : Int) = 4 → M 16 12 = b) (ha : 0 ≤ a ∧ a ≤ 9) (hb : 0 ≤ b ∧ b ≤ 9) (h23 : z23 M) : ∃ M' v, Go d RX8 cX8_does 1 (some .int) 0 [some (.inr 16)] [] M (some (.inl v)) M' ∧ DoP M 4 a b M' v := by
  have hr := odA_r hW 4 a b
  have h3 : ¬ (4 : Int) = 2 → ¬ (4 : Int) = 4 → M 16 12 = b := h12
  refine ⟨setR M 17 (odA (M 17) 4 a b).2, (odA (M 17) 4 a b).1, ?_, fun q h1 h2 h3 => setR_n h1, h23, rfl, hr, ?_⟩
  · refine Go_aload_n (pc := 0) dX8_does_0 rfl (by decide) rfl ?_
    refine Go_geti (pc := 1) (z := 4) dX8_does_1 fo_X8_172 (by decide) rfl rfl (h10) ?_
    refine Go_tsOut (pc := 4) (tgt := 85) dX8_does_4 (by decide) (by decide) (by decide) ?_
    refine Go_aload_n (pc := 85) dX8_does_85 rfl (by decide) rfl ?_
    refine Go_aload_n (pc := 86) dX8_does_86 rfl (by decide) rfl ?_
    refine Go_geti (pc := 87) (z := a) dX8_does_87 fo_X8_178 (by decide) rfl rfl (h11) ?_
    refine Go_invV (pc := 90) (y := yX8_passes) (avs := [.inl a]) (k := 16) (rest := []) (x := .inl ((passR (M 17) a).1)) (M1 := setR M 17 ((passR (M 17) a).2)) (d' := d - 1) dX8_does_90 ln_X8_114 mo_X8_passes vo_X8_passes rfl (rc_16) rfl rfl (Nat.le_of_ble_eq_true rfl) (by omega) (Nat.le_of_ble_eq_true rfl) rfl (s_X8_passes (by omega) hW (by omega)) ?_
    exact Go_ireturn (pc := 93) dX8_does_93 rfl rfl rfl
  · exact dnR_e (fun z => by
      have z2 : (passR (M 17) a).1 < 0 := z
      exact (passR_e hW z2).1)
theorem s_X8_does {d : Nat} (hd : 6 ≤ d) {k a b : Int} {M : gMem} (hW : Wf (M 17)) (k5 : k = 0 ∨ k = 1 ∨ k = 2 ∨ k = 3 ∨ k = 4) (h10 : M 16 10 = k) (h11 : M 16 11 = a) (h12 : ¬ k = 2 → ¬ k = 4 → M 16 12 = b) (ha : 0 ≤ a ∧ a ≤ 9) (hb : 0 ≤ b ∧ b ≤ 9) (h23 : z23 M) : ∃ M' v, Go d RX8 cX8_does 1 (some .int) 0 [some (.inr 16)] [] M (some (.inl v)) M' ∧ DoP M k a b M' v := by
  rcases k5 with e | e | e | e | e <;> subst e
  · exact s_X8_does_0 hd hW h10 h11 (h12 (by decide) (by decide)) ha hb h23
  · exact s_X8_does_1 hd hW h10 h11 (h12 (by decide) (by decide)) ha hb h23
  · exact s_X8_does_2 hd hW h10 h11 h12 ha hb h23
  · exact s_X8_does_3 hd hW h10 h11 h12 ha hb h23
  · exact s_X8_does_4 hd hW h10 h11 h12 ha hb h23
def DN (M M' : gMem) (v : Int) : Prop := FrR M M' ∧ z23 M' ∧ (0 ≤ M' 16 7 ∧ M' 16 7 ≤ 1000) ∧ ((¬ brF (M 21) (M 16 6) (M 16 7) (kdF (M 21) (M 16 6) (M 16 7)) = -1 ∧ v = 1 ∧ M' 16 9 = brF (M 21) (M 16 6) (M 16 7) (kdF (M 21) (M 16 6) (M 16 7)) ∧ M' 17 = M 17) ∨
  (brF (M 21) (M 16 6) (M 16 7) (kdF (M 21) (M 16 6) (M 16 7)) = -1 ∧ v = rsn (odX (M 21) (M 16 6) (M 16 7) (M 17)).1 ∧ M' 16 9 = -1000004 ∧ M' 17 = (odX (M 21) (M 16 6) (M 16 7) (M 17)).2 ∧ M' 16 7 = M 16 7 + olF (kdF (M 21) (M 16 6) (M 16 7))))
theorem rdF_7 {f : Int → Int} {n p : Int} (r : Int → Int) (p0 : 0 ≤ p) (p1 : p ≤ n) (hn : n ≤ 60) : 0 ≤ (rdF f n p r).2 7 ∧ (rdF f n p r).2 7 ≤ 1000 := by
  have hE := letE_b (f := f) (n := n) p1
  have d1 := dg_b f n (letE f n p)
  have d2 := dg_b f n (dga f n (letE f n p))
  unfold rdF rdC rdB rdA
  (repeat' split) <;> (simp [updI]; omega)
theorem s_X8_doesNext {d : Nat} (hd : 7 ≤ d) {M : gMem} (hW : Wf (M 17)) (h : TxOk (M 21) (M 16 6)) (p0 : 0 ≤ M 16 7) (p1 : M 16 7 ≤ M 16 6) (h23 : z23 M) : ∃ M' v, Go d RX8 cX8_doesNext 2 (some .int) 0 [some (.inr 16), none] [] M (some (.inl v)) M' ∧ DN M M' v := by
  have hr := rds_all (M 16) h p0
  have bb := brF_b (M 21) (M 16 6) (M 16 7) (kdF (M 21) (M 16 6) (M 16 7))
  have r7 := rdF_7 (f := M 21) (M 16) p0 p1 h.1.2
  have hfr := fun (q : Int) (hq : q ≤ 6) => rdF_fr (M 21) (M 16 6) (M 16 7) (M 16) (q := q) (by omega) (by omega) (by omega) (by omega)
  by_cases cb : brF (M 21) (M 16 6) (M 16 7) (kdF (M 21) (M 16 6) (M 16 7)) = -1
  · have e1 : (rdF (M 21) (M 16 6) (M 16 7) (M 16)).1 = -1 := hr.1.trans cb
    obtain ⟨q7, q10, q11, q12⟩ := hr.2 cb
    have k5 : kdF (M 21) (M 16 6) (M 16 7) = 0 ∨ kdF (M 21) (M 16 6) (M 16 7) = 1 ∨ kdF (M 21) (M 16 6) (M 16 7) = 2 ∨ kdF (M 21) (M 16 6) (M 16 7) = 3 ∨ kdF (M 21) (M 16 6) (M 16 7) = 4 := by
      rcases kd_cases (M 21) (M 16 6) (M 16 7) with e | e | e | e | e | e
      · exact Or.inl e
      · exact Or.inr (Or.inl e)
      · exact Or.inr (Or.inr (Or.inl e))
      · exact Or.inr (Or.inr (Or.inr (Or.inl e)))
      · exact Or.inr (Or.inr (Or.inr (Or.inr e)))
      · rw [e] at cb
        exact absurd cb (show ¬ (0 : Int) = -1 by decide)
    obtain ⟨M4, v, g, f1, f2, f3, f4, f5⟩ := s_X8_does (d := d - 1) (by omega) (k := kdF (M 21) (M 16 6) (M 16 7)) (a := dgV (M 21) (M 16 6) (M 16 7 + wlF (kdF (M 21) (M 16 6) (M 16 7)) + 1)) (b := dgV (M 21) (M 16 6) (M 16 7 + wlF (kdF (M 21) (M 16 6) (M 16 7)) + 3)) (M := setR M 16 (updI (updI (rdF (M 21) (M 16 6) (M 16 7) (M 16)).2 9 (-1)) 9 (-1000004))) hW k5
      (by show updI (updI _ 9 (-1)) 9 (-1000004) 10 = _; rw [updI_n (by decide), updI_n (by decide)]; exact q10) (by show updI (updI _ 9 (-1)) 9 (-1000004) 11 = _; rw [updI_n (by decide), updI_n (by decide)]; exact q11) (fun a b => by show updI (updI _ 9 (-1)) 9 (-1000004) 12 = _; rw [updI_n (by decide), updI_n (by decide)]; exact q12 a b) (dgV_b _ _ _) (dgV_b _ _ _) h23
    have m16 : M4 16 = updI (updI (rdF (M 21) (M 16 6) (M 16 7) (M 16)).2 9 (-1)) 9 (-1000004) := f1 16 (by decide) (by decide) (by decide)
    refine ⟨M4, dnR v, ?_, ⟨fun q a b c e => (f1 q b c e).trans (setR_n a), fun q hq => by rw [m16, updI_n (by omega), updI_n (by omega)]; exact hfr q hq⟩, f2, by rw [m16, updI_n (by decide), updI_n (by decide)]; exact r7, Or.inr ⟨cb, f5, by rw [m16, updI_s], f3, by rw [m16, updI_n (by decide), updI_n (by decide)]; exact q7⟩⟩
    refine Go_aload_n (pc := 0) dX8_doesNext_0 rfl (by decide) rfl ?_
    refine Go_aload_n (pc := 1) dX8_doesNext_1 rfl (by decide) rfl ?_
    refine Go_invV (pc := 2) (y := yX8_reads) (avs := []) (k := 16) (rest := [.inr 16]) (x := .inl (-1)) (M1 := setR M 16 ((rdF (M 21) (M 16 6) (M 16 7) (M 16)).2)) (d' := d - 1) dX8_doesNext_2 ln_X8_184 mo_X8_reads vo_X8_reads rfl (rc_16) rfl rfl (Nat.le_of_ble_eq_true rfl) (by omega) (Nat.le_of_ble_eq_true rfl) rfl (Go_v (congrArg (fun z : Int => (some (.inl z) : Option MV)) e1) rfl (s_X8_reads (by omega) h (by first | omega | (simp only [Nat.reduceAdd, setR_s]; omega) | (simp only [setR, Nat.reduceEqDiff, reduceIte]; omega)) (by first | omega | (simp only [Nat.reduceAdd, setR_s]; omega) | (simp only [setR, Nat.reduceEqDiff, reduceIte]; omega)))) ?_
    refine Go_puti (pc := 5) dX8_doesNext_5 fw_X8_187 (by decide) rfl rfl ?_
    refine Go_M (M1 := setR M 16 (updI ((rdF (M 21) (M 16 6) (M 16 7) (M 16)).2) 9 (-1))) (setR_top _ _ _ _ _) ?_
    refine Go_aload_n (pc := 8) dX8_doesNext_8 rfl (by decide) rfl ?_
    refine Go_geti (pc := 9) (z := (-1)) dX8_doesNext_9 fo_X8_187 (by decide) rfl rfl (show (updI ((rdF (M 21) (M 16 6) (M 16 7) (M 16)).2) 9 (-1)) 9 = (-1) from updI_s _ _ _) ?_
    refine Go_if_lt (pc := 12) (tgt := 17) dX8_doesNext_12 (by decide) (by decide) (fun _ => ?_) (fun q => absurd q (by decide))
    refine Go_aload_n (pc := 17) dX8_doesNext_17 rfl (by decide) rfl ?_
    refine Go_ldc (pc := 18) (n := -1000004) rfl kc_X8_123 dX8_doesNext_18 ?_
    refine Go_puti (pc := 20) dX8_doesNext_20 fw_X8_187 (by decide) rfl rfl ?_
    refine Go_M (M1 := setR M 16 (updI (updI ((rdF (M 21) (M 16 6) (M 16 7) (M 16)).2) 9 (-1)) 9 (-1000004))) (setR_top _ _ _ _ _) ?_
    refine Go_aload_n (pc := 23) dX8_doesNext_23 rfl (by decide) rfl ?_
    refine Go_invV (pc := 24) (y := yX8_does) (avs := []) (k := 16) (rest := []) (x := .inl v) (M1 := M4) (d' := d - 1) dX8_doesNext_24 ln_X8_190 mo_X8_does vo_X8_does rfl (rc_16) rfl rfl (Nat.le_of_ble_eq_true rfl) (by omega) (Nat.le_of_ble_eq_true rfl) rfl (g) ?_
    refine Go_istore_n (pc := 27) (L' := [some (.inr 16), some (.inl v)]) dX8_doesNext_27 rfl (by decide) rfl ?_
    refine Go_iload_n (pc := 28) dX8_doesNext_28 rfl rfl ?_
    refine Go_ldc (pc := 29) (n := -1000001) rfl kc_X8_42 dX8_doesNext_29 ?_
    refine Go_icmp_le (pc := 31) (tgt := 38) dX8_doesNext_31 (by decide) (by omega) (by decide) (fun c31 => ?_) (fun c31 => ?_)
    · refine Go_iload_n (pc := 38) dX8_doesNext_38 rfl rfl ?_
      refine Go_ldc (pc := 39) (n := -1000001) rfl kc_X8_42 dX8_doesNext_39 ?_
      refine Go_icmp_ne (pc := 41) (tgt := 48) dX8_doesNext_41 (by decide) (by omega) (by decide) (fun c41 => ?_) (fun c41 => ?_)
      · refine Go_iconst (pc := 48) dX8_doesNext_48 ?_
        exact Go_ireturn (pc := 49) dX8_doesNext_49 rfl (by unfold dnR; (repeat' split) <;> first | rfl | (exfalso; omega)) rfl
      · refine Go_iconst (pc := 44) dX8_doesNext_44 ?_
        refine Go_goto (pc := 45) (tgt := 49) dX8_doesNext_45 (by decide) ?_
        exact Go_ireturn (pc := 49) dX8_doesNext_49 rfl (by unfold dnR; (repeat' split) <;> first | rfl | (exfalso; omega)) rfl
    · refine Go_iconst (pc := 34) dX8_doesNext_34 ?_
      refine Go_goto (pc := 35) (tgt := 49) dX8_doesNext_35 (by decide) ?_
      exact Go_ireturn (pc := 49) dX8_doesNext_49 rfl (by unfold dnR; (repeat' split) <;> first | rfl | (exfalso; omega)) rfl
  · obtain ⟨z, hz⟩ : ∃ z, z = brF (M 21) (M 16 6) (M 16 7) (kdF (M 21) (M 16 6) (M 16 7)) := ⟨_, rfl⟩
    have e1 : (rdF (M 21) (M 16 6) (M 16 7) (M 16)).1 = z := hr.1.trans hz.symm
    rw [← hz] at cb bb
    refine ⟨setR M 16 (updI (rdF (M 21) (M 16 6) (M 16 7) (M 16)).2 9 z), 1, ?_, ⟨fun q a _ _ _ => setR_n a, fun q hq => by show updI (rdF (M 21) (M 16 6) (M 16 7) (M 16)).2 9 z q = _; rw [updI_n (by omega)]; exact hfr q hq⟩, h23, by show 0 ≤ updI (rdF (M 21) (M 16 6) (M 16 7) (M 16)).2 9 z 7 ∧ updI (rdF (M 21) (M 16 6) (M 16 7) (M 16)).2 9 z 7 ≤ 1000; rw [updI_n (by decide)]; exact r7, Or.inl ⟨by rw [← hz]; exact cb, rfl, by show updI (rdF (M 21) (M 16 6) (M 16 7) (M 16)).2 9 z 9 = _; rw [updI_s, hz], rfl⟩⟩
    refine Go_aload_n (pc := 0) dX8_doesNext_0 rfl (by decide) rfl ?_
    refine Go_aload_n (pc := 1) dX8_doesNext_1 rfl (by decide) rfl ?_
    refine Go_invV (pc := 2) (y := yX8_reads) (avs := []) (k := 16) (rest := [.inr 16]) (x := .inl z) (M1 := setR M 16 ((rdF (M 21) (M 16 6) (M 16 7) (M 16)).2)) (d' := d - 1) dX8_doesNext_2 ln_X8_184 mo_X8_reads vo_X8_reads rfl (rc_16) rfl rfl (Nat.le_of_ble_eq_true rfl) (by omega) (Nat.le_of_ble_eq_true rfl) rfl (Go_v (congrArg (fun z : Int => (some (.inl z) : Option MV)) e1) rfl (s_X8_reads (by omega) h (by first | omega | (simp only [Nat.reduceAdd, setR_s]; omega) | (simp only [setR, Nat.reduceEqDiff, reduceIte]; omega)) (by first | omega | (simp only [Nat.reduceAdd, setR_s]; omega) | (simp only [setR, Nat.reduceEqDiff, reduceIte]; omega)))) ?_
    refine Go_puti (pc := 5) dX8_doesNext_5 fw_X8_187 (by decide) rfl rfl ?_
    refine Go_M (M1 := setR M 16 (updI ((rdF (M 21) (M 16 6) (M 16 7) (M 16)).2) 9 z)) (setR_top _ _ _ _ _) ?_
    refine Go_aload_n (pc := 8) dX8_doesNext_8 rfl (by decide) rfl ?_
    refine Go_geti (pc := 9) (z := z) dX8_doesNext_9 fo_X8_187 (by decide) rfl rfl (show (updI ((rdF (M 21) (M 16 6) (M 16 7) (M 16)).2) 9 z) 9 = z from updI_s _ _ _) ?_
    refine Go_if_lt (pc := 12) (tgt := 17) dX8_doesNext_12 (by decide) (by omega) (fun c12 => ?_) (fun c12 => ?_)
    · exfalso; omega
    · refine Go_iconst (pc := 15) dX8_doesNext_15 ?_
      exact Go_ireturn (pc := 16) dX8_doesNext_16 rfl (by first | rfl | (simp_all; done)) rfl
