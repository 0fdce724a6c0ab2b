/-! hours go by -/
theorem sc_un {f : Int → Int} {q v k c : Int} (h : 0 ≤ k → k < 8 → q ≠ 7 + 7 * k + c) : sc (updI f q v) k c = sc f k c := by
  by_cases e : 0 ≤ k ∧ k < 8
  · rw [sc_in _ _ e.1 e.2, sc_in _ _ e.1 e.2, updI_n (fun z => h e.1 e.2 z.symm)]
  · rw [sc_out _ _ e, sc_out _ _ e]
theorem sc_us {f : Int → Int} {v k c : Int} (h0 : 0 ≤ k) (h1 : k < 8) : sc (updI f (7 + 7 * k + c) v) k c = v := by
  rw [sc_in _ _ h0 h1, updI_s]
theorem tc_un {f : Int → Int} {q v k c : Int} (h : 0 ≤ k → k < 4 → q ≠ 63 + 4 * k + c) : tc (updI f q v) k c = tc f k c := by
  by_cases e : 0 ≤ k ∧ k < 4
  · rw [tc_in _ _ e.1 e.2, tc_in _ _ e.1 e.2, updI_n (fun z => h e.1 e.2 z.symm)]
  · rw [tc_out _ _ e, tc_out _ _ e]
/-- a shade's part of an hour -/
def hsC (P : Int → Int) (k : Int) : Int := b2i (wellP P k (lightF (sc P k 1) (P 2) (sc P k 0)))
def hsR (P : Int → Int) (k : Int) : Int → Int := updI (updI P (7 + 7 * k + 4) (sc P k 4 + lightF (sc P k 1) (P 2) (sc P k 0))) (7 + 7 * k + 5) (sc P k 5 + hsC P k)
def hrR (g : Int → Int) : Nat → Int → Int
  | 0 => g
  | m + 1 => hsR (hrR g m) m
def hrC (g : Int → Int) : Nat → Int
  | 0 => 0
  | m + 1 => hrC g m + hsC (hrR g m) m
theorem hsR_W {P : Int → Int} (h : Wf P) {k : Int} (k0 : 0 ≤ k) (k1 : k < P 0) : Wf (hsR P k) ∧ ∀ q, q < 7 → hsR P k q = P q := by
  have n := h.n
  have e : ∀ v q, q < 7 → updI P (7 + 7 * k + 4) v q = P q := fun v q hq => updI_n (by omega)
  refine ⟨?_, fun q hq => ?_⟩
  · refine Wf.uS (h.uS k0 k1 (by decide) (by decide) ⟨by omega, by omega, by omega, by omega, by omega⟩ (by omega)) k0 (by rw [e _ _ (by decide)]; exact k1) (by decide) (by decide) ⟨by omega, by omega, by omega, by omega, by omega⟩ (by omega)
  · unfold hsR
    rw [updI_n (by omega), e _ _ hq]
theorem hrR_W {g : Int → Int} (h : Wf g) (m : Nat) (hm : (m : Int) ≤ g 0) : Wf (hrR g m) ∧ ∀ q, q < 7 → hrR g m q = g q := by
  induction m with
  | zero => exact ⟨h, fun _ _ => rfl⟩
  | succ m ih =>
    have a := ih (by omega)
    have b := hsR_W a.1 (k := (m : Int)) (by omega) (by rw [a.2 0 (by decide)]; omega)
    exact ⟨b.1, fun q hq => by rw [show hrR g (m + 1) = hsR (hrR g m) m from rfl, b.2 q hq, a.2 q hq]⟩
theorem hrC_b {g : Int → Int} (m : Nat) : 0 ≤ hrC g m ∧ hrC g m ≤ m := by
  induction m with
  | zero => exact ⟨Int.le_refl 0, Int.le_refl 0⟩
  | succ m ih =>
    have := b2i_b (wellP (hrR g m) m (lightF (sc (hrR g m) m 1) (hrR g m 2) (sc (hrR g m) m 0)))
    show 0 ≤ hrC g m + b2i _ ∧ hrC g m + b2i _ ≤ _
    omega
def hrRZ (g : Int → Int) (i : Int) : Int → Int := hrR g i.toNat
def hrCZ (g : Int → Int) (i : Int) : Int := hrC g i.toNat
theorem hrRZ_s (g : Int → Int) {i : Int} (h : 0 ≤ i) : hrRZ g (i + 1) = hsR (hrRZ g i) i := by
  unfold hrRZ
  rw [show (i + 1).toNat = i.toNat + 1 by omega]
  show hsR _ ((i.toNat : Nat) : Int) = _
  rw [toN h]
theorem hrCZ_s (g : Int → Int) {i : Int} (h : 0 ≤ i) : hrCZ g (i + 1) = hrCZ g i + hsC (hrRZ g i) i := by
  unfold hrCZ hrRZ
  rw [show (i + 1).toNat = i.toNat + 1 by omega]
  show _ + hsC _ ((i.toNat : Nat) : Int) = _
  rw [toN h]
theorem hrRZ_W {g : Int → Int} (h : Wf g) {i : Int} (h0 : 0 ≤ i) (hi : i ≤ g 0) : Wf (hrRZ g i) ∧ ∀ q, q < 7 → hrRZ g i q = g q := hrR_W h _ (by omega)
/-- an hour -/
def hourR (g : Int → Int) : Int → Int := updI (updI (hrRZ g (g 0)) 2 ((g 2 + 1) % 24)) 3 (g 3 + 1)
def hourC (g : Int → Int) : Int := hrCZ g (g 0)
theorem hourC_b {g : Int → Int} (h : Wf g) : 0 ≤ hourC g ∧ hourC g ≤ 8 := by
  have n := h.n
  have := hrC_b (g := g) (g 0).toNat
  show 0 ≤ hrC g (g 0).toNat ∧ hrC g (g 0).toNat ≤ 8
  omega
theorem hourR_W {g : Int → Int} (h : Wf g) (h3 : g 3 < 20000) : Wf (hourR g) ∧ hourR g 0 = g 0 ∧ hourR g 3 = g 3 + 1 := by
  have n := h.n
  have hs := h.hs
  have a := hrRZ_W h n.1 (Int.le_refl _)
  refine ⟨?_, ?_, ?_⟩
  · exact (a.1.uN (c := 2) (v := (g 2 + 1) % 24) (by decide) (by decide) ⟨by omega, by omega, by omega, by omega⟩).uN (by decide) (by decide) ⟨by omega, by omega, by omega, by omega⟩
  · unfold hourR
    rw [updI_n (by decide), updI_n (by decide), a.2 0 (by decide)]
  · unfold hourR
    rw [updI_s]
def psR (g : Int → Int) : Nat → Int → Int
  | 0 => g
  | m + 1 => hourR (psR g m)
def psC (g : Int → Int) : Nat → Int
  | 0 => 0
  | m + 1 => psC g m + hourC (psR g m)
def psRZ (g : Int → Int) (i : Int) : Int → Int := psR g i.toNat
def psCZ (g : Int → Int) (i : Int) : Int := psC g i.toNat
theorem psRZ_s (g : Int → Int) {i : Int} (h : 0 ≤ i) : psRZ g (i + 1) = hourR (psRZ g i) := by
  unfold psRZ
  rw [show (i + 1).toNat = i.toNat + 1 by omega]
  rfl
theorem psCZ_s (g : Int → Int) {i : Int} (h : 0 ≤ i) : psCZ g (i + 1) = psCZ g i + hourC (psRZ g i) := by
  unfold psCZ psRZ
  rw [show (i + 1).toNat = i.toNat + 1 by omega]
  rfl
theorem psR_W {g : Int → Int} (h : Wf g) (m : Nat) (hm : g 3 + m ≤ 20000) : Wf (psR g m) ∧ psR g m 0 = g 0 ∧ psR g m 3 = g 3 + m ∧ 0 ≤ psC g m ∧ psC g m ≤ 8 * m := by
  induction m with
  | zero => exact ⟨h, rfl, by show g 3 = g 3 + ((0 : Nat) : Int); omega, Int.le_refl 0, Int.le_refl 0⟩
  | succ m ih =>
    obtain ⟨a, b, c, d, e⟩ := ih (by omega)
    obtain ⟨a1, b1, c1⟩ := hourR_W a (by omega)
    have hc := hourC_b a
    refine ⟨a1, b1.trans b, by rw [show psR g (m + 1) = hourR (psR g m) from rfl, c1, c]; omega, ?_, ?_⟩
    · show 0 ≤ psC g m + hourC (psR g m); omega
    · show psC g m + hourC (psR g m) ≤ _; omega
theorem psRZ_W {g : Int → Int} (h : Wf g) {i : Int} (h0 : 0 ≤ i) (hm : g 3 + i ≤ 20000) : Wf (psRZ g i) ∧ psRZ g i 0 = g 0 ∧ psRZ g i 3 = g 3 + i ∧ 0 ≤ psCZ g i ∧ psCZ g i ≤ 8 * i := by
  have := psR_W h i.toNat (by omega)
  rw [toN h0] at this
  exact this
def passR (f : Int → Int) (h : Int) : Int × (Int → Int) := if ¬ (1 ≤ h ∧ h ≤ 24) then (-1000001, f) else if 20000 < f 3 + h then (-1000003, f) else (psCZ f h, psRZ f h)
theorem passR_W {f : Int → Int} (hW : Wf f) (h : Int) : Wf (passR f h).2 := by
  unfold passR
  split
  · exact hW
  · split
    · exact hW
    · exact (psRZ_W hW (by omega) (by omega)).1
theorem passR_r {f : Int → Int} (hW : Wf f) (h : Int) : inR (passR f h).1 := by
  unfold passR
  split
  · exact iRe1
  · split
    · exact iRe3
    · have := psRZ_W hW (i := h) (by omega) (by omega)
      show inR (psCZ f h); omega
theorem passR_e {f : Int → Int} (hW : Wf f) {h : Int} (hr : (passR f h).1 < 0) : (passR f h).1 ≤ -1000001 ∧ (passR f h).2 = f := by
  unfold passR at hr ⊢
  split
  · exact ⟨Int.le_refl _, rfl⟩
  · next c =>
    rw [if_neg c] at hr
    split
    · exact ⟨(show (-1000003 : Int) ≤ -1000001 by decide), rfl⟩
    · next c2 =>
      rw [if_neg c2] at hr
      have := psRZ_W hW (i := h) (by omega) (by omega)
      exact absurd hr (by show ¬ psCZ f h < 0; omega)
theorem wellP_u {f : Int → Int} {k v j l : Int} (hk : 0 ≤ k) : wellP (updI f (7 + 7 * k + 4) v) j l ↔ wellP f j l := by
  unfold wellP
  rw [sc_un (by omega), updI_n (by omega)]
theorem s_X6_letHourGo {d : Nat} (hd : 5 ≤ d) {M : gMem} (hW : Wf (M 4)) (h3 : M 4 3 < 20000) : Go d RX6 cX6_letHourGo 4 (some .int) 0 [some (.inr 3), none, none, none] [] M (some (.inl (hourC (M 4)))) (setR M 4 (hourR (M 4))) := by
  have hn := hW.n
  have hhr := hW.hr
  have hhs := hW.hs
  have K : ∀ i, 0 ≤ i → i ≤ M 4 0 → ∀ x : Option MV, Go d RX6 cX6_letHourGo 4 (some .int) 4 [some (.inr 3), some (.inl (hrCZ (M 4) i)), some (.inl i), x] [] (setR M 4 (hrRZ (M 4) i)) (some (.inl (hourC (M 4)))) (setR M 4 (hourR (M 4))) := by
    refine up_ind 0 (M 4 0) _ (fun i h0 h1 ih x => ?_)
    obtain ⟨hW2, hq⟩ := hrRZ_W hW h0 h1
    have q0 := hq 0 (by decide)
    have q2 := hq 2 (by decide)
    have q3 := hq 3 (by decide)
    rw [hrRZ_s _ h0, hrCZ_s _ h0] at ih
    have eE : i = M 4 0 → hourC (M 4) = hrCZ (M 4) i ∧ hourR (M 4) = updI (updI (hrRZ (M 4) i) 2 ((M 4 2 + 1) % 24)) 3 (M 4 3 + 1) := fun e => by subst e; exact ⟨rfl, rfl⟩
    generalize hrCZ (M 4) i = C at ih eE ⊢
    generalize hrRZ (M 4) i = P at ih eE hW2 q0 q2 q3 ⊢
    have hl := hW2.hr
    have hA : 0 ≤ i → i < 8 → 0 ≤ lightF (sc P i 1) (P 2) (sc P i 0) ∧ lightF (sc P i 1) (P 2) (sc P i 0) ≤ 36 := fun _ _ => lightF_b (hW2.ah i) hl (hW2.ht i)
    have hWa : i < P 0 → ∀ v, Wf (updI P (7 + 7 * i + 4) v) := fun q v => hW2.uS h0 q (by decide) (by decide) ⟨by omega, by omega, by omega, by omega, by omega⟩ (by omega)
    have hE0 : updI P (7 + 7 * i + 4) (sc P i 4 + lightF (sc P i 1) (P 2) (sc P i 0)) 0 = P 0 := updI_n (by omega)
    refine Go_iload_n (pc := 4) dX6_letHourGo_4 rfl rfl ?_
    refine Go_aload_n (pc := 5) dX6_letHourGo_5 rfl (by decide) rfl ?_
    refine Go_invV (pc := 6) (y := yX1_shades) (avs := []) (k := 3) (rest := [.inl i]) (x := .inl (P 0))  (d' := d - 1) dX6_letHourGo_6 ln_X6_10 mo_X1_shades vo_X1_shades rfl (rc_3) rfl rfl (Nat.le_of_ble_eq_true rfl) (by omega) (Nat.le_of_ble_eq_true rfl) rfl (s_X1_shades (by omega) (by decide)) ?_
    refine Go_icmp_ge (pc := 9) (tgt := 64) dX6_letHourGo_9 (by decide) (by omega) (by omega) (fun c9 => ?_) (fun c9 => ?_)
    · refine Go_aload_n (pc := 64) dX6_letHourGo_64 rfl (by decide) rfl ?_
      refine Go_iconst (pc := 65) dX6_letHourGo_65 ?_
      refine Go_invV (pc := 66) (y := yX1_number) (avs := [.inl 2]) (k := 3) (rest := []) (x := .inl (P 2))  (d' := d - 1) dX6_letHourGo_66 ln_X6_82 mo_X1_number vo_X1_number rfl (rc_3) rfl rfl (Nat.le_of_ble_eq_true rfl) (by omega) (Nat.le_of_ble_eq_true rfl) rfl (s_X1_number (by omega) (by decide) (by decide) (by decide)) ?_
      refine Go_iconst (pc := 69) dX6_letHourGo_69 ?_
      refine Go_iadd (pc := 70) dX6_letHourGo_70 ?_
      refine Go_istore_n (pc := 71) (L' := [some (.inr 3), some (.inl C), some (.inl ((P 2) + 1)), x]) dX6_letHourGo_71 rfl (by decide) rfl ?_
      refine Go_aload_n (pc := 72) dX6_letHourGo_72 rfl (by decide) rfl ?_
      refine Go_iconst (pc := 73) dX6_letHourGo_73 ?_
      refine Go_iload_n (pc := 74) dX6_letHourGo_74 rfl rfl ?_
      refine Go_bipush (pc := 75) dX6_letHourGo_75 (by decide) (by decide) ?_
      refine Go_icmp_ge (pc := 77) (tgt := 84) dX6_letHourGo_77 (by decide) (by omega) (by decide) (fun c77 => ?_) (fun c77 => ?_)
      · refine Go_iconst (pc := 84) dX6_letHourGo_84 ?_
        refine Go_invVv (pc := 85) (y := yX1_putNumber) (avs := [.inl 2, .inl 0]) (k := 3) (rest := [])   (d' := d - 1) dX6_letHourGo_85 ln_X6_21 mo_X1_putNumber vo_X1_putNumber rfl (rc_3) rfl rfl (Nat.le_of_ble_eq_true rfl) (by omega) (Nat.le_of_ble_eq_true rfl) rfl (s_X1_putNumber (by omega) (by decide) (by decide) (by decide)) ?_
        refine Go_M (M1 := setR M 4 (updI P 2 0)) ((setR_tw _ _ _ _).trans rfl) ?_
        refine Go_aload_n (pc := 88) dX6_letHourGo_88 rfl (by decide) rfl ?_
        refine Go_iconst (pc := 89) dX6_letHourGo_89 ?_
        refine Go_aload_n (pc := 90) dX6_letHourGo_90 rfl (by decide) rfl ?_
        refine Go_iconst (pc := 91) dX6_letHourGo_91 ?_
        refine Go_invV (pc := 92) (y := yX1_number) (avs := [.inl 3]) (k := 3) (rest := [.inl 3, .inr 3]) (x := .inl ((updI P 2 0) 3))  (d' := d - 1) dX6_letHourGo_92 ln_X6_82 mo_X1_number vo_X1_number rfl (rc_3) rfl rfl (Nat.le_of_ble_eq_true rfl) (by omega) (Nat.le_of_ble_eq_true rfl) rfl (s_X1_number (by omega) (by decide) (by decide) (by decide)) ?_
        refine Go_iconst (pc := 95) dX6_letHourGo_95 ?_
        refine Go_iadd (pc := 96) dX6_letHourGo_96 ?_
        refine Go_invVv (pc := 97) (y := yX1_putNumber) (avs := [.inl 3, .inl (((updI P 2 0) 3) + 1)]) (k := 3) (rest := [])   (d' := d - 1) dX6_letHourGo_97 ln_X6_21 mo_X1_putNumber vo_X1_putNumber rfl (rc_3) rfl rfl (Nat.le_of_ble_eq_true rfl) (by omega) (Nat.le_of_ble_eq_true rfl) rfl (s_X1_putNumber (by omega) (by decide) (by decide) (by decide)) ?_
        refine Go_M (M1 := setR M 4 (updI (updI P 2 0) 3 (((updI P 2 0) 3) + 1))) ((setR_tw _ _ _ _).trans rfl) ?_
        refine Go_iload_n (pc := 100) dX6_letHourGo_100 rfl rfl ?_
        rw [(eE (by omega)).1, (eE (by omega)).2]
        exact Go_ireturn (pc := 101) dX6_letHourGo_101 rfl rfl (by rw [← q2, ← q3]; first | (rw [show (P 2 + 1) % 24 = P 2 + 1 by omega]; rfl) | (rw [show (P 2 + 1) % 24 = 0 by omega]; rfl))
      · refine Go_iload_n (pc := 80) dX6_letHourGo_80 rfl rfl ?_
        refine Go_goto (pc := 81) (tgt := 85) dX6_letHourGo_81 (by decide) ?_
        refine Go_invVv (pc := 85) (y := yX1_putNumber) (avs := [.inl 2, .inl ((P 2) + 1)]) (k := 3) (rest := [])   (d' := d - 1) dX6_letHourGo_85 ln_X6_21 mo_X1_putNumber vo_X1_putNumber rfl (rc_3) rfl rfl (Nat.le_of_ble_eq_true rfl) (by omega) (Nat.le_of_ble_eq_true rfl) rfl (s_X1_putNumber (by omega) (by decide) (by decide) (by decide)) ?_
        refine Go_M (M1 := setR M 4 (updI P 2 ((P 2) + 1))) ((setR_tw _ _ _ _).trans rfl) ?_
        refine Go_aload_n (pc := 88) dX6_letHourGo_88 rfl (by decide) rfl ?_
        refine Go_iconst (pc := 89) dX6_letHourGo_89 ?_
        refine Go_aload_n (pc := 90) dX6_letHourGo_90 rfl (by decide) rfl ?_
        refine Go_iconst (pc := 91) dX6_letHourGo_91 ?_
        refine Go_invV (pc := 92) (y := yX1_number) (avs := [.inl 3]) (k := 3) (rest := [.inl 3, .inr 3]) (x := .inl ((updI P 2 ((P 2) + 1)) 3))  (d' := d - 1) dX6_letHourGo_92 ln_X6_82 mo_X1_number vo_X1_number rfl (rc_3) rfl rfl (Nat.le_of_ble_eq_true rfl) (by omega) (Nat.le_of_ble_eq_true rfl) rfl (s_X1_number (by omega) (by decide) (by decide) (by decide)) ?_
        refine Go_iconst (pc := 95) dX6_letHourGo_95 ?_
        refine Go_iadd (pc := 96) dX6_letHourGo_96 ?_
        refine Go_invVv (pc := 97) (y := yX1_putNumber) (avs := [.inl 3, .inl (((updI P 2 ((P 2) + 1)) 3) + 1)]) (k := 3) (rest := [])   (d' := d - 1) dX6_letHourGo_97 ln_X6_21 mo_X1_putNumber vo_X1_putNumber rfl (rc_3) rfl rfl (Nat.le_of_ble_eq_true rfl) (by omega) (Nat.le_of_ble_eq_true rfl) rfl (s_X1_putNumber (by omega) (by decide) (by decide) (by decide)) ?_
        refine Go_M (M1 := setR M 4 (updI (updI P 2 ((P 2) + 1)) 3 (((updI P 2 ((P 2) + 1)) 3) + 1))) ((setR_tw _ _ _ _).trans rfl) ?_
        refine Go_iload_n (pc := 100) dX6_letHourGo_100 rfl rfl ?_
        rw [(eE (by omega)).1, (eE (by omega)).2]
        exact Go_ireturn (pc := 101) dX6_letHourGo_101 rfl rfl (by rw [← q2, ← q3]; first | (rw [show (P 2 + 1) % 24 = P 2 + 1 by omega]; rfl) | (rw [show (P 2 + 1) % 24 = 0 by omega]; rfl))
    · refine Go_aload_n (pc := 12) dX6_letHourGo_12 rfl (by decide) rfl ?_
      refine Go_iload_n (pc := 13) dX6_letHourGo_13 rfl rfl ?_
      refine Go_invS (pc := 14) (y := yX4_lightBehind) (avs := [.inr 3, .inl i]) (rest := []) (x := .inl (lightF (sc P i 1) (P 2) (sc P i 0)))  (d' := d - 1) dX6_letHourGo_14 ln_X6_99 mo_X4_lightBehind so_X4_lightBehind rfl rfl rfl (Nat.le_of_ble_eq_true rfl) (by omega) (Nat.le_of_ble_eq_true rfl) rfl (s_X4_lightBehind (by omega) (by decide) (by first | exact hW2 | exact hWa (by omega) _) (by first | omega | (simp only [Nat.reduceAdd, setR_s]; omega)) (by first | omega | (simp only [Nat.reduceAdd, setR_s]; omega))) ?_
      refine Go_istore_n (pc := 17) (L' := [some (.inr 3), some (.inl C), some (.inl i), some (.inl (lightF (sc P i 1) (P 2) (sc P i 0)))]) dX6_letHourGo_17 rfl (by decide) rfl ?_
      refine Go_aload_n (pc := 18) dX6_letHourGo_18 rfl (by decide) rfl ?_
      refine Go_iload_n (pc := 19) dX6_letHourGo_19 rfl rfl ?_
      refine Go_iconst (pc := 20) dX6_letHourGo_20 ?_
      refine Go_aload_n (pc := 21) dX6_letHourGo_21 rfl (by decide) rfl ?_
      refine Go_iload_n (pc := 22) dX6_letHourGo_22 rfl rfl ?_
      refine Go_iconst (pc := 23) dX6_letHourGo_23 ?_
      refine Go_invV (pc := 24) (y := yX1_ofShade) (avs := [.inl i, .inl 4]) (k := 3) (rest := [.inl 4, .inl i, .inr 3]) (x := .inl (sc P i 4))  (d' := d - 1) dX6_letHourGo_24 ln_X6_72 mo_X1_ofShade vo_X1_ofShade rfl (rc_3) rfl rfl (Nat.le_of_ble_eq_true rfl) (by omega) (Nat.le_of_ble_eq_true rfl) rfl (s_X1_ofShade (by omega) (by decide) (by omega) (by decide) (by decide)) ?_
      refine Go_iload_n (pc := 27) dX6_letHourGo_27 rfl rfl ?_
      refine Go_iadd (pc := 28) dX6_letHourGo_28 ?_
      refine Go_invVv (pc := 29) (y := yX1_putShade) (avs := [.inl i, .inl 4, .inl ((sc P i 4) + (lightF (sc P i 1) (P 2) (sc P i 0)))]) (k := 3) (rest := [])   (d' := d - 1) dX6_letHourGo_29 ln_X6_17 mo_X1_putShade vo_X1_putShade rfl (rc_3) rfl rfl (Nat.le_of_ble_eq_true rfl) (by omega) (Nat.le_of_ble_eq_true rfl) rfl (s_X1_putShade (by omega) (by decide) (by first | omega | (simp only [Nat.reduceAdd, setR_s]; omega)) (by first | omega | (simp only [Nat.reduceAdd, setR_s]; omega)) (by decide) (by decide)) ?_
      refine Go_M (M1 := setR M 4 (updI P (7 + 7 * i + 4) ((sc P i 4) + (lightF (sc P i 1) (P 2) (sc P i 0))))) ((setR_tw _ _ _ _).trans rfl) ?_
      refine Go_aload_n (pc := 32) dX6_letHourGo_32 rfl (by decide) rfl ?_
      refine Go_iload_n (pc := 33) dX6_letHourGo_33 rfl rfl ?_
      refine Go_iload_n (pc := 34) dX6_letHourGo_34 rfl rfl ?_
      refine Go_invS (pc := 35) (y := yX4_isWell) (avs := [.inr 3, .inl i, .inl (lightF (sc P i 1) (P 2) (sc P i 0))]) (rest := []) (x := .inl (b2i (wellP (updI P (7 + 7 * i + 4) ((sc P i 4) + (lightF (sc P i 1) (P 2) (sc P i 0)))) i (lightF (sc P i 1) (P 2) (sc P i 0)))))  (d' := d - 1) dX6_letHourGo_35 ln_X6_104 mo_X4_isWell so_X4_isWell rfl rfl rfl (Nat.le_of_ble_eq_true rfl) (by omega) (Nat.le_of_ble_eq_true rfl) rfl (s_X4_isWell (by omega) (by decide) (by first | exact hW2 | exact hWa (by omega) _) (by first | omega | (simp only [Nat.reduceAdd, setR_s]; omega)) (by first | omega | (simp only [Nat.reduceAdd, setR_s]; omega)) (by first | omega | exact lightF_b (by omega) (by omega) (by omega))) ?_
      refine Go_ifeqB (pc := 38) (tgt := 58) dX6_letHourGo_38 (by decide) (fun c38 => ?_) (fun c38 => ?_)
      · refine Go_iinc (pc := 58) (L' := [some (.inr 3), some (.inl C), some (.inl (i + 1)), some (.inl (lightF (sc P i 1) (P 2) (sc P i 0)))]) dX6_letHourGo_58 rfl (by decide) rfl ?_
        refine Go_goto (pc := 61) (tgt := 4) dX6_letHourGo_61 (by decide) ?_
        have e5 : sc (updI P (7 + 7 * i + 4) (sc P i 4 + lightF (sc P i 1) (P 2) (sc P i 0))) i 5 = sc P i 5 := sc_un (by omega)
        have e6 : 0 ≤ i → i < 8 → updI P (7 + 7 * i + 4) (sc P i 4 + lightF (sc P i 1) (P 2) (sc P i 0)) (7 + 7 * i + 5) = sc P i 5 := fun a b => by rw [updI_n (by omega), sc_in _ _ a b]
        have ec : hsC P i = b2i (wellP P i (lightF (sc P i 1) (P 2) (sc P i 0))) := rfl
        have er : hsR P i = updI (updI P (7 + 7 * i + 4) (sc P i 4 + lightF (sc P i 1) (P 2) (sc P i 0))) (7 + 7 * i + 5) (sc P i 5 + hsC P i) := rfl
        rw [wellP_u h0] at c38
        first | rw [b2i_t c38] at ec | rw [b2i_f c38] at ec
        rw [er, ec] at ih
        first | exact Go_M (by rw [e5]) (ih (by omega) _) | exact Go_M (by rw [Int.add_zero, updI_z (e6 h0 (by omega))]) (Go_LS (by rw [Int.add_zero]) rfl (ih (by omega) _))
      · refine Go_aload_n (pc := 41) dX6_letHourGo_41 rfl (by decide) rfl ?_
        refine Go_iload_n (pc := 42) dX6_letHourGo_42 rfl rfl ?_
        refine Go_iconst (pc := 43) dX6_letHourGo_43 ?_
        refine Go_aload_n (pc := 44) dX6_letHourGo_44 rfl (by decide) rfl ?_
        refine Go_iload_n (pc := 45) dX6_letHourGo_45 rfl rfl ?_
        refine Go_iconst (pc := 46) dX6_letHourGo_46 ?_
        refine Go_invV (pc := 47) (y := yX1_ofShade) (avs := [.inl i, .inl 5]) (k := 3) (rest := [.inl 5, .inl i, .inr 3]) (x := .inl (sc (updI P (7 + 7 * i + 4) ((sc P i 4) + (lightF (sc P i 1) (P 2) (sc P i 0)))) i 5))  (d' := d - 1) dX6_letHourGo_47 ln_X6_72 mo_X1_ofShade vo_X1_ofShade rfl (rc_3) rfl rfl (Nat.le_of_ble_eq_true rfl) (by omega) (Nat.le_of_ble_eq_true rfl) rfl (s_X1_ofShade (by omega) (by decide) (by omega) (by decide) (by decide)) ?_
        refine Go_iconst (pc := 50) dX6_letHourGo_50 ?_
        refine Go_iadd (pc := 51) dX6_letHourGo_51 ?_
        refine Go_invVv (pc := 52) (y := yX1_putShade) (avs := [.inl i, .inl 5, .inl ((sc (updI P (7 + 7 * i + 4) ((sc P i 4) + (lightF (sc P i 1) (P 2) (sc P i 0)))) i 5) + 1)]) (k := 3) (rest := [])   (d' := d - 1) dX6_letHourGo_52 ln_X6_17 mo_X1_putShade vo_X1_putShade rfl (rc_3) rfl rfl (Nat.le_of_ble_eq_true rfl) (by omega) (Nat.le_of_ble_eq_true rfl) rfl (s_X1_putShade (by omega) (by decide) (by first | omega | (simp only [Nat.reduceAdd, setR_s]; omega)) (by first | omega | (simp only [Nat.reduceAdd, setR_s]; omega)) (by decide) (by decide)) ?_
        refine Go_M (M1 := setR M 4 (updI (updI P (7 + 7 * i + 4) ((sc P i 4) + (lightF (sc P i 1) (P 2) (sc P i 0)))) (7 + 7 * i + 5) ((sc (updI P (7 + 7 * i + 4) ((sc P i 4) + (lightF (sc P i 1) (P 2) (sc P i 0)))) i 5) + 1))) ((setR_tw _ _ _ _).trans rfl) ?_
        refine Go_iinc (pc := 55) (L' := [some (.inr 3), some (.inl (C + 1)), some (.inl i), some (.inl (lightF (sc P i 1) (P 2) (sc P i 0)))]) dX6_letHourGo_55 rfl (by decide) rfl ?_
        refine Go_iinc (pc := 58) (L' := [some (.inr 3), some (.inl (C + 1)), some (.inl (i + 1)), some (.inl (lightF (sc P i 1) (P 2) (sc P i 0)))]) dX6_letHourGo_58 rfl (by decide) rfl ?_
        refine Go_goto (pc := 61) (tgt := 4) dX6_letHourGo_61 (by decide) ?_
        have e5 : sc (updI P (7 + 7 * i + 4) (sc P i 4 + lightF (sc P i 1) (P 2) (sc P i 0))) i 5 = sc P i 5 := sc_un (by omega)
        have e6 : 0 ≤ i → i < 8 → updI P (7 + 7 * i + 4) (sc P i 4 + lightF (sc P i 1) (P 2) (sc P i 0)) (7 + 7 * i + 5) = sc P i 5 := fun a b => by rw [updI_n (by omega), sc_in _ _ a b]
        have ec : hsC P i = b2i (wellP P i (lightF (sc P i 1) (P 2) (sc P i 0))) := rfl
        have er : hsR P i = updI (updI P (7 + 7 * i + 4) (sc P i 4 + lightF (sc P i 1) (P 2) (sc P i 0))) (7 + 7 * i + 5) (sc P i 5 + hsC P i) := rfl
        rw [wellP_u h0] at c38
        first | rw [b2i_t c38] at ec | rw [b2i_f c38] at ec
        rw [er, ec] at ih
        first | exact Go_M (by rw [e5]) (ih (by omega) _) | exact Go_M (by rw [Int.add_zero, updI_z (e6 h0 (by omega))]) (Go_LS (by rw [Int.add_zero]) rfl (ih (by omega) _))
  refine Go_iconst (pc := 0) dX6_letHourGo_0 ?_
  refine Go_istore_n (pc := 1) (L' := [some (.inr 3), some (.inl 0), none, none]) dX6_letHourGo_1 rfl (by decide) rfl ?_
  refine Go_iconst (pc := 2) dX6_letHourGo_2 ?_
  refine Go_istore_n (pc := 3) (L' := [some (.inr 3), some (.inl 0), some (.inl 0), none]) dX6_letHourGo_3 rfl (by decide) rfl ?_
  exact Go_M (setR_id M 4).symm (K 0 (by omega) (by omega) _)
