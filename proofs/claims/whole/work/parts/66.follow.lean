/-! the class: the orders of a text -/
def wlF (k : Int) : Int := if k = 2 then 5 else 4
def olF (k : Int) : Int := if k = 2 then 8 else if k = 4 then 7 else 9
def odX (f : Int → Int) (n p : Int) (g : Int → Int) : Int × (Int → Int) := odA g (kdF f n p) (dgV f n (p + wlF (kdF f n p) + 1)) (dgV f n (p + wlF (kdF f n p) + 3))
def flN (f : Int → Int) (n : Int) : Nat → Int → (Int → Int) → Int → Int × Int × Int × Int × (Int → Int)
  | 0, p, g, o => (0, p, 0, o, g)
  | m + 1, p, g, o => if n ≤ p then (0, p, 0, o, g) else if brF f n p (kdF f n p) = -1 then (if rsn (odX f n p g).1 = 0 then flN f n m (p + olF (kdF f n p)) (odX f n p g).2 (o + 1) else (rsn (odX f n p g).1, p, 0, o, (odX f n p g).2)) else (1, p, brF f n p (kdF f n p), o, g)
theorem odX_W {f : Int → Int} {n p : Int} {g : Int → Int} (h : Wf g) : Wf (odX f n p g).2 := odA_W h _ _ _
theorem flN_W {f : Int → Int} {n : Int} : ∀ (m : Nat) (p : Int) (g : Int → Int) (o : Int), Wf g → 0 ≤ o → Wf (flN f n m p g o).2.2.2.2 ∧ (0 ≤ (flN f n m p g o).1 ∧ (flN f n m p g o).1 ≤ 3) ∧ (o ≤ (flN f n m p g o).2.2.2.1 ∧ (flN f n m p g o).2.2.2.1 ≤ o + m) ∧ (-1 ≤ (flN f n m p g o).2.2.1 ∧ (flN f n m p g o).2.2.1 ≤ 8) ∧ (0 ≤ p → 0 ≤ (flN f n m p g o).2.1 ∧ (flN f n m p g o).2.1 ≤ p + 9 * m)
  | 0, p, g, o, h, o0 => ⟨h, ⟨by show (0 : Int) ≤ 0; decide, by show (0 : Int) ≤ 3; decide⟩, ⟨Int.le_refl o, by show o ≤ o + ((0 : Nat) : Int); omega⟩, ⟨by show (-1 : Int) ≤ 0; decide, by show (0 : Int) ≤ 8; decide⟩, fun h0 => ⟨h0, by show p ≤ p + 9 * ((0 : Nat) : Int); omega⟩⟩
  | m + 1, p, g, o, h, o0 => by
    have a := flN_W (f := f) (n := n) m (p + olF (kdF f n p)) (odX f n p g).2 (o + 1) (odX_W h) (by omega)
    have b := brF_b f n p (kdF f n p)
    have hl : 7 ≤ olF (kdF f n p) ∧ olF (kdF f n p) ≤ 9 := by
      unfold olF
      (repeat' split) <;> omega
    have hr : 0 ≤ rsn (odX f n p g).1 ∧ rsn (odX f n p g).1 ≤ 3 := by
      unfold rsn
      (repeat' split) <;> omega
    unfold flN
    split
    · exact ⟨h, ⟨by show (0 : Int) ≤ 0; decide, by show (0 : Int) ≤ 3; decide⟩, ⟨Int.le_refl o, by show o ≤ o + ((m + 1 : Nat) : Int); omega⟩, ⟨by show (-1 : Int) ≤ 0; decide, by show (0 : Int) ≤ 8; decide⟩, fun h0 => ⟨h0, by show p ≤ p + 9 * ((m + 1 : Nat) : Int); omega⟩⟩
    · split
      · split
        · exact ⟨a.1, a.2.1, ⟨by omega, by omega⟩, a.2.2.2.1, fun h0 => ⟨(a.2.2.2.2 (by omega)).1, by have := (a.2.2.2.2 (by omega)).2; omega⟩⟩
        · exact ⟨odX_W h, hr, ⟨Int.le_refl o, by show o ≤ o + ((m + 1 : Nat) : Int); omega⟩, ⟨by show (-1 : Int) ≤ 0; decide, by show (0 : Int) ≤ 8; decide⟩, fun h0 => ⟨h0, by show p ≤ p + 9 * ((m + 1 : Nat) : Int); omega⟩⟩
      · exact ⟨h, ⟨by show (0 : Int) ≤ 1; decide, by show (1 : Int) ≤ 3; decide⟩, ⟨Int.le_refl o, by show o ≤ o + ((m + 1 : Nat) : Int); omega⟩, b, fun h0 => ⟨h0, by show p ≤ p + 9 * ((m + 1 : Nat) : Int); omega⟩⟩
abbrev row9 (b : Int → Int) (p r c o : Int) : Int → Int := updI (updI (updI (updI b 0 p) 1 r) 2 c) 3 o
theorem follow_end {d : Nat} (hd : 9 ≤ d) {p t o : Int} {g b : Int → Int} {x : Option MV} {M : gMem} (h : TxOk (M 8) (M 7 1)) (p0 : 0 ≤ p) (p1 : p ≤ 1000) (t1 : 0 ≤ t ∧ t ≤ 60) (hE : 60 ≤ t ∨ M 7 1 ≤ p) : Go d RX3 cX3_follow 5 none 22 [some (.inr 9), some (.inr 7), some (.inr 3), some (.inl t), x] [] (setR (setR M 4 g) 9 (row9 b p 0 0 o)) none (setR (setR M 4 g) 9 (row9 b p 0 0 o)) := by
  have hn := h.1
  refine Go_iload_n (pc := 22) dX3_follow_22 rfl rfl ?_
  refine Go_bipush (pc := 23) dX3_follow_23 (by decide) (by decide) ?_
  refine Go_icmp_ge (pc := 25) (tgt := 120) dX3_follow_25 (by decide) (by omega) (by decide) (fun c25 => ?_) (fun c25 => ?_)
  · exact Go_return (pc := 120) dX3_follow_120 rfl rfl rfl
  · refine Go_aload_n (pc := 28) dX3_follow_28 rfl (by decide) rfl ?_
    refine Go_geti (pc := 29) (z := p) dX3_follow_29 fo_X3_9 (by decide) rfl rfl (show (updI (updI (updI (updI b 0 p) 1 0) 2 0) 3 o) 0 = p from (updI_n (by decide)).trans ((updI_n (by decide)).trans ((updI_n (by decide)).trans (updI_s _ _ _)))) ?_
    refine Go_aload_n (pc := 32) dX3_follow_32 rfl (by decide) rfl ?_
    refine Go_invV (pc := 33) (y := yX5_length) (avs := []) (k := 7) (rest := [.inl p]) (x := .inl (M 7 1))  (d' := d - 1) dX3_follow_33 ln_X3_24 mo_X5_length vo_X5_length rfl (rc_7) rfl rfl (Nat.le_of_ble_eq_true rfl) (by omega) (Nat.le_of_ble_eq_true rfl) rfl (s_X5_length (by omega)) ?_
    refine Go_icmp_ge (pc := 36) (tgt := 120) dX3_follow_36 (by decide) (by omega) (by omega) (fun c36 => ?_) (fun c36 => ?_)
    · exact Go_return (pc := 120) dX3_follow_120 rfl rfl rfl
    · exfalso; omega
theorem follow_form_0 {d : Nat} (hd : 9 ≤ d) {p t o : Int} {g b : Int → Int} {x : Option MV} {M : gMem} (h : TxOk (M 8) (M 7 1)) (p0 : 0 ≤ p) (p1 : p < M 7 1) (t1 : 0 ≤ t ∧ t < 60) (hk : kdF (M 8) (M 7 1) p = 0) (hb : ¬ brF (M 8) (M 7 1) p 0 = -1) : Go d RX3 cX3_follow 5 none 22 [some (.inr 9), some (.inr 7), some (.inr 3), some (.inl t), x] [] (setR (setR M 4 g) 9 (row9 b p 0 0 o)) none (setR (setR M 4 g) 9 (row9 b p 1 (brF (M 8) (M 7 1) p 0) o)) := by
  have hn := h.1
  refine Go_iload_n (pc := 22) dX3_follow_22 rfl rfl ?_
  refine Go_bipush (pc := 23) dX3_follow_23 (by decide) (by decide) ?_
  refine Go_icmp_ge (pc := 25) (tgt := 120) dX3_follow_25 (by decide) (by omega) (by decide) (fun c25 => ?_) (fun c25 => ?_)
  · first | (exfalso; omega) | exact Go_return (pc := 120) dX3_follow_120 rfl rfl (by congr 1; funext q; unfold row9 updI; (repeat' split) <;> first | rfl | omega)
  · refine Go_aload_n (pc := 28) dX3_follow_28 rfl (by decide) rfl ?_
    refine Go_geti (pc := 29) (z := p) dX3_follow_29 fo_X3_9 (by decide) rfl rfl (show (updI (updI (updI (updI b 0 p) 1 0) 2 0) 3 o) 0 = p from (updI_n (by decide)).trans ((updI_n (by decide)).trans ((updI_n (by decide)).trans (updI_s _ _ _)))) ?_
    refine Go_aload_n (pc := 32) dX3_follow_32 rfl (by decide) rfl ?_
    refine Go_invV (pc := 33) (y := yX5_length) (avs := []) (k := 7) (rest := [.inl p]) (x := .inl (M 7 1))  (d' := d - 1) dX3_follow_33 ln_X3_24 mo_X5_length vo_X5_length rfl (rc_7) rfl rfl (Nat.le_of_ble_eq_true rfl) (by omega) (Nat.le_of_ble_eq_true rfl) rfl (s_X5_length (by omega)) ?_
    refine Go_icmp_ge (pc := 36) (tgt := 120) dX3_follow_36 (by decide) (by omega) (by omega) (fun c36 => ?_) (fun c36 => ?_)
    · first | (exfalso; omega) | exact Go_return (pc := 120) dX3_follow_120 rfl rfl (by congr 1; funext q; unfold row9 updI; (repeat' split) <;> first | rfl | omega)
    · refine Go_aload_n (pc := 39) dX3_follow_39 rfl (by decide) rfl ?_
      refine Go_aload_n (pc := 40) dX3_follow_40 rfl (by decide) rfl ?_
      refine Go_geti (pc := 41) (z := p) dX3_follow_41 fo_X3_9 (by decide) rfl rfl (show (updI (updI (updI (updI b 0 p) 1 0) 2 0) 3 o) 0 = p from (updI_n (by decide)).trans ((updI_n (by decide)).trans ((updI_n (by decide)).trans (updI_s _ _ _)))) ?_
      refine Go_invS (pc := 44) (y := yX3_kindAt) (avs := [.inr 7, .inl p]) (rest := []) (x := .inl 0)  (d' := d - 1) dX3_follow_44 ln_X3_30 mo_X3_kindAt so_X3_kindAt rfl rfl rfl (Nat.le_of_ble_eq_true rfl) (by omega) (Nat.le_of_ble_eq_true rfl) rfl (Go_v (congrArg (fun z : Int => (some (.inl z) : Option MV)) hk) rfl (s_X3_kindAt (by omega) h (by first | omega | (simp only [Nat.reduceAdd, setR_s]; omega) | (simp only [setR, Nat.reduceEqDiff, reduceIte]; omega)) (by first | omega | (simp only [Nat.reduceAdd, setR_s]; omega) | (simp only [setR, Nat.reduceEqDiff, reduceIte]; omega)))) ?_
      refine Go_istore (pc := 47) (L' := [some (.inr 9), some (.inr 7), some (.inr 3), some (.inl t), some (.inl 0)]) dX3_follow_47 (by decide) rfl ?_
      refine Go_aload_n (pc := 49) dX3_follow_49 rfl (by decide) rfl ?_
      refine Go_aload_n (pc := 50) dX3_follow_50 rfl (by decide) rfl ?_
      refine Go_aload_n (pc := 51) dX3_follow_51 rfl (by decide) rfl ?_
      refine Go_iload (pc := 52) dX3_follow_52 rfl ?_
      refine Go_invV (pc := 54) (y := yX3_checkForm) (avs := [.inr 7, .inl 0]) (k := 9) (rest := [.inr 9]) (x := .inl 1)  (d' := d - 1) dX3_follow_54 ln_X3_34 mo_X3_checkForm vo_X3_checkForm rfl (rc_9) rfl rfl (Nat.le_of_ble_eq_true rfl) (by omega) (Nat.le_of_ble_eq_true rfl) rfl (s_X3_checkForm_no_0 (p := p) (by omega) h (by first | omega | (simp only [Nat.reduceAdd, setR_s]; omega) | (simp only [setR, Nat.reduceEqDiff, reduceIte]; omega)) (by first | omega | (simp only [Nat.reduceAdd, setR_s]; omega) | (simp only [setR, Nat.reduceEqDiff, reduceIte]; omega)) (show (updI (updI (updI (updI b 0 p) 1 0) 2 0) 3 o) 0 = p from (updI_n (by decide)).trans ((updI_n (by decide)).trans ((updI_n (by decide)).trans (updI_s _ _ _)))) hb) ?_
      refine Go_M (M1 := setR (setR M 4 g) 9 (updI (updI (updI (updI (updI b 0 p) 1 0) 2 0) 3 o) 2 (brF (M 8) (M 7 1) p 0))) ((setR_tw _ _ _ _).trans rfl) ?_
      refine Go_puti (pc := 57) dX3_follow_57 fw_X3_15 (by decide) rfl rfl ?_
      refine Go_M (M1 := setR (setR M 4 g) 9 (updI (updI (updI (updI (updI (updI b 0 p) 1 0) 2 0) 3 o) 2 (brF (M 8) (M 7 1) p 0)) 1 1)) (setR_top _ _ _ _ _) ?_
      refine Go_aload_n (pc := 60) dX3_follow_60 rfl (by decide) rfl ?_
      refine Go_geti (pc := 61) (z := 1) dX3_follow_61 fo_X3_15 (by decide) rfl rfl (show (updI (updI (updI (updI (updI (updI b 0 p) 1 0) 2 0) 3 o) 2 (brF (M 8) (M 7 1) p 0)) 1 1) 1 = 1 from updI_s _ _ _) ?_
      refine Go_if_ne (pc := 64) (tgt := 82) dX3_follow_64 (by decide) (by decide) (fun _ => ?_) (fun q => absurd q (by decide))
      refine Go_aload_n (pc := 82) dX3_follow_82 rfl (by decide) rfl ?_
      refine Go_geti (pc := 83) (z := 1) dX3_follow_83 fo_X3_15 (by decide) rfl rfl (show (updI (updI (updI (updI (updI (updI b 0 p) 1 0) 2 0) 3 o) 2 (brF (M 8) (M 7 1) p 0)) 1 1) 1 = 1 from updI_s _ _ _) ?_
      refine Go_if_eq (pc := 86) (tgt := 90) dX3_follow_86 (by decide) (by decide) (fun q => absurd q (by decide)) (fun _ => ?_)
      first | (exfalso; omega) | exact Go_return (pc := 89) dX3_follow_89 rfl rfl (by congr 1; funext q; unfold row9 updI; (repeat' split) <;> first | rfl | omega)
theorem follow_form_1 {d : Nat} (hd : 9 ≤ d) {p t o : Int} {g b : Int → Int} {x : Option MV} {M : gMem} (h : TxOk (M 8) (M 7 1)) (p0 : 0 ≤ p) (p1 : p < M 7 1) (t1 : 0 ≤ t ∧ t < 60) (hk : kdF (M 8) (M 7 1) p = 1) (hb : ¬ brF (M 8) (M 7 1) p 1 = -1) : Go d RX3 cX3_follow 5 none 22 [some (.inr 9), some (.inr 7), some (.inr 3), some (.inl t), x] [] (setR (setR M 4 g) 9 (row9 b p 0 0 o)) none (setR (setR M 4 g) 9 (row9 b p 1 (brF (M 8) (M 7 1) p 1) o)) := by
  have hn := h.1
  refine Go_iload_n (pc := 22) dX3_follow_22 rfl rfl ?_
  refine Go_bipush (pc := 23) dX3_follow_23 (by decide) (by decide) ?_
  refine Go_icmp_ge (pc := 25) (tgt := 120) dX3_follow_25 (by decide) (by omega) (by decide) (fun c25 => ?_) (fun c25 => ?_)
  · first | (exfalso; omega) | exact Go_return (pc := 120) dX3_follow_120 rfl rfl (by congr 1; funext q; unfold row9 updI; (repeat' split) <;> first | rfl | omega)
  · refine Go_aload_n (pc := 28) dX3_follow_28 rfl (by decide) rfl ?_
    refine Go_geti (pc := 29) (z := p) dX3_follow_29 fo_X3_9 (by decide) rfl rfl (show (updI (updI (updI (updI b 0 p) 1 0) 2 0) 3 o) 0 = p from (updI_n (by decide)).trans ((updI_n (by decide)).trans ((updI_n (by decide)).trans (updI_s _ _ _)))) ?_
    refine Go_aload_n (pc := 32) dX3_follow_32 rfl (by decide) rfl ?_
    refine Go_invV (pc := 33) (y := yX5_length) (avs := []) (k := 7) (rest := [.inl p]) (x := .inl (M 7 1))  (d' := d - 1) dX3_follow_33 ln_X3_24 mo_X5_length vo_X5_length rfl (rc_7) rfl rfl (Nat.le_of_ble_eq_true rfl) (by omega) (Nat.le_of_ble_eq_true rfl) rfl (s_X5_length (by omega)) ?_
    refine Go_icmp_ge (pc := 36) (tgt := 120) dX3_follow_36 (by decide) (by omega) (by omega) (fun c36 => ?_) (fun c36 => ?_)
    · first | (exfalso; omega) | exact Go_return (pc := 120) dX3_follow_120 rfl rfl (by congr 1; funext q; unfold row9 updI; (repeat' split) <;> first | rfl | omega)
    · refine Go_aload_n (pc := 39) dX3_follow_39 rfl (by decide) rfl ?_
      refine Go_aload_n (pc := 40) dX3_follow_40 rfl (by decide) rfl ?_
      refine Go_geti (pc := 41) (z := p) dX3_follow_41 fo_X3_9 (by decide) rfl rfl (show (updI (updI (updI (updI b 0 p) 1 0) 2 0) 3 o) 0 = p from (updI_n (by decide)).trans ((updI_n (by decide)).trans ((updI_n (by decide)).trans (updI_s _ _ _)))) ?_
      refine Go_invS (pc := 44) (y := yX3_kindAt) (avs := [.inr 7, .inl p]) (rest := []) (x := .inl 1)  (d' := d - 1) dX3_follow_44 ln_X3_30 mo_X3_kindAt so_X3_kindAt rfl rfl rfl (Nat.le_of_ble_eq_true rfl) (by omega) (Nat.le_of_ble_eq_true rfl) rfl (Go_v (congrArg (fun z : Int => (some (.inl z) : Option MV)) hk) rfl (s_X3_kindAt (by omega) h (by first | omega | (simp only [Nat.reduceAdd, setR_s]; omega) | (simp only [setR, Nat.reduceEqDiff, reduceIte]; omega)) (by first | omega | (simp only [Nat.reduceAdd, setR_s]; omega) | (simp only [setR, Nat.reduceEqDiff, reduceIte]; omega)))) ?_
      refine Go_istore (pc := 47) (L' := [some (.inr 9), some (.inr 7), some (.inr 3), some (.inl t), some (.inl 1)]) dX3_follow_47 (by decide) rfl ?_
      refine Go_aload_n (pc := 49) dX3_follow_49 rfl (by decide) rfl ?_
      refine Go_aload_n (pc := 50) dX3_follow_50 rfl (by decide) rfl ?_
      refine Go_aload_n (pc := 51) dX3_follow_51 rfl (by decide) rfl ?_
      refine Go_iload (pc := 52) dX3_follow_52 rfl ?_
      refine Go_invV (pc := 54) (y := yX3_checkForm) (avs := [.inr 7, .inl 1]) (k := 9) (rest := [.inr 9]) (x := .inl 1)  (d' := d - 1) dX3_follow_54 ln_X3_34 mo_X3_checkForm vo_X3_checkForm rfl (rc_9) rfl rfl (Nat.le_of_ble_eq_true rfl) (by omega) (Nat.le_of_ble_eq_true rfl) rfl (s_X3_checkForm_no_1 (p := p) (by omega) h (by first | omega | (simp only [Nat.reduceAdd, setR_s]; omega) | (simp only [setR, Nat.reduceEqDiff, reduceIte]; omega)) (by first | omega | (simp only [Nat.reduceAdd, setR_s]; omega) | (simp only [setR, Nat.reduceEqDiff, reduceIte]; omega)) (show (updI (updI (updI (updI b 0 p) 1 0) 2 0) 3 o) 0 = p from (updI_n (by decide)).trans ((updI_n (by decide)).trans ((updI_n (by decide)).trans (updI_s _ _ _)))) hb) ?_
      refine Go_M (M1 := setR (setR M 4 g) 9 (updI (updI (updI (updI (updI b 0 p) 1 0) 2 0) 3 o) 2 (brF (M 8) (M 7 1) p 1))) ((setR_tw _ _ _ _).trans rfl) ?_
      refine Go_puti (pc := 57) dX3_follow_57 fw_X3_15 (by decide) rfl rfl ?_
      refine Go_M (M1 := setR (setR M 4 g) 9 (updI (updI (updI (updI (updI (updI b 0 p) 1 0) 2 0) 3 o) 2 (brF (M 8) (M 7 1) p 1)) 1 1)) (setR_top _ _ _ _ _) ?_
      refine Go_aload_n (pc := 60) dX3_follow_60 rfl (by decide) rfl ?_
      refine Go_geti (pc := 61) (z := 1) dX3_follow_61 fo_X3_15 (by decide) rfl rfl (show (updI (updI (updI (updI (updI (updI b 0 p) 1 0) 2 0) 3 o) 2 (brF (M 8) (M 7 1) p 1)) 1 1) 1 = 1 from updI_s _ _ _) ?_
      refine Go_if_ne (pc := 64) (tgt := 82) dX3_follow_64 (by decide) (by decide) (fun _ => ?_) (fun q => absurd q (by decide))
      refine Go_aload_n (pc := 82) dX3_follow_82 rfl (by decide) rfl ?_
      refine Go_geti (pc := 83) (z := 1) dX3_follow_83 fo_X3_15 (by decide) rfl rfl (show (updI (updI (updI (updI (updI (updI b 0 p) 1 0) 2 0) 3 o) 2 (brF (M 8) (M 7 1) p 1)) 1 1) 1 = 1 from updI_s _ _ _) ?_
      refine Go_if_eq (pc := 86) (tgt := 90) dX3_follow_86 (by decide) (by decide) (fun q => absurd q (by decide)) (fun _ => ?_)
      first | (exfalso; omega) | exact Go_return (pc := 89) dX3_follow_89 rfl rfl (by congr 1; funext q; unfold row9 updI; (repeat' split) <;> first | rfl | omega)
theorem follow_form_2 {d : Nat} (hd : 9 ≤ d) {p t o : Int} {g b : Int → Int} {x : Option MV} {M : gMem} (h : TxOk (M 8) (M 7 1)) (p0 : 0 ≤ p) (p1 : p < M 7 1) (t1 : 0 ≤ t ∧ t < 60) (hk : kdF (M 8) (M 7 1) p = 2) (hb : ¬ brF (M 8) (M 7 1) p 2 = -1) : Go d RX3 cX3_follow 5 none 22 [some (.inr 9), some (.inr 7), some (.inr 3), some (.inl t), x] [] (setR (setR M 4 g) 9 (row9 b p 0 0 o)) none (setR (setR M 4 g) 9 (row9 b p 1 (brF (M 8) (M 7 1) p 2) o)) := by
  have hn := h.1
  refine Go_iload_n (pc := 22) dX3_follow_22 rfl rfl ?_
  refine Go_bipush (pc := 23) dX3_follow_23 (by decide) (by decide) ?_
  refine Go_icmp_ge (pc := 25) (tgt := 120) dX3_follow_25 (by decide) (by omega) (by decide) (fun c25 => ?_) (fun c25 => ?_)
  · first | (exfalso; omega) | exact Go_return (pc := 120) dX3_follow_120 rfl rfl (by congr 1; funext q; unfold row9 updI; (repeat' split) <;> first | rfl | omega)
  · refine Go_aload_n (pc := 28) dX3_follow_28 rfl (by decide) rfl ?_
    refine Go_geti (pc := 29) (z := p) dX3_follow_29 fo_X3_9 (by decide) rfl rfl (show (updI (updI (updI (updI b 0 p) 1 0) 2 0) 3 o) 0 = p from (updI_n (by decide)).trans ((updI_n (by decide)).trans ((updI_n (by decide)).trans (updI_s _ _ _)))) ?_
    refine Go_aload_n (pc := 32) dX3_follow_32 rfl (by decide) rfl ?_
    refine Go_invV (pc := 33) (y := yX5_length) (avs := []) (k := 7) (rest := [.inl p]) (x := .inl (M 7 1))  (d' := d - 1) dX3_follow_33 ln_X3_24 mo_X5_length vo_X5_length rfl (rc_7) rfl rfl (Nat.le_of_ble_eq_true rfl) (by omega) (Nat.le_of_ble_eq_true rfl) rfl (s_X5_length (by omega)) ?_
    refine Go_icmp_ge (pc := 36) (tgt := 120) dX3_follow_36 (by decide) (by omega) (by omega) (fun c36 => ?_) (fun c36 => ?_)
    · first | (exfalso; omega) | exact Go_return (pc := 120) dX3_follow_120 rfl rfl (by congr 1; funext q; unfold row9 updI; (repeat' split) <;> first | rfl | omega)
    · refine Go_aload_n (pc := 39) dX3_follow_39 rfl (by decide) rfl ?_
      refine Go_aload_n (pc := 40) dX3_follow_40 rfl (by decide) rfl ?_
      refine Go_geti (pc := 41) (z := p) dX3_follow_41 fo_X3_9 (by decide) rfl rfl (show (updI (updI (updI (updI b 0 p) 1 0) 2 0) 3 o) 0 = p from (updI_n (by decide)).trans ((updI_n (by decide)).trans ((updI_n (by decide)).trans (updI_s _ _ _)))) ?_
      refine Go_invS (pc := 44) (y := yX3_kindAt) (avs := [.inr 7, .inl p]) (rest := []) (x := .inl 2)  (d' := d - 1) dX3_follow_44 ln_X3_30 mo_X3_kindAt so_X3_kindAt rfl rfl rfl (Nat.le_of_ble_eq_true rfl) (by omega) (Nat.le_of_ble_eq_true rfl) rfl (Go_v (congrArg (fun z : Int => (some (.inl z) : Option MV)) hk) rfl (s_X3_kindAt (by omega) h (by first | omega | (simp only [Nat.reduceAdd, setR_s]; omega) | (simp only [setR, Nat.reduceEqDiff, reduceIte]; omega)) (by first | omega | (simp only [Nat.reduceAdd, setR_s]; omega) | (simp only [setR, Nat.reduceEqDiff, reduceIte]; omega)))) ?_
      refine Go_istore (pc := 47) (L' := [some (.inr 9), some (.inr 7), some (.inr 3), some (.inl t), some (.inl 2)]) dX3_follow_47 (by decide) rfl ?_
      refine Go_aload_n (pc := 49) dX3_follow_49 rfl (by decide) rfl ?_
      refine Go_aload_n (pc := 50) dX3_follow_50 rfl (by decide) rfl ?_
      refine Go_aload_n (pc := 51) dX3_follow_51 rfl (by decide) rfl ?_
      refine Go_iload (pc := 52) dX3_follow_52 rfl ?_
      refine Go_invV (pc := 54) (y := yX3_checkForm) (avs := [.inr 7, .inl 2]) (k := 9) (rest := [.inr 9]) (x := .inl 1)  (d' := d - 1) dX3_follow_54 ln_X3_34 mo_X3_checkForm vo_X3_checkForm rfl (rc_9) rfl rfl (Nat.le_of_ble_eq_true rfl) (by omega) (Nat.le_of_ble_eq_true rfl) rfl (s_X3_checkForm_no_2 (p := p) (by omega) h (by first | omega | (simp only [Nat.reduceAdd, setR_s]; omega) | (simp only [setR, Nat.reduceEqDiff, reduceIte]; omega)) (by first | omega | (simp only [Nat.reduceAdd, setR_s]; omega) | (simp only [setR, Nat.reduceEqDiff, reduceIte]; omega)) (show (updI (updI (updI (updI b 0 p) 1 0) 2 0) 3 o) 0 = p from (updI_n (by decide)).trans ((updI_n (by decide)).trans ((updI_n (by decide)).trans (updI_s _ _ _)))) hb) ?_
      refine Go_M (M1 := setR (setR M 4 g) 9 (updI (updI (updI (updI (updI b 0 p) 1 0) 2 0) 3 o) 2 (brF (M 8) (M 7 1) p 2))) ((setR_tw _ _ _ _).trans rfl) ?_
      refine Go_puti (pc := 57) dX3_follow_57 fw_X3_15 (by decide) rfl rfl ?_
      refine Go_M (M1 := setR (setR M 4 g) 9 (updI (updI (updI (updI (updI (updI b 0 p) 1 0) 2 0) 3 o) 2 (brF (M 8) (M 7 1) p 2)) 1 1)) (setR_top _ _ _ _ _) ?_
      refine Go_aload_n (pc := 60) dX3_follow_60 rfl (by decide) rfl ?_
      refine Go_geti (pc := 61) (z := 1) dX3_follow_61 fo_X3_15 (by decide) rfl rfl (show (updI (updI (updI (updI (updI (updI b 0 p) 1 0) 2 0) 3 o) 2 (brF (M 8) (M 7 1) p 2)) 1 1) 1 = 1 from updI_s _ _ _) ?_
      refine Go_if_ne (pc := 64) (tgt := 82) dX3_follow_64 (by decide) (by decide) (fun _ => ?_) (fun q => absurd q (by decide))
      refine Go_aload_n (pc := 82) dX3_follow_82 rfl (by decide) rfl ?_
      refine Go_geti (pc := 83) (z := 1) dX3_follow_83 fo_X3_15 (by decide) rfl rfl (show (updI (updI (updI (updI (updI (updI b 0 p) 1 0) 2 0) 3 o) 2 (brF (M 8) (M 7 1) p 2)) 1 1) 1 = 1 from updI_s _ _ _) ?_
      refine Go_if_eq (pc := 86) (tgt := 90) dX3_follow_86 (by decide) (by decide) (fun q => absurd q (by decide)) (fun _ => ?_)
      first | (exfalso; omega) | exact Go_return (pc := 89) dX3_follow_89 rfl rfl (by congr 1; funext q; unfold row9 updI; (repeat' split) <;> first | rfl | omega)
theorem follow_form_3 {d : Nat} (hd : 9 ≤ d) {p t o : Int} {g b : Int → Int} {x : Option MV} {M : gMem} (h : TxOk (M 8) (M 7 1)) (p0 : 0 ≤ p) (p1 : p < M 7 1) (t1 : 0 ≤ t ∧ t < 60) (hk : kdF (M 8) (M 7 1) p = 3) (hb : ¬ brF (M 8) (M 7 1) p 3 = -1) : Go d RX3 cX3_follow 5 none 22 [some (.inr 9), some (.inr 7), some (.inr 3), some (.inl t), x] [] (setR (setR M 4 g) 9 (row9 b p 0 0 o)) none (setR (setR M 4 g) 9 (row9 b p 1 (brF (M 8) (M 7 1) p 3) o)) := by
  have hn := h.1
  refine Go_iload_n (pc := 22) dX3_follow_22 rfl rfl ?_
  refine Go_bipush (pc := 23) dX3_follow_23 (by decide) (by decide) ?_
  refine Go_icmp_ge (pc := 25) (tgt := 120) dX3_follow_25 (by decide) (by omega) (by decide) (fun c25 => ?_) (fun c25 => ?_)
  · first | (exfalso; omega) | exact Go_return (pc := 120) dX3_follow_120 rfl rfl (by congr 1; funext q; unfold row9 updI; (repeat' split) <;> first | rfl | omega)
  · refine Go_aload_n (pc := 28) dX3_follow_28 rfl (by decide) rfl ?_
    refine Go_geti (pc := 29) (z := p) dX3_follow_29 fo_X3_9 (by decide) rfl rfl (show (updI (updI (updI (updI b 0 p) 1 0) 2 0) 3 o) 0 = p from (updI_n (by decide)).trans ((updI_n (by decide)).trans ((updI_n (by decide)).trans (updI_s _ _ _)))) ?_
    refine Go_aload_n (pc := 32) dX3_follow_32 rfl (by decide) rfl ?_
    refine Go_invV (pc := 33) (y := yX5_length) (avs := []) (k := 7) (rest := [.inl p]) (x := .inl (M 7 1))  (d' := d - 1) dX3_follow_33 ln_X3_24 mo_X5_length vo_X5_length rfl (rc_7) rfl rfl (Nat.le_of_ble_eq_true rfl) (by omega) (Nat.le_of_ble_eq_true rfl) rfl (s_X5_length (by omega)) ?_
    refine Go_icmp_ge (pc := 36) (tgt := 120) dX3_follow_36 (by decide) (by omega) (by omega) (fun c36 => ?_) (fun c36 => ?_)
    · first | (exfalso; omega) | exact Go_return (pc := 120) dX3_follow_120 rfl rfl (by congr 1; funext q; unfold row9 updI; (repeat' split) <;> first | rfl | omega)
    · refine Go_aload_n (pc := 39) dX3_follow_39 rfl (by decide) rfl ?_
      refine Go_aload_n (pc := 40) dX3_follow_40 rfl (by decide) rfl ?_
      refine Go_geti (pc := 41) (z := p) dX3_follow_41 fo_X3_9 (by decide) rfl rfl (show (updI (updI (updI (updI b 0 p) 1 0) 2 0) 3 o) 0 = p from (updI_n (by decide)).trans ((updI_n (by decide)).trans ((updI_n (by decide)).trans (updI_s _ _ _)))) ?_
      refine Go_invS (pc := 44) (y := yX3_kindAt) (avs := [.inr 7, .inl p]) (rest := []) (x := .inl 3)  (d' := d - 1) dX3_follow_44 ln_X3_30 mo_X3_kindAt so_X3_kindAt rfl rfl rfl (Nat.le_of_ble_eq_true rfl) (by omega) (Nat.le_of_ble_eq_true rfl) rfl (Go_v (congrArg (fun z : Int => (some (.inl z) : Option MV)) hk) rfl (s_X3_kindAt (by omega) h (by first | omega | (simp only [Nat.reduceAdd, setR_s]; omega) | (simp only [setR, Nat.reduceEqDiff, reduceIte]; omega)) (by first | omega | (simp only [Nat.reduceAdd, setR_s]; omega) | (simp only [setR, Nat.reduceEqDiff, reduceIte]; omega)))) ?_
      refine Go_istore (pc := 47) (L' := [some (.inr 9), some (.inr 7), some (.inr 3), some (.inl t), some (.inl 3)]) dX3_follow_47 (by decide) rfl ?_
      refine Go_aload_n (pc := 49) dX3_follow_49 rfl (by decide) rfl ?_
      refine Go_aload_n (pc := 50) dX3_follow_50 rfl (by decide) rfl ?_
      refine Go_aload_n (pc := 51) dX3_follow_51 rfl (by decide) rfl ?_
      refine Go_iload (pc := 52) dX3_follow_52 rfl ?_
      refine Go_invV (pc := 54) (y := yX3_checkForm) (avs := [.inr 7, .inl 3]) (k := 9) (rest := [.inr 9]) (x := .inl 1)  (d' := d - 1) dX3_follow_54 ln_X3_34 mo_X3_checkForm vo_X3_checkForm rfl (rc_9) rfl rfl (Nat.le_of_ble_eq_true rfl) (by omega) (Nat.le_of_ble_eq_true rfl) rfl (s_X3_checkForm_no_3 (p := p) (by omega) h (by first | omega | (simp only [Nat.reduceAdd, setR_s]; omega) | (simp only [setR, Nat.reduceEqDiff, reduceIte]; omega)) (by first | omega | (simp only [Nat.reduceAdd, setR_s]; omega) | (simp only [setR, Nat.reduceEqDiff, reduceIte]; omega)) (show (updI (updI (updI (updI b 0 p) 1 0) 2 0) 3 o) 0 = p from (updI_n (by decide)).trans ((updI_n (by decide)).trans ((updI_n (by decide)).trans (updI_s _ _ _)))) hb) ?_
      refine Go_M (M1 := setR (setR M 4 g) 9 (updI (updI (updI (updI (updI b 0 p) 1 0) 2 0) 3 o) 2 (brF (M 8) (M 7 1) p 3))) ((setR_tw _ _ _ _).trans rfl) ?_
      refine Go_puti (pc := 57) dX3_follow_57 fw_X3_15 (by decide) rfl rfl ?_
      refine Go_M (M1 := setR (setR M 4 g) 9 (updI (updI (updI (updI (updI (updI b 0 p) 1 0) 2 0) 3 o) 2 (brF (M 8) (M 7 1) p 3)) 1 1)) (setR_top _ _ _ _ _) ?_
      refine Go_aload_n (pc := 60) dX3_follow_60 rfl (by decide) rfl ?_
      refine Go_geti (pc := 61) (z := 1) dX3_follow_61 fo_X3_15 (by decide) rfl rfl (show (updI (updI (updI (updI (updI (updI b 0 p) 1 0) 2 0) 3 o) 2 (brF (M 8) (M 7 1) p 3)) 1 1) 1 = 1 from updI_s _ _ _) ?_
      refine Go_if_ne (pc := 64) (tgt := 82) dX3_follow_64 (by decide) (by decide) (fun _ => ?_) (fun q => absurd q (by decide))
      refine Go_aload_n (pc := 82) dX3_follow_82 rfl (by decide) rfl ?_
      refine Go_geti (pc := 83) (z := 1) dX3_follow_83 fo_X3_15 (by decide) rfl rfl (show (updI (updI (updI (updI (updI (updI b 0 p) 1 0) 2 0) 3 o) 2 (brF (M 8) (M 7 1) p 3)) 1 1) 1 = 1 from updI_s _ _ _) ?_
      refine Go_if_eq (pc := 86) (tgt := 90) dX3_follow_86 (by decide) (by decide) (fun q => absurd q (by decide)) (fun _ => ?_)
      first | (exfalso; omega) | exact Go_return (pc := 89) dX3_follow_89 rfl rfl (by congr 1; funext q; unfold row9 updI; (repeat' split) <;> first | rfl | omega)
theorem follow_form_4 {d : Nat} (hd : 9 ≤ d) {p t o : Int} {g b : Int → Int} {x : Option MV} {M : gMem} (h : TxOk (M 8) (M 7 1)) (p0 : 0 ≤ p) (p1 : p < M 7 1) (t1 : 0 ≤ t ∧ t < 60) (hk : kdF (M 8) (M 7 1) p = 4) (hb : ¬ brF (M 8) (M 7 1) p 4 = -1) : Go d RX3 cX3_follow 5 none 22 [some (.inr 9), some (.inr 7), some (.inr 3), some (.inl t), x] [] (setR (setR M 4 g) 9 (row9 b p 0 0 o)) none (setR (setR M 4 g) 9 (row9 b p 1 (brF (M 8) (M 7 1) p 4) o)) := by
  have hn := h.1
  refine Go_iload_n (pc := 22) dX3_follow_22 rfl rfl ?_
  refine Go_bipush (pc := 23) dX3_follow_23 (by decide) (by decide) ?_
  refine Go_icmp_ge (pc := 25) (tgt := 120) dX3_follow_25 (by decide) (by omega) (by decide) (fun c25 => ?_) (fun c25 => ?_)
  · first | (exfalso; omega) | exact Go_return (pc := 120) dX3_follow_120 rfl rfl (by congr 1; funext q; unfold row9 updI; (repeat' split) <;> first | rfl | omega)
  · refine Go_aload_n (pc := 28) dX3_follow_28 rfl (by decide) rfl ?_
    refine Go_geti (pc := 29) (z := p) dX3_follow_29 fo_X3_9 (by decide) rfl rfl (show (updI (updI (updI (updI b 0 p) 1 0) 2 0) 3 o) 0 = p from (updI_n (by decide)).trans ((updI_n (by decide)).trans ((updI_n (by decide)).trans (updI_s _ _ _)))) ?_
    refine Go_aload_n (pc := 32) dX3_follow_32 rfl (by decide) rfl ?_
    refine Go_invV (pc := 33) (y := yX5_length) (avs := []) (k := 7) (rest := [.inl p]) (x := .inl (M 7 1))  (d' := d - 1) dX3_follow_33 ln_X3_24 mo_X5_length vo_X5_length rfl (rc_7) rfl rfl (Nat.le_of_ble_eq_true rfl) (by omega) (Nat.le_of_ble_eq_true rfl) rfl (s_X5_length (by omega)) ?_
    refine Go_icmp_ge (pc := 36) (tgt := 120) dX3_follow_36 (by decide) (by omega) (by omega) (fun c36 => ?_) (fun c36 => ?_)
    · first | (exfalso; omega) | exact Go_return (pc := 120) dX3_follow_120 rfl rfl (by congr 1; funext q; unfold row9 updI; (repeat' split) <;> first | rfl | omega)
    · refine Go_aload_n (pc := 39) dX3_follow_39 rfl (by decide) rfl ?_
      refine Go_aload_n (pc := 40) dX3_follow_40 rfl (by decide) rfl ?_
      refine Go_geti (pc := 41) (z := p) dX3_follow_41 fo_X3_9 (by decide) rfl rfl (show (updI (updI (updI (updI b 0 p) 1 0) 2 0) 3 o) 0 = p from (updI_n (by decide)).trans ((updI_n (by decide)).trans ((updI_n (by decide)).trans (updI_s _ _ _)))) ?_
      refine Go_invS (pc := 44) (y := yX3_kindAt) (avs := [.inr 7, .inl p]) (rest := []) (x := .inl 4)  (d' := d - 1) dX3_follow_44 ln_X3_30 mo_X3_kindAt so_X3_kindAt rfl rfl rfl (Nat.le_of_ble_eq_true rfl) (by omega) (Nat.le_of_ble_eq_true rfl) rfl (Go_v (congrArg (fun z : Int => (some (.inl z) : Option MV)) hk) rfl (s_X3_kindAt (by omega) h (by first | omega | (simp only [Nat.reduceAdd, setR_s]; omega) | (simp only [setR, Nat.reduceEqDiff, reduceIte]; omega)) (by first | omega | (simp only [Nat.reduceAdd, setR_s]; omega) | (simp only [setR, Nat.reduceEqDiff, reduceIte]; omega)))) ?_
      refine Go_istore (pc := 47) (L' := [some (.inr 9), some (.inr 7), some (.inr 3), some (.inl t), some (.inl 4)]) dX3_follow_47 (by decide) rfl ?_
      refine Go_aload_n (pc := 49) dX3_follow_49 rfl (by decide) rfl ?_
      refine Go_aload_n (pc := 50) dX3_follow_50 rfl (by decide) rfl ?_
      refine Go_aload_n (pc := 51) dX3_follow_51 rfl (by decide) rfl ?_
      refine Go_iload (pc := 52) dX3_follow_52 rfl ?_
      refine Go_invV (pc := 54) (y := yX3_checkForm) (avs := [.inr 7, .inl 4]) (k := 9) (rest := [.inr 9]) (x := .inl 1)  (d' := d - 1) dX3_follow_54 ln_X3_34 mo_X3_checkForm vo_X3_checkForm rfl (rc_9) rfl rfl (Nat.le_of_ble_eq_true rfl) (by omega) (Nat.le_of_ble_eq_true rfl) rfl (s_X3_checkForm_no_4 (p := p) (by omega) h (by first | omega | (simp only [Nat.reduceAdd, setR_s]; omega) | (simp only [setR, Nat.reduceEqDiff, reduceIte]; omega)) (by first | omega | (simp only [Nat.reduceAdd, setR_s]; omega) | (simp only [setR, Nat.reduceEqDiff, reduceIte]; omega)) (show (updI (updI (updI (updI b 0 p) 1 0) 2 0) 3 o) 0 = p from (updI_n (by decide)).trans ((updI_n (by decide)).trans ((updI_n (by decide)).trans (updI_s _ _ _)))) hb) ?_
      refine Go_M (M1 := setR (setR M 4 g) 9 (updI (updI (updI (updI (updI b 0 p) 1 0) 2 0) 3 o) 2 (brF (M 8) (M 7 1) p 4))) ((setR_tw _ _ _ _).trans rfl) ?_
      refine Go_puti (pc := 57) dX3_follow_57 fw_X3_15 (by decide) rfl rfl ?_
      refine Go_M (M1 := setR (setR M 4 g) 9 (updI (updI (updI (updI (updI (updI b 0 p) 1 0) 2 0) 3 o) 2 (brF (M 8) (M 7 1) p 4)) 1 1)) (setR_top _ _ _ _ _) ?_
      refine Go_aload_n (pc := 60) dX3_follow_60 rfl (by decide) rfl ?_
      refine Go_geti (pc := 61) (z := 1) dX3_follow_61 fo_X3_15 (by decide) rfl rfl (show (updI (updI (updI (updI (updI (updI b 0 p) 1 0) 2 0) 3 o) 2 (brF (M 8) (M 7 1) p 4)) 1 1) 1 = 1 from updI_s _ _ _) ?_
      refine Go_if_ne (pc := 64) (tgt := 82) dX3_follow_64 (by decide) (by decide) (fun _ => ?_) (fun q => absurd q (by decide))
      refine Go_aload_n (pc := 82) dX3_follow_82 rfl (by decide) rfl ?_
      refine Go_geti (pc := 83) (z := 1) dX3_follow_83 fo_X3_15 (by decide) rfl rfl (show (updI (updI (updI (updI (updI (updI b 0 p) 1 0) 2 0) 3 o) 2 (brF (M 8) (M 7 1) p 4)) 1 1) 1 = 1 from updI_s _ _ _) ?_
      refine Go_if_eq (pc := 86) (tgt := 90) dX3_follow_86 (by decide) (by decide) (fun q => absurd q (by decide)) (fun _ => ?_)
      first | (exfalso; omega) | exact Go_return (pc := 89) dX3_follow_89 rfl rfl (by congr 1; funext q; unfold row9 updI; (repeat' split) <;> first | rfl | omega)
theorem follow_form_5 {d : Nat} (hd : 9 ≤ d) {p t o : Int} {g b : Int → Int} {x : Option MV} {M : gMem} (h : TxOk (M 8) (M 7 1)) (p0 : 0 ≤ p) (p1 : p < M 7 1) (t1 : 0 ≤ t ∧ t < 60) (hk : kdF (M 8) (M 7 1) p = 5) (hb : ¬ brF (M 8) (M 7 1) p 5 = -1) : Go d RX3 cX3_follow 5 none 22 [some (.inr 9), some (.inr 7), some (.inr 3), some (.inl t), x] [] (setR (setR M 4 g) 9 (row9 b p 0 0 o)) none (setR (setR M 4 g) 9 (row9 b p 1 (brF (M 8) (M 7 1) p 5) o)) := by
  have hn := h.1
  refine Go_iload_n (pc := 22) dX3_follow_22 rfl rfl ?_
  refine Go_bipush (pc := 23) dX3_follow_23 (by decide) (by decide) ?_
  refine Go_icmp_ge (pc := 25) (tgt := 120) dX3_follow_25 (by decide) (by omega) (by decide) (fun c25 => ?_) (fun c25 => ?_)
  · first | (exfalso; omega) | exact Go_return (pc := 120) dX3_follow_120 rfl rfl (by congr 1; funext q; unfold row9 updI; (repeat' split) <;> first | rfl | omega)
  · refine Go_aload_n (pc := 28) dX3_follow_28 rfl (by decide) rfl ?_
    refine Go_geti (pc := 29) (z := p) dX3_follow_29 fo_X3_9 (by decide) rfl rfl (show (updI (updI (updI (updI b 0 p) 1 0) 2 0) 3 o) 0 = p from (updI_n (by decide)).trans ((updI_n (by decide)).trans ((updI_n (by decide)).trans (updI_s _ _ _)))) ?_
    refine Go_aload_n (pc := 32) dX3_follow_32 rfl (by decide) rfl ?_
    refine Go_invV (pc := 33) (y := yX5_length) (avs := []) (k := 7) (rest := [.inl p]) (x := .inl (M 7 1))  (d' := d - 1) dX3_follow_33 ln_X3_24 mo_X5_length vo_X5_length rfl (rc_7) rfl rfl (Nat.le_of_ble_eq_true rfl) (by omega) (Nat.le_of_ble_eq_true rfl) rfl (s_X5_length (by omega)) ?_
    refine Go_icmp_ge (pc := 36) (tgt := 120) dX3_follow_36 (by decide) (by omega) (by omega) (fun c36 => ?_) (fun c36 => ?_)
    · first | (exfalso; omega) | exact Go_return (pc := 120) dX3_follow_120 rfl rfl (by congr 1; funext q; unfold row9 updI; (repeat' split) <;> first | rfl | omega)
    · refine Go_aload_n (pc := 39) dX3_follow_39 rfl (by decide) rfl ?_
      refine Go_aload_n (pc := 40) dX3_follow_40 rfl (by decide) rfl ?_
      refine Go_geti (pc := 41) (z := p) dX3_follow_41 fo_X3_9 (by decide) rfl rfl (show (updI (updI (updI (updI b 0 p) 1 0) 2 0) 3 o) 0 = p from (updI_n (by decide)).trans ((updI_n (by decide)).trans ((updI_n (by decide)).trans (updI_s _ _ _)))) ?_
      refine Go_invS (pc := 44) (y := yX3_kindAt) (avs := [.inr 7, .inl p]) (rest := []) (x := .inl 5)  (d' := d - 1) dX3_follow_44 ln_X3_30 mo_X3_kindAt so_X3_kindAt rfl rfl rfl (Nat.le_of_ble_eq_true rfl) (by omega) (Nat.le_of_ble_eq_true rfl) rfl (Go_v (congrArg (fun z : Int => (some (.inl z) : Option MV)) hk) rfl (s_X3_kindAt (by omega) h (by first | omega | (simp only [Nat.reduceAdd, setR_s]; omega) | (simp only [setR, Nat.reduceEqDiff, reduceIte]; omega)) (by first | omega | (simp only [Nat.reduceAdd, setR_s]; omega) | (simp only [setR, Nat.reduceEqDiff, reduceIte]; omega)))) ?_
      refine Go_istore (pc := 47) (L' := [some (.inr 9), some (.inr 7), some (.inr 3), some (.inl t), some (.inl 5)]) dX3_follow_47 (by decide) rfl ?_
      refine Go_aload_n (pc := 49) dX3_follow_49 rfl (by decide) rfl ?_
      refine Go_aload_n (pc := 50) dX3_follow_50 rfl (by decide) rfl ?_
      refine Go_aload_n (pc := 51) dX3_follow_51 rfl (by decide) rfl ?_
      refine Go_iload (pc := 52) dX3_follow_52 rfl ?_
      refine Go_invV (pc := 54) (y := yX3_checkForm) (avs := [.inr 7, .inl 5]) (k := 9) (rest := [.inr 9]) (x := .inl 1)  (d' := d - 1) dX3_follow_54 ln_X3_34 mo_X3_checkForm vo_X3_checkForm rfl (rc_9) rfl rfl (Nat.le_of_ble_eq_true rfl) (by omega) (Nat.le_of_ble_eq_true rfl) rfl (s_X3_checkForm_no_5 (p := p) (by omega) h (by first | omega | (simp only [Nat.reduceAdd, setR_s]; omega) | (simp only [setR, Nat.reduceEqDiff, reduceIte]; omega)) (by first | omega | (simp only [Nat.reduceAdd, setR_s]; omega) | (simp only [setR, Nat.reduceEqDiff, reduceIte]; omega)) (show (updI (updI (updI (updI b 0 p) 1 0) 2 0) 3 o) 0 = p from (updI_n (by decide)).trans ((updI_n (by decide)).trans ((updI_n (by decide)).trans (updI_s _ _ _)))) hb) ?_
      refine Go_M (M1 := setR (setR M 4 g) 9 (updI (updI (updI (updI (updI b 0 p) 1 0) 2 0) 3 o) 2 (brF (M 8) (M 7 1) p 5))) ((setR_tw _ _ _ _).trans rfl) ?_
      refine Go_puti (pc := 57) dX3_follow_57 fw_X3_15 (by decide) rfl rfl ?_
      refine Go_M (M1 := setR (setR M 4 g) 9 (updI (updI (updI (updI (updI (updI b 0 p) 1 0) 2 0) 3 o) 2 (brF (M 8) (M 7 1) p 5)) 1 1)) (setR_top _ _ _ _ _) ?_
      refine Go_aload_n (pc := 60) dX3_follow_60 rfl (by decide) rfl ?_
      refine Go_geti (pc := 61) (z := 1) dX3_follow_61 fo_X3_15 (by decide) rfl rfl (show (updI (updI (updI (updI (updI (updI b 0 p) 1 0) 2 0) 3 o) 2 (brF (M 8) (M 7 1) p 5)) 1 1) 1 = 1 from updI_s _ _ _) ?_
      refine Go_if_ne (pc := 64) (tgt := 82) dX3_follow_64 (by decide) (by decide) (fun _ => ?_) (fun q => absurd q (by decide))
      refine Go_aload_n (pc := 82) dX3_follow_82 rfl (by decide) rfl ?_
      refine Go_geti (pc := 83) (z := 1) dX3_follow_83 fo_X3_15 (by decide) rfl rfl (show (updI (updI (updI (updI (updI (updI b 0 p) 1 0) 2 0) 3 o) 2 (brF (M 8) (M 7 1) p 5)) 1 1) 1 = 1 from updI_s _ _ _) ?_
      refine Go_if_eq (pc := 86) (tgt := 90) dX3_follow_86 (by decide) (by decide) (fun q => absurd q (by decide)) (fun _ => ?_)
      first | (exfalso; omega) | exact Go_return (pc := 89) dX3_follow_89 rfl rfl (by congr 1; funext q; unfold row9 updI; (repeat' split) <;> first | rfl | omega)
theorem follow_no_0 {d : Nat} (hd : 9 ≤ d) {p t o : Int} {g b : Int → Int} {x : Option MV} {M : gMem} (hW : Wf g) (h : TxOk (M 8) (M 7 1)) (p0 : 0 ≤ p) (p1 : p < M 7 1) (t1 : 0 ≤ t ∧ t < 60) (hk : kdF (M 8) (M 7 1) p = 0) (hb : brF (M 8) (M 7 1) p 0 = -1) {A : Int × (Int → Int)} (hA : A = odA g 0 (dgV (M 8) (M 7 1) (p + 4 + 1)) (dgV (M 8) (M 7 1) (p + 4 + 3))) (hr : ¬ rsn A.1 = 0) : Go d RX3 cX3_follow 5 none 22 [some (.inr 9), some (.inr 7), some (.inr 3), some (.inl t), x] [] (setR (setR M 4 g) 9 (row9 b p 0 0 o)) none (setR (setR M 4 A.2) 9 (row9 b p (rsn A.1) 0 o)) := by
  have hn := h.1
  have hi := odA_r hW 0 (dgV (M 8) (M 7 1) (p + 4 + 1)) (dgV (M 8) (M 7 1) (p + 4 + 3))
  have h3 : 0 ≤ rsn A.1 ∧ rsn A.1 ≤ 3 := by
    unfold rsn
    (repeat' split) <;> omega
  subst hA
  refine Go_iload_n (pc := 22) dX3_follow_22 rfl rfl ?_
  refine Go_bipush (pc := 23) dX3_follow_23 (by decide) (by decide) ?_
  refine Go_icmp_ge (pc := 25) (tgt := 120) dX3_follow_25 (by decide) (by omega) (by decide) (fun c25 => ?_) (fun c25 => ?_)
  · first | (exfalso; omega) | exact Go_return (pc := 120) dX3_follow_120 rfl rfl (by congr 1; funext q; unfold row9 updI; (repeat' split) <;> first | rfl | omega)
  · refine Go_aload_n (pc := 28) dX3_follow_28 rfl (by decide) rfl ?_
    refine Go_geti (pc := 29) (z := p) dX3_follow_29 fo_X3_9 (by decide) rfl rfl (show (updI (updI (updI (updI b 0 p) 1 0) 2 0) 3 o) 0 = p from (updI_n (by decide)).trans ((updI_n (by decide)).trans ((updI_n (by decide)).trans (updI_s _ _ _)))) ?_
    refine Go_aload_n (pc := 32) dX3_follow_32 rfl (by decide) rfl ?_
    refine Go_invV (pc := 33) (y := yX5_length) (avs := []) (k := 7) (rest := [.inl p]) (x := .inl (M 7 1))  (d' := d - 1) dX3_follow_33 ln_X3_24 mo_X5_length vo_X5_length rfl (rc_7) rfl rfl (Nat.le_of_ble_eq_true rfl) (by omega) (Nat.le_of_ble_eq_true rfl) rfl (s_X5_length (by omega)) ?_
    refine Go_icmp_ge (pc := 36) (tgt := 120) dX3_follow_36 (by decide) (by omega) (by omega) (fun c36 => ?_) (fun c36 => ?_)
    · first | (exfalso; omega) | exact Go_return (pc := 120) dX3_follow_120 rfl rfl (by congr 1; funext q; unfold row9 updI; (repeat' split) <;> first | rfl | omega)
    · refine Go_aload_n (pc := 39) dX3_follow_39 rfl (by decide) rfl ?_
      refine Go_aload_n (pc := 40) dX3_follow_40 rfl (by decide) rfl ?_
      refine Go_geti (pc := 41) (z := p) dX3_follow_41 fo_X3_9 (by decide) rfl rfl (show (updI (updI (updI (updI b 0 p) 1 0) 2 0) 3 o) 0 = p from (updI_n (by decide)).trans ((updI_n (by decide)).trans ((updI_n (by decide)).trans (updI_s _ _ _)))) ?_
      refine Go_invS (pc := 44) (y := yX3_kindAt) (avs := [.inr 7, .inl p]) (rest := []) (x := .inl 0)  (d' := d - 1) dX3_follow_44 ln_X3_30 mo_X3_kindAt so_X3_kindAt rfl rfl rfl (Nat.le_of_ble_eq_true rfl) (by omega) (Nat.le_of_ble_eq_true rfl) rfl (Go_v (congrArg (fun z : Int => (some (.inl z) : Option MV)) hk) rfl (s_X3_kindAt (by omega) h (by first | omega | (simp only [Nat.reduceAdd, setR_s]; omega) | (simp only [setR, Nat.reduceEqDiff, reduceIte]; omega)) (by first | omega | (simp only [Nat.reduceAdd, setR_s]; omega) | (simp only [setR, Nat.reduceEqDiff, reduceIte]; omega)))) ?_
      refine Go_istore (pc := 47) (L' := [some (.inr 9), some (.inr 7), some (.inr 3), some (.inl t), some (.inl 0)]) dX3_follow_47 (by decide) rfl ?_
      refine Go_aload_n (pc := 49) dX3_follow_49 rfl (by decide) rfl ?_
      refine Go_aload_n (pc := 50) dX3_follow_50 rfl (by decide) rfl ?_
      refine Go_aload_n (pc := 51) dX3_follow_51 rfl (by decide) rfl ?_
      refine Go_iload (pc := 52) dX3_follow_52 rfl ?_
      refine Go_invV (pc := 54) (y := yX3_checkForm) (avs := [.inr 7, .inl 0]) (k := 9) (rest := [.inr 9]) (x := .inl 0)  (d' := d - 1) dX3_follow_54 ln_X3_34 mo_X3_checkForm vo_X3_checkForm rfl (rc_9) rfl rfl (Nat.le_of_ble_eq_true rfl) (by omega) (Nat.le_of_ble_eq_true rfl) rfl (s_X3_checkForm_ok_0 (p := p) (by omega) h (by first | omega | (simp only [Nat.reduceAdd, setR_s]; omega) | (simp only [setR, Nat.reduceEqDiff, reduceIte]; omega)) (by first | omega | (simp only [Nat.reduceAdd, setR_s]; omega) | (simp only [setR, Nat.reduceEqDiff, reduceIte]; omega)) (show (updI (updI (updI (updI b 0 p) 1 0) 2 0) 3 o) 0 = p from (updI_n (by decide)).trans ((updI_n (by decide)).trans ((updI_n (by decide)).trans (updI_s _ _ _)))) hb) ?_
      refine Go_puti (pc := 57) dX3_follow_57 fw_X3_15 (by decide) rfl rfl ?_
      refine Go_M (M1 := setR (setR M 4 g) 9 (updI (updI (updI (updI (updI b 0 p) 1 0) 2 0) 3 o) 1 0)) (setR_top _ _ _ _ _) ?_
      refine Go_aload_n (pc := 60) dX3_follow_60 rfl (by decide) rfl ?_
      refine Go_geti (pc := 61) (z := 0) dX3_follow_61 fo_X3_15 (by decide) rfl rfl (show (updI (updI (updI (updI (updI b 0 p) 1 0) 2 0) 3 o) 1 0) 1 = 0 from updI_s _ _ _) ?_
      refine Go_if_ne (pc := 64) (tgt := 82) dX3_follow_64 (by decide) (by decide) (fun q => absurd q (by decide)) (fun _ => ?_)
      refine Go_aload_n (pc := 67) dX3_follow_67 rfl (by decide) rfl ?_
      refine Go_aload_n (pc := 68) dX3_follow_68 rfl (by decide) rfl ?_
      refine Go_aload_n (pc := 69) dX3_follow_69 rfl (by decide) rfl ?_
      refine Go_aload_n (pc := 70) dX3_follow_70 rfl (by decide) rfl ?_
      refine Go_iload (pc := 71) dX3_follow_71 rfl ?_
      refine Go_invV (pc := 73) (y := yX3_doOrder) (avs := [.inr 7, .inr 3, .inl 0]) (k := 9) (rest := [.inr 9]) (x := .inl ((odA g 0 (dgV (M 8) (M 7 1) (p + 4 + 1)) (dgV (M 8) (M 7 1) (p + 4 + 3))).1))  (d' := d - 1) dX3_follow_73 ln_X3_37 mo_X3_doOrder vo_X3_doOrder rfl (rc_9) rfl rfl (Nat.le_of_ble_eq_true rfl) (by omega) (Nat.le_of_ble_eq_true rfl) rfl (s_X3_doOrder_0 (p := p) (by omega) h hW (by first | omega | (simp only [Nat.reduceAdd, setR_s]; omega) | (simp only [setR, Nat.reduceEqDiff, reduceIte]; omega)) (by first | omega | (simp only [Nat.reduceAdd, setR_s]; omega) | (simp only [setR, Nat.reduceEqDiff, reduceIte]; omega)) (show (updI (updI (updI (updI (updI b 0 p) 1 0) 2 0) 3 o) 1 0) 0 = p from (updI_n (by decide)).trans ((updI_n (by decide)).trans ((updI_n (by decide)).trans ((updI_n (by decide)).trans (updI_s _ _ _)))))) ?_
      refine Go_M (M1 := setR (setR M 9 (updI (updI (updI (updI (updI b 0 p) 1 0) 2 0) 3 o) 1 0)) 4 ((odA g 0 (dgV (M 8) (M 7 1) (p + 4 + 1)) (dgV (M 8) (M 7 1) (p + 4 + 3))).2)) (by funext q; simp only [setR]; (repeat' split) <;> first | rfl | omega | simp_all) ?_
      refine Go_invS (pc := 76) (y := yX3_reasonOf) (avs := [.inl ((odA g 0 (dgV (M 8) (M 7 1) (p + 4 + 1)) (dgV (M 8) (M 7 1) (p + 4 + 3))).1)]) (rest := [.inr 9]) (x := .inl (rsn ((odA g 0 (dgV (M 8) (M 7 1) (p + 4 + 1)) (dgV (M 8) (M 7 1) (p + 4 + 3))).1)))  (d' := d - 1) dX3_follow_76 ln_X3_41 mo_X3_reasonOf so_X3_reasonOf rfl rfl rfl (Nat.le_of_ble_eq_true rfl) (by omega) (Nat.le_of_ble_eq_true rfl) rfl (s_X3_reasonOf (by omega) hi) ?_
      refine Go_puti (pc := 79) dX3_follow_79 fw_X3_15 (by decide) rfl rfl ?_
      refine Go_M (M1 := setR (setR M 4 ((odA g 0 (dgV (M 8) (M 7 1) (p + 4 + 1)) (dgV (M 8) (M 7 1) (p + 4 + 3))).2)) 9 (updI (updI (updI (updI (updI (updI b 0 p) 1 0) 2 0) 3 o) 1 0) 1 (rsn ((odA g 0 (dgV (M 8) (M 7 1) (p + 4 + 1)) (dgV (M 8) (M 7 1) (p + 4 + 3))).1)))) (by funext q; simp only [setR]; (repeat' split) <;> first | rfl | omega | simp_all) ?_
      refine Go_aload_n (pc := 82) dX3_follow_82 rfl (by decide) rfl ?_
      refine Go_geti (pc := 83) (z := rsn ((odA g 0 (dgV (M 8) (M 7 1) (p + 4 + 1)) (dgV (M 8) (M 7 1) (p + 4 + 3))).1)) dX3_follow_83 fo_X3_15 (by decide) rfl rfl (show (updI (updI (updI (updI (updI (updI b 0 p) 1 0) 2 0) 3 o) 1 0) 1 (rsn ((odA g 0 (dgV (M 8) (M 7 1) (p + 4 + 1)) (dgV (M 8) (M 7 1) (p + 4 + 3))).1))) 1 = (rsn ((odA g 0 (dgV (M 8) (M 7 1) (p + 4 + 1)) (dgV (M 8) (M 7 1) (p + 4 + 3))).1)) from updI_s _ _ _) ?_
      refine Go_if_eq (pc := 86) (tgt := 90) dX3_follow_86 (by decide) (by omega) (fun c86 => ?_) (fun c86 => ?_)
      · exfalso; omega
      · first | (exfalso; omega) | exact Go_return (pc := 89) dX3_follow_89 rfl rfl (by congr 1; funext q; unfold row9 updI; (repeat' split) <;> first | rfl | omega)
theorem follow_ok_0 {d : Nat} (hd : 9 ≤ d) {p t o : Int} {g b : Int → Int} {x : Option MV} {M M' : gMem} (hW : Wf g) (h : TxOk (M 8) (M 7 1)) (p0 : 0 ≤ p) (p1 : p < M 7 1) (t1 : 0 ≤ t ∧ t < 60) (hk : kdF (M 8) (M 7 1) p = 0) (hb : brF (M 8) (M 7 1) p 0 = -1) {A : Int × (Int → Int)} (hA : A = odA g 0 (dgV (M 8) (M 7 1) (p + 4 + 1)) (dgV (M 8) (M 7 1) (p + 4 + 3))) (hr : rsn A.1 = 0) (kk : ∀ y : Option MV, Go d RX3 cX3_follow 5 none 22 [some (.inr 9), some (.inr 7), some (.inr 3), some (.inl (t + 1)), y] [] (setR (setR M 4 A.2) 9 (row9 b (p + 9) 0 0 (o + 1))) none M') : Go d RX3 cX3_follow 5 none 22 [some (.inr 9), some (.inr 7), some (.inr 3), some (.inl t), x] [] (setR (setR M 4 g) 9 (row9 b p 0 0 o)) none M' := by
  have hn := h.1
  have hi := odA_r hW 0 (dgV (M 8) (M 7 1) (p + 4 + 1)) (dgV (M 8) (M 7 1) (p + 4 + 3))
  subst hA
  refine Go_iload_n (pc := 22) dX3_follow_22 rfl rfl ?_
  refine Go_bipush (pc := 23) dX3_follow_23 (by decide) (by decide) ?_
  refine Go_icmp_ge (pc := 25) (tgt := 120) dX3_follow_25 (by decide) (by omega) (by decide) (fun c25 => ?_) (fun c25 => ?_)
  · exfalso; omega
  · refine Go_aload_n (pc := 28) dX3_follow_28 rfl (by decide) rfl ?_
    refine Go_geti (pc := 29) (z := p) dX3_follow_29 fo_X3_9 (by decide) rfl rfl (show (updI (updI (updI (updI b 0 p) 1 0) 2 0) 3 o) 0 = p from (updI_n (by decide)).trans ((updI_n (by decide)).trans ((updI_n (by decide)).trans (updI_s _ _ _)))) ?_
    refine Go_aload_n (pc := 32) dX3_follow_32 rfl (by decide) rfl ?_
    refine Go_invV (pc := 33) (y := yX5_length) (avs := []) (k := 7) (rest := [.inl p]) (x := .inl (M 7 1))  (d' := d - 1) dX3_follow_33 ln_X3_24 mo_X5_length vo_X5_length rfl (rc_7) rfl rfl (Nat.le_of_ble_eq_true rfl) (by omega) (Nat.le_of_ble_eq_true rfl) rfl (s_X5_length (by omega)) ?_
    refine Go_icmp_ge (pc := 36) (tgt := 120) dX3_follow_36 (by decide) (by omega) (by omega) (fun c36 => ?_) (fun c36 => ?_)
    · exfalso; omega
    · refine Go_aload_n (pc := 39) dX3_follow_39 rfl (by decide) rfl ?_
      refine Go_aload_n (pc := 40) dX3_follow_40 rfl (by decide) rfl ?_
      refine Go_geti (pc := 41) (z := p) dX3_follow_41 fo_X3_9 (by decide) rfl rfl (show (updI (updI (updI (updI b 0 p) 1 0) 2 0) 3 o) 0 = p from (updI_n (by decide)).trans ((updI_n (by decide)).trans ((updI_n (by decide)).trans (updI_s _ _ _)))) ?_
      refine Go_invS (pc := 44) (y := yX3_kindAt) (avs := [.inr 7, .inl p]) (rest := []) (x := .inl 0)  (d' := d - 1) dX3_follow_44 ln_X3_30 mo_X3_kindAt so_X3_kindAt rfl rfl rfl (Nat.le_of_ble_eq_true rfl) (by omega) (Nat.le_of_ble_eq_true rfl) rfl (Go_v (congrArg (fun z : Int => (some (.inl z) : Option MV)) hk) rfl (s_X3_kindAt (by omega) h (by first | omega | (simp only [Nat.reduceAdd, setR_s]; omega) | (simp only [setR, Nat.reduceEqDiff, reduceIte]; omega)) (by first | omega | (simp only [Nat.reduceAdd, setR_s]; omega) | (simp only [setR, Nat.reduceEqDiff, reduceIte]; omega)))) ?_
      refine Go_istore (pc := 47) (L' := [some (.inr 9), some (.inr 7), some (.inr 3), some (.inl t), some (.inl 0)]) dX3_follow_47 (by decide) rfl ?_
      refine Go_aload_n (pc := 49) dX3_follow_49 rfl (by decide) rfl ?_
      refine Go_aload_n (pc := 50) dX3_follow_50 rfl (by decide) rfl ?_
      refine Go_aload_n (pc := 51) dX3_follow_51 rfl (by decide) rfl ?_
      refine Go_iload (pc := 52) dX3_follow_52 rfl ?_
      refine Go_invV (pc := 54) (y := yX3_checkForm) (avs := [.inr 7, .inl 0]) (k := 9) (rest := [.inr 9]) (x := .inl 0)  (d' := d - 1) dX3_follow_54 ln_X3_34 mo_X3_checkForm vo_X3_checkForm rfl (rc_9) rfl rfl (Nat.le_of_ble_eq_true rfl) (by omega) (Nat.le_of_ble_eq_true rfl) rfl (s_X3_checkForm_ok_0 (p := p) (by omega) h (by first | omega | (simp only [Nat.reduceAdd, setR_s]; omega) | (simp only [setR, Nat.reduceEqDiff, reduceIte]; omega)) (by first | omega | (simp only [Nat.reduceAdd, setR_s]; omega) | (simp only [setR, Nat.reduceEqDiff, reduceIte]; omega)) (show (updI (updI (updI (updI b 0 p) 1 0) 2 0) 3 o) 0 = p from (updI_n (by decide)).trans ((updI_n (by decide)).trans ((updI_n (by decide)).trans (updI_s _ _ _)))) hb) ?_
      refine Go_puti (pc := 57) dX3_follow_57 fw_X3_15 (by decide) rfl rfl ?_
      refine Go_M (M1 := setR (setR M 4 g) 9 (updI (updI (updI (updI (updI b 0 p) 1 0) 2 0) 3 o) 1 0)) (setR_top _ _ _ _ _) ?_
      refine Go_aload_n (pc := 60) dX3_follow_60 rfl (by decide) rfl ?_
      refine Go_geti (pc := 61) (z := 0) dX3_follow_61 fo_X3_15 (by decide) rfl rfl (show (updI (updI (updI (updI (updI b 0 p) 1 0) 2 0) 3 o) 1 0) 1 = 0 from updI_s _ _ _) ?_
      refine Go_if_ne (pc := 64) (tgt := 82) dX3_follow_64 (by decide) (by decide) (fun q => absurd q (by decide)) (fun _ => ?_)
      refine Go_aload_n (pc := 67) dX3_follow_67 rfl (by decide) rfl ?_
      refine Go_aload_n (pc := 68) dX3_follow_68 rfl (by decide) rfl ?_
      refine Go_aload_n (pc := 69) dX3_follow_69 rfl (by decide) rfl ?_
      refine Go_aload_n (pc := 70) dX3_follow_70 rfl (by decide) rfl ?_
      refine Go_iload (pc := 71) dX3_follow_71 rfl ?_
      refine Go_invV (pc := 73) (y := yX3_doOrder) (avs := [.inr 7, .inr 3, .inl 0]) (k := 9) (rest := [.inr 9]) (x := .inl ((odA g 0 (dgV (M 8) (M 7 1) (p + 4 + 1)) (dgV (M 8) (M 7 1) (p + 4 + 3))).1))  (d' := d - 1) dX3_follow_73 ln_X3_37 mo_X3_doOrder vo_X3_doOrder rfl (rc_9) rfl rfl (Nat.le_of_ble_eq_true rfl) (by omega) (Nat.le_of_ble_eq_true rfl) rfl (s_X3_doOrder_0 (p := p) (by omega) h hW (by first | omega | (simp only [Nat.reduceAdd, setR_s]; omega) | (simp only [setR, Nat.reduceEqDiff, reduceIte]; omega)) (by first | omega | (simp only [Nat.reduceAdd, setR_s]; omega) | (simp only [setR, Nat.reduceEqDiff, reduceIte]; omega)) (show (updI (updI (updI (updI (updI b 0 p) 1 0) 2 0) 3 o) 1 0) 0 = p from (updI_n (by decide)).trans ((updI_n (by decide)).trans ((updI_n (by decide)).trans ((updI_n (by decide)).trans (updI_s _ _ _)))))) ?_
      refine Go_M (M1 := setR (setR M 9 (updI (updI (updI (updI (updI b 0 p) 1 0) 2 0) 3 o) 1 0)) 4 ((odA g 0 (dgV (M 8) (M 7 1) (p + 4 + 1)) (dgV (M 8) (M 7 1) (p + 4 + 3))).2)) (by funext q; simp only [setR]; (repeat' split) <;> first | rfl | omega | simp_all) ?_
      refine Go_invS (pc := 76) (y := yX3_reasonOf) (avs := [.inl ((odA g 0 (dgV (M 8) (M 7 1) (p + 4 + 1)) (dgV (M 8) (M 7 1) (p + 4 + 3))).1)]) (rest := [.inr 9]) (x := .inl 0)  (d' := d - 1) dX3_follow_76 ln_X3_41 mo_X3_reasonOf so_X3_reasonOf rfl rfl rfl (Nat.le_of_ble_eq_true rfl) (by omega) (Nat.le_of_ble_eq_true rfl) rfl (Go_v (congrArg (fun z : Int => (some (.inl z) : Option MV)) hr) rfl (s_X3_reasonOf (by omega) hi)) ?_
      refine Go_puti (pc := 79) dX3_follow_79 fw_X3_15 (by decide) rfl rfl ?_
      refine Go_M (M1 := setR (setR M 4 ((odA g 0 (dgV (M 8) (M 7 1) (p + 4 + 1)) (dgV (M 8) (M 7 1) (p + 4 + 3))).2)) 9 (updI (updI (updI (updI (updI (updI b 0 p) 1 0) 2 0) 3 o) 1 0) 1 0)) (by funext q; simp only [setR]; (repeat' split) <;> first | rfl | omega | simp_all) ?_
      refine Go_aload_n (pc := 82) dX3_follow_82 rfl (by decide) rfl ?_
      refine Go_geti (pc := 83) (z := 0) dX3_follow_83 fo_X3_15 (by decide) rfl rfl (show (updI (updI (updI (updI (updI (updI b 0 p) 1 0) 2 0) 3 o) 1 0) 1 0) 1 = 0 from updI_s _ _ _) ?_
      refine Go_if_eq (pc := 86) (tgt := 90) dX3_follow_86 (by decide) (by decide) (fun _ => ?_) (fun q => absurd q (by decide))
      refine Go_aload_n (pc := 90) dX3_follow_90 rfl (by decide) rfl ?_
      refine Go_dup (pc := 91) dX3_follow_91 ?_
      refine Go_geti (pc := 92) (z := p) dX3_follow_92 fo_X3_9 (by decide) rfl rfl (show (updI (updI (updI (updI (updI (updI b 0 p) 1 0) 2 0) 3 o) 1 0) 1 0) 0 = p from (updI_n (by decide)).trans ((updI_n (by decide)).trans ((updI_n (by decide)).trans ((updI_n (by decide)).trans ((updI_n (by decide)).trans (updI_s _ _ _)))))) ?_
      refine Go_iload (pc := 95) dX3_follow_95 rfl ?_
      refine Go_invS (pc := 97) (y := yX3_orderLength) (avs := [.inl 0]) (rest := [.inl p, .inr 9]) (x := .inl 9)  (d' := d - 1) dX3_follow_97 ln_X3_45 mo_X3_orderLength so_X3_orderLength rfl rfl rfl (Nat.le_of_ble_eq_true rfl) (by omega) (Nat.le_of_ble_eq_true rfl) rfl (s_X3_orderLength_0 (by omega)) ?_
      refine Go_iadd (pc := 100) dX3_follow_100 ?_
      refine Go_puti (pc := 101) dX3_follow_101 fw_X3_9 (by decide) rfl rfl ?_
      refine Go_M (M1 := setR (setR M 4 ((odA g 0 (dgV (M 8) (M 7 1) (p + 4 + 1)) (dgV (M 8) (M 7 1) (p + 4 + 3))).2)) 9 (updI (updI (updI (updI (updI (updI (updI b 0 p) 1 0) 2 0) 3 o) 1 0) 1 0) 0 (p + 9))) (setR_top _ _ _ _ _) ?_
      refine Go_aload_n (pc := 104) dX3_follow_104 rfl (by decide) rfl ?_
      refine Go_dup (pc := 105) dX3_follow_105 ?_
      refine Go_geti (pc := 106) (z := o) dX3_follow_106 fo_X3_21 (by decide) rfl rfl (show (updI (updI (updI (updI (updI (updI (updI b 0 p) 1 0) 2 0) 3 o) 1 0) 1 0) 0 (p + 9)) 3 = o from (updI_n (by decide)).trans ((updI_n (by decide)).trans ((updI_n (by decide)).trans (updI_s _ _ _)))) ?_
      refine Go_iconst (pc := 109) dX3_follow_109 ?_
      refine Go_iadd (pc := 110) dX3_follow_110 ?_
      refine Go_puti (pc := 111) dX3_follow_111 fw_X3_21 (by decide) rfl rfl ?_
      refine Go_M (M1 := setR (setR M 4 ((odA g 0 (dgV (M 8) (M 7 1) (p + 4 + 1)) (dgV (M 8) (M 7 1) (p + 4 + 3))).2)) 9 (updI (updI (updI (updI (updI (updI (updI (updI b 0 p) 1 0) 2 0) 3 o) 1 0) 1 0) 0 (p + 9)) 3 (o + 1))) (setR_top _ _ _ _ _) ?_
      refine Go_iinc (pc := 114) (L' := [some (.inr 9), some (.inr 7), some (.inr 3), some (.inl (t + 1)), some (.inl 0)]) dX3_follow_114 rfl (by decide) rfl ?_
      refine Go_goto (pc := 117) (tgt := 22) dX3_follow_117 (by decide) ?_
      exact Go_M (by congr 1; funext q; unfold row9 updI; (repeat' split) <;> first | rfl | omega) (kk _)
theorem follow_no_1 {d : Nat} (hd : 9 ≤ d) {p t o : Int} {g b : Int → Int} {x : Option MV} {M : gMem} (hW : Wf g) (h : TxOk (M 8) (M 7 1)) (p0 : 0 ≤ p) (p1 : p < M 7 1) (t1 : 0 ≤ t ∧ t < 60) (hk : kdF (M 8) (M 7 1) p = 1) (hb : brF (M 8) (M 7 1) p 1 = -1) {A : Int × (Int → Int)} (hA : A = odA g 1 (dgV (M 8) (M 7 1) (p + 4 + 1)) (dgV (M 8) (M 7 1) (p + 4 + 3))) (hr : ¬ rsn A.1 = 0) : Go d RX3 cX3_follow 5 none 22 [some (.inr 9), some (.inr 7), some (.inr 3), some (.inl t), x] [] (setR (setR M 4 g) 9 (row9 b p 0 0 o)) none (setR (setR M 4 A.2) 9 (row9 b p (rsn A.1) 0 o)) := by
  have hn := h.1
  have hi := odA_r hW 1 (dgV (M 8) (M 7 1) (p + 4 + 1)) (dgV (M 8) (M 7 1) (p + 4 + 3))
  have h3 : 0 ≤ rsn A.1 ∧ rsn A.1 ≤ 3 := by
    unfold rsn
    (repeat' split) <;> omega
  subst hA
  refine Go_iload_n (pc := 22) dX3_follow_22 rfl rfl ?_
  refine Go_bipush (pc := 23) dX3_follow_23 (by decide) (by decide) ?_
  refine Go_icmp_ge (pc := 25) (tgt := 120) dX3_follow_25 (by decide) (by omega) (by decide) (fun c25 => ?_) (fun c25 => ?_)
  · first | (exfalso; omega) | exact Go_return (pc := 120) dX3_follow_120 rfl rfl (by congr 1; funext q; unfold row9 updI; (repeat' split) <;> first | rfl | omega)
  · refine Go_aload_n (pc := 28) dX3_follow_28 rfl (by decide) rfl ?_
    refine Go_geti (pc := 29) (z := p) dX3_follow_29 fo_X3_9 (by decide) rfl rfl (show (updI (updI (updI (updI b 0 p) 1 0) 2 0) 3 o) 0 = p from (updI_n (by decide)).trans ((updI_n (by decide)).trans ((updI_n (by decide)).trans (updI_s _ _ _)))) ?_
    refine Go_aload_n (pc := 32) dX3_follow_32 rfl (by decide) rfl ?_
    refine Go_invV (pc := 33) (y := yX5_length) (avs := []) (k := 7) (rest := [.inl p]) (x := .inl (M 7 1))  (d' := d - 1) dX3_follow_33 ln_X3_24 mo_X5_length vo_X5_length rfl (rc_7) rfl rfl (Nat.le_of_ble_eq_true rfl) (by omega) (Nat.le_of_ble_eq_true rfl) rfl (s_X5_length (by omega)) ?_
    refine Go_icmp_ge (pc := 36) (tgt := 120) dX3_follow_36 (by decide) (by omega) (by omega) (fun c36 => ?_) (fun c36 => ?_)
    · first | (exfalso; omega) | exact Go_return (pc := 120) dX3_follow_120 rfl rfl (by congr 1; funext q; unfold row9 updI; (repeat' split) <;> first | rfl | omega)
    · refine Go_aload_n (pc := 39) dX3_follow_39 rfl (by decide) rfl ?_
      refine Go_aload_n (pc := 40) dX3_follow_40 rfl (by decide) rfl ?_
      refine Go_geti (pc := 41) (z := p) dX3_follow_41 fo_X3_9 (by decide) rfl rfl (show (updI (updI (updI (updI b 0 p) 1 0) 2 0) 3 o) 0 = p from (updI_n (by decide)).trans ((updI_n (by decide)).trans ((updI_n (by decide)).trans (updI_s _ _ _)))) ?_
      refine Go_invS (pc := 44) (y := yX3_kindAt) (avs := [.inr 7, .inl p]) (rest := []) (x := .inl 1)  (d' := d - 1) dX3_follow_44 ln_X3_30 mo_X3_kindAt so_X3_kindAt rfl rfl rfl (Nat.le_of_ble_eq_true rfl) (by omega) (Nat.le_of_ble_eq_true rfl) rfl (Go_v (congrArg (fun z : Int => (some (.inl z) : Option MV)) hk) rfl (s_X3_kindAt (by omega) h (by first | omega | (simp only [Nat.reduceAdd, setR_s]; omega) | (simp only [setR, Nat.reduceEqDiff, reduceIte]; omega)) (by first | omega | (simp only [Nat.reduceAdd, setR_s]; omega) | (simp only [setR, Nat.reduceEqDiff, reduceIte]; omega)))) ?_
      refine Go_istore (pc := 47) (L' := [some (.inr 9), some (.inr 7), some (.inr 3), some (.inl t), some (.inl 1)]) dX3_follow_47 (by decide) rfl ?_
      refine Go_aload_n (pc := 49) dX3_follow_49 rfl (by decide) rfl ?_
      refine Go_aload_n (pc := 50) dX3_follow_50 rfl (by decide) rfl ?_
      refine Go_aload_n (pc := 51) dX3_follow_51 rfl (by decide) rfl ?_
      refine Go_iload (pc := 52) dX3_follow_52 rfl ?_
      refine Go_invV (pc := 54) (y := yX3_checkForm) (avs := [.inr 7, .inl 1]) (k := 9) (rest := [.inr 9]) (x := .inl 0)  (d' := d - 1) dX3_follow_54 ln_X3_34 mo_X3_checkForm vo_X3_checkForm rfl (rc_9) rfl rfl (Nat.le_of_ble_eq_true rfl) (by omega) (Nat.le_of_ble_eq_true rfl) rfl (s_X3_checkForm_ok_1 (p := p) (by omega) h (by first | omega | (simp only [Nat.reduceAdd, setR_s]; omega) | (simp only [setR, Nat.reduceEqDiff, reduceIte]; omega)) (by first | omega | (simp only [Nat.reduceAdd, setR_s]; omega) | (simp only [setR, Nat.reduceEqDiff, reduceIte]; omega)) (show (updI (updI (updI (updI b 0 p) 1 0) 2 0) 3 o) 0 = p from (updI_n (by decide)).trans ((updI_n (by decide)).trans ((updI_n (by decide)).trans (updI_s _ _ _)))) hb) ?_
      refine Go_puti (pc := 57) dX3_follow_57 fw_X3_15 (by decide) rfl rfl ?_
      refine Go_M (M1 := setR (setR M 4 g) 9 (updI (updI (updI (updI (updI b 0 p) 1 0) 2 0) 3 o) 1 0)) (setR_top _ _ _ _ _) ?_
      refine Go_aload_n (pc := 60) dX3_follow_60 rfl (by decide) rfl ?_
      refine Go_geti (pc := 61) (z := 0) dX3_follow_61 fo_X3_15 (by decide) rfl rfl (show (updI (updI (updI (updI (updI b 0 p) 1 0) 2 0) 3 o) 1 0) 1 = 0 from updI_s _ _ _) ?_
      refine Go_if_ne (pc := 64) (tgt := 82) dX3_follow_64 (by decide) (by decide) (fun q => absurd q (by decide)) (fun _ => ?_)
      refine Go_aload_n (pc := 67) dX3_follow_67 rfl (by decide) rfl ?_
      refine Go_aload_n (pc := 68) dX3_follow_68 rfl (by decide) rfl ?_
      refine Go_aload_n (pc := 69) dX3_follow_69 rfl (by decide) rfl ?_
      refine Go_aload_n (pc := 70) dX3_follow_70 rfl (by decide) rfl ?_
      refine Go_iload (pc := 71) dX3_follow_71 rfl ?_
      refine Go_invV (pc := 73) (y := yX3_doOrder) (avs := [.inr 7, .inr 3, .inl 1]) (k := 9) (rest := [.inr 9]) (x := .inl ((odA g 1 (dgV (M 8) (M 7 1) (p + 4 + 1)) (dgV (M 8) (M 7 1) (p + 4 + 3))).1))  (d' := d - 1) dX3_follow_73 ln_X3_37 mo_X3_doOrder vo_X3_doOrder rfl (rc_9) rfl rfl (Nat.le_of_ble_eq_true rfl) (by omega) (Nat.le_of_ble_eq_true rfl) rfl (s_X3_doOrder_1 (p := p) (by omega) h hW (by first | omega | (simp only [Nat.reduceAdd, setR_s]; omega) | (simp only [setR, Nat.reduceEqDiff, reduceIte]; omega)) (by first | omega | (simp only [Nat.reduceAdd, setR_s]; omega) | (simp only [setR, Nat.reduceEqDiff, reduceIte]; omega)) (show (updI (updI (updI (updI (updI b 0 p) 1 0) 2 0) 3 o) 1 0) 0 = p from (updI_n (by decide)).trans ((updI_n (by decide)).trans ((updI_n (by decide)).trans ((updI_n (by decide)).trans (updI_s _ _ _)))))) ?_
      refine Go_M (M1 := setR (setR M 9 (updI (updI (updI (updI (updI b 0 p) 1 0) 2 0) 3 o) 1 0)) 4 ((odA g 1 (dgV (M 8) (M 7 1) (p + 4 + 1)) (dgV (M 8) (M 7 1) (p + 4 + 3))).2)) (by funext q; simp only [setR]; (repeat' split) <;> first | rfl | omega | simp_all) ?_
      refine Go_invS (pc := 76) (y := yX3_reasonOf) (avs := [.inl ((odA g 1 (dgV (M 8) (M 7 1) (p + 4 + 1)) (dgV (M 8) (M 7 1) (p + 4 + 3))).1)]) (rest := [.inr 9]) (x := .inl (rsn ((odA g 1 (dgV (M 8) (M 7 1) (p + 4 + 1)) (dgV (M 8) (M 7 1) (p + 4 + 3))).1)))  (d' := d - 1) dX3_follow_76 ln_X3_41 mo_X3_reasonOf so_X3_reasonOf rfl rfl rfl (Nat.le_of_ble_eq_true rfl) (by omega) (Nat.le_of_ble_eq_true rfl) rfl (s_X3_reasonOf (by omega) hi) ?_
      refine Go_puti (pc := 79) dX3_follow_79 fw_X3_15 (by decide) rfl rfl ?_
      refine Go_M (M1 := setR (setR M 4 ((odA g 1 (dgV (M 8) (M 7 1) (p + 4 + 1)) (dgV (M 8) (M 7 1) (p + 4 + 3))).2)) 9 (updI (updI (updI (updI (updI (updI b 0 p) 1 0) 2 0) 3 o) 1 0) 1 (rsn ((odA g 1 (dgV (M 8) (M 7 1) (p + 4 + 1)) (dgV (M 8) (M 7 1) (p + 4 + 3))).1)))) (by funext q; simp only [setR]; (repeat' split) <;> first | rfl | omega | simp_all) ?_
      refine Go_aload_n (pc := 82) dX3_follow_82 rfl (by decide) rfl ?_
      refine Go_geti (pc := 83) (z := rsn ((odA g 1 (dgV (M 8) (M 7 1) (p + 4 + 1)) (dgV (M 8) (M 7 1) (p + 4 + 3))).1)) dX3_follow_83 fo_X3_15 (by decide) rfl rfl (show (updI (updI (updI (updI (updI (updI b 0 p) 1 0) 2 0) 3 o) 1 0) 1 (rsn ((odA g 1 (dgV (M 8) (M 7 1) (p + 4 + 1)) (dgV (M 8) (M 7 1) (p + 4 + 3))).1))) 1 = (rsn ((odA g 1 (dgV (M 8) (M 7 1) (p + 4 + 1)) (dgV (M 8) (M 7 1) (p + 4 + 3))).1)) from updI_s _ _ _) ?_
      refine Go_if_eq (pc := 86) (tgt := 90) dX3_follow_86 (by decide) (by omega) (fun c86 => ?_) (fun c86 => ?_)
      · exfalso; omega
      · first | (exfalso; omega) | exact Go_return (pc := 89) dX3_follow_89 rfl rfl (by congr 1; funext q; unfold row9 updI; (repeat' split) <;> first | rfl | omega)
theorem follow_ok_1 {d : Nat} (hd : 9 ≤ d) {p t o : Int} {g b : Int → Int} {x : Option MV} {M M' : gMem} (hW : Wf g) (h : TxOk (M 8) (M 7 1)) (p0 : 0 ≤ p) (p1 : p < M 7 1) (t1 : 0 ≤ t ∧ t < 60) (hk : kdF (M 8) (M 7 1) p = 1) (hb : brF (M 8) (M 7 1) p 1 = -1) {A : Int × (Int → Int)} (hA : A = odA g 1 (dgV (M 8) (M 7 1) (p + 4 + 1)) (dgV (M 8) (M 7 1) (p + 4 + 3))) (hr : rsn A.1 = 0) (kk : ∀ y : Option MV, Go d RX3 cX3_follow 5 none 22 [some (.inr 9), some (.inr 7), some (.inr 3), some (.inl (t + 1)), y] [] (setR (setR M 4 A.2) 9 (row9 b (p + 9) 0 0 (o + 1))) none M') : Go d RX3 cX3_follow 5 none 22 [some (.inr 9), some (.inr 7), some (.inr 3), some (.inl t), x] [] (setR (setR M 4 g) 9 (row9 b p 0 0 o)) none M' := by
  have hn := h.1
  have hi := odA_r hW 1 (dgV (M 8) (M 7 1) (p + 4 + 1)) (dgV (M 8) (M 7 1) (p + 4 + 3))
  subst hA
  refine Go_iload_n (pc := 22) dX3_follow_22 rfl rfl ?_
  refine Go_bipush (pc := 23) dX3_follow_23 (by decide) (by decide) ?_
  refine Go_icmp_ge (pc := 25) (tgt := 120) dX3_follow_25 (by decide) (by omega) (by decide) (fun c25 => ?_) (fun c25 => ?_)
  · exfalso; omega
  · refine Go_aload_n (pc := 28) dX3_follow_28 rfl (by decide) rfl ?_
    refine Go_geti (pc := 29) (z := p) dX3_follow_29 fo_X3_9 (by decide) rfl rfl (show (updI (updI (updI (updI b 0 p) 1 0) 2 0) 3 o) 0 = p from (updI_n (by decide)).trans ((updI_n (by decide)).trans ((updI_n (by decide)).trans (updI_s _ _ _)))) ?_
    refine Go_aload_n (pc := 32) dX3_follow_32 rfl (by decide) rfl ?_
    refine Go_invV (pc := 33) (y := yX5_length) (avs := []) (k := 7) (rest := [.inl p]) (x := .inl (M 7 1))  (d' := d - 1) dX3_follow_33 ln_X3_24 mo_X5_length vo_X5_length rfl (rc_7) rfl rfl (Nat.le_of_ble_eq_true rfl) (by omega) (Nat.le_of_ble_eq_true rfl) rfl (s_X5_length (by omega)) ?_
    refine Go_icmp_ge (pc := 36) (tgt := 120) dX3_follow_36 (by decide) (by omega) (by omega) (fun c36 => ?_) (fun c36 => ?_)
    · exfalso; omega
    · refine Go_aload_n (pc := 39) dX3_follow_39 rfl (by decide) rfl ?_
      refine Go_aload_n (pc := 40) dX3_follow_40 rfl (by decide) rfl ?_
      refine Go_geti (pc := 41) (z := p) dX3_follow_41 fo_X3_9 (by decide) rfl rfl (show (updI (updI (updI (updI b 0 p) 1 0) 2 0) 3 o) 0 = p from (updI_n (by decide)).trans ((updI_n (by decide)).trans ((updI_n (by decide)).trans (updI_s _ _ _)))) ?_
      refine Go_invS (pc := 44) (y := yX3_kindAt) (avs := [.inr 7, .inl p]) (rest := []) (x := .inl 1)  (d' := d - 1) dX3_follow_44 ln_X3_30 mo_X3_kindAt so_X3_kindAt rfl rfl rfl (Nat.le_of_ble_eq_true rfl) (by omega) (Nat.le_of_ble_eq_true rfl) rfl (Go_v (congrArg (fun z : Int => (some (.inl z) : Option MV)) hk) rfl (s_X3_kindAt (by omega) h (by first | omega | (simp only [Nat.reduceAdd, setR_s]; omega) | (simp only [setR, Nat.reduceEqDiff, reduceIte]; omega)) (by first | omega | (simp only [Nat.reduceAdd, setR_s]; omega) | (simp only [setR, Nat.reduceEqDiff, reduceIte]; omega)))) ?_
      refine Go_istore (pc := 47) (L' := [some (.inr 9), some (.inr 7), some (.inr 3), some (.inl t), some (.inl 1)]) dX3_follow_47 (by decide) rfl ?_
      refine Go_aload_n (pc := 49) dX3_follow_49 rfl (by decide) rfl ?_
      refine Go_aload_n (pc := 50) dX3_follow_50 rfl (by decide) rfl ?_
      refine Go_aload_n (pc := 51) dX3_follow_51 rfl (by decide) rfl ?_
      refine Go_iload (pc := 52) dX3_follow_52 rfl ?_
      refine Go_invV (pc := 54) (y := yX3_checkForm) (avs := [.inr 7, .inl 1]) (k := 9) (rest := [.inr 9]) (x := .inl 0)  (d' := d - 1) dX3_follow_54 ln_X3_34 mo_X3_checkForm vo_X3_checkForm rfl (rc_9) rfl rfl (Nat.le_of_ble_eq_true rfl) (by omega) (Nat.le_of_ble_eq_true rfl) rfl (s_X3_checkForm_ok_1 (p := p) (by omega) h (by first | omega | (simp only [Nat.reduceAdd, setR_s]; omega) | (simp only [setR, Nat.reduceEqDiff, reduceIte]; omega)) (by first | omega | (simp only [Nat.reduceAdd, setR_s]; omega) | (simp only [setR, Nat.reduceEqDiff, reduceIte]; omega)) (show (updI (updI (updI (updI b 0 p) 1 0) 2 0) 3 o) 0 = p from (updI_n (by decide)).trans ((updI_n (by decide)).trans ((updI_n (by decide)).trans (updI_s _ _ _)))) hb) ?_
      refine Go_puti (pc := 57) dX3_follow_57 fw_X3_15 (by decide) rfl rfl ?_
      refine Go_M (M1 := setR (setR M 4 g) 9 (updI (updI (updI (updI (updI b 0 p) 1 0) 2 0) 3 o) 1 0)) (setR_top _ _ _ _ _) ?_
      refine Go_aload_n (pc := 60) dX3_follow_60 rfl (by decide) rfl ?_
      refine Go_geti (pc := 61) (z := 0) dX3_follow_61 fo_X3_15 (by decide) rfl rfl (show (updI (updI (updI (updI (updI b 0 p) 1 0) 2 0) 3 o) 1 0) 1 = 0 from updI_s _ _ _) ?_
      refine Go_if_ne (pc := 64) (tgt := 82) dX3_follow_64 (by decide) (by decide) (fun q => absurd q (by decide)) (fun _ => ?_)
      refine Go_aload_n (pc := 67) dX3_follow_67 rfl (by decide) rfl ?_
      refine Go_aload_n (pc := 68) dX3_follow_68 rfl (by decide) rfl ?_
      refine Go_aload_n (pc := 69) dX3_follow_69 rfl (by decide) rfl ?_
      refine Go_aload_n (pc := 70) dX3_follow_70 rfl (by decide) rfl ?_
      refine Go_iload (pc := 71) dX3_follow_71 rfl ?_
      refine Go_invV (pc := 73) (y := yX3_doOrder) (avs := [.inr 7, .inr 3, .inl 1]) (k := 9) (rest := [.inr 9]) (x := .inl ((odA g 1 (dgV (M 8) (M 7 1) (p + 4 + 1)) (dgV (M 8) (M 7 1) (p + 4 + 3))).1))  (d' := d - 1) dX3_follow_73 ln_X3_37 mo_X3_doOrder vo_X3_doOrder rfl (rc_9) rfl rfl (Nat.le_of_ble_eq_true rfl) (by omega) (Nat.le_of_ble_eq_true rfl) rfl (s_X3_doOrder_1 (p := p) (by omega) h hW (by first | omega | (simp only [Nat.reduceAdd, setR_s]; omega) | (simp only [setR, Nat.reduceEqDiff, reduceIte]; omega)) (by first | omega | (simp only [Nat.reduceAdd, setR_s]; omega) | (simp only [setR, Nat.reduceEqDiff, reduceIte]; omega)) (show (updI (updI (updI (updI (updI b 0 p) 1 0) 2 0) 3 o) 1 0) 0 = p from (updI_n (by decide)).trans ((updI_n (by decide)).trans ((updI_n (by decide)).trans ((updI_n (by decide)).trans (updI_s _ _ _)))))) ?_
      refine Go_M (M1 := setR (setR M 9 (updI (updI (updI (updI (updI b 0 p) 1 0) 2 0) 3 o) 1 0)) 4 ((odA g 1 (dgV (M 8) (M 7 1) (p + 4 + 1)) (dgV (M 8) (M 7 1) (p + 4 + 3))).2)) (by funext q; simp only [setR]; (repeat' split) <;> first | rfl | omega | simp_all) ?_
      refine Go_invS (pc := 76) (y := yX3_reasonOf) (avs := [.inl ((odA g 1 (dgV (M 8) (M 7 1) (p + 4 + 1)) (dgV (M 8) (M 7 1) (p + 4 + 3))).1)]) (rest := [.inr 9]) (x := .inl 0)  (d' := d - 1) dX3_follow_76 ln_X3_41 mo_X3_reasonOf so_X3_reasonOf rfl rfl rfl (Nat.le_of_ble_eq_true rfl) (by omega) (Nat.le_of_ble_eq_true rfl) rfl (Go_v (congrArg (fun z : Int => (some (.inl z) : Option MV)) hr) rfl (s_X3_reasonOf (by omega) hi)) ?_
      refine Go_puti (pc := 79) dX3_follow_79 fw_X3_15 (by decide) rfl rfl ?_
      refine Go_M (M1 := setR (setR M 4 ((odA g 1 (dgV (M 8) (M 7 1) (p + 4 + 1)) (dgV (M 8) (M 7 1) (p + 4 + 3))).2)) 9 (updI (updI (updI (updI (updI (updI b 0 p) 1 0) 2 0) 3 o) 1 0) 1 0)) (by funext q; simp only [setR]; (repeat' split) <;> first | rfl | omega | simp_all) ?_
      refine Go_aload_n (pc := 82) dX3_follow_82 rfl (by decide) rfl ?_
      refine Go_geti (pc := 83) (z := 0) dX3_follow_83 fo_X3_15 (by decide) rfl rfl (show (updI (updI (updI (updI (updI (updI b 0 p) 1 0) 2 0) 3 o) 1 0) 1 0) 1 = 0 from updI_s _ _ _) ?_
      refine Go_if_eq (pc := 86) (tgt := 90) dX3_follow_86 (by decide) (by decide) (fun _ => ?_) (fun q => absurd q (by decide))
      refine Go_aload_n (pc := 90) dX3_follow_90 rfl (by decide) rfl ?_
      refine Go_dup (pc := 91) dX3_follow_91 ?_
      refine Go_geti (pc := 92) (z := p) dX3_follow_92 fo_X3_9 (by decide) rfl rfl (show (updI (updI (updI (updI (updI (updI b 0 p) 1 0) 2 0) 3 o) 1 0) 1 0) 0 = p from (updI_n (by decide)).trans ((updI_n (by decide)).trans ((updI_n (by decide)).trans ((updI_n (by decide)).trans ((updI_n (by decide)).trans (updI_s _ _ _)))))) ?_
      refine Go_iload (pc := 95) dX3_follow_95 rfl ?_
      refine Go_invS (pc := 97) (y := yX3_orderLength) (avs := [.inl 1]) (rest := [.inl p, .inr 9]) (x := .inl 9)  (d' := d - 1) dX3_follow_97 ln_X3_45 mo_X3_orderLength so_X3_orderLength rfl rfl rfl (Nat.le_of_ble_eq_true rfl) (by omega) (Nat.le_of_ble_eq_true rfl) rfl (s_X3_orderLength_1 (by omega)) ?_
      refine Go_iadd (pc := 100) dX3_follow_100 ?_
      refine Go_puti (pc := 101) dX3_follow_101 fw_X3_9 (by decide) rfl rfl ?_
      refine Go_M (M1 := setR (setR M 4 ((odA g 1 (dgV (M 8) (M 7 1) (p + 4 + 1)) (dgV (M 8) (M 7 1) (p + 4 + 3))).2)) 9 (updI (updI (updI (updI (updI (updI (updI b 0 p) 1 0) 2 0) 3 o) 1 0) 1 0) 0 (p + 9))) (setR_top _ _ _ _ _) ?_
      refine Go_aload_n (pc := 104) dX3_follow_104 rfl (by decide) rfl ?_
      refine Go_dup (pc := 105) dX3_follow_105 ?_
      refine Go_geti (pc := 106) (z := o) dX3_follow_106 fo_X3_21 (by decide) rfl rfl (show (updI (updI (updI (updI (updI (updI (updI b 0 p) 1 0) 2 0) 3 o) 1 0) 1 0) 0 (p + 9)) 3 = o from (updI_n (by decide)).trans ((updI_n (by decide)).trans ((updI_n (by decide)).trans (updI_s _ _ _)))) ?_
      refine Go_iconst (pc := 109) dX3_follow_109 ?_
      refine Go_iadd (pc := 110) dX3_follow_110 ?_
      refine Go_puti (pc := 111) dX3_follow_111 fw_X3_21 (by decide) rfl rfl ?_
      refine Go_M (M1 := setR (setR M 4 ((odA g 1 (dgV (M 8) (M 7 1) (p + 4 + 1)) (dgV (M 8) (M 7 1) (p + 4 + 3))).2)) 9 (updI (updI (updI (updI (updI (updI (updI (updI b 0 p) 1 0) 2 0) 3 o) 1 0) 1 0) 0 (p + 9)) 3 (o + 1))) (setR_top _ _ _ _ _) ?_
      refine Go_iinc (pc := 114) (L' := [some (.inr 9), some (.inr 7), some (.inr 3), some (.inl (t + 1)), some (.inl 1)]) dX3_follow_114 rfl (by decide) rfl ?_
      refine Go_goto (pc := 117) (tgt := 22) dX3_follow_117 (by decide) ?_
      exact Go_M (by congr 1; funext q; unfold row9 updI; (repeat' split) <;> first | rfl | omega) (kk _)
theorem follow_no_2 {d : Nat} (hd : 9 ≤ d) {p t o : Int} {g b : Int → Int} {x : Option MV} {M : gMem} (hW : Wf g) (h : TxOk (M 8) (M 7 1)) (p0 : 0 ≤ p) (p1 : p < M 7 1) (t1 : 0 ≤ t ∧ t < 60) (hk : kdF (M 8) (M 7 1) p = 2) (hb : brF (M 8) (M 7 1) p 2 = -1) {A : Int × (Int → Int)} (hA : A = odA g 2 (dgV (M 8) (M 7 1) (p + 5 + 1)) (dgV (M 8) (M 7 1) (p + 5 + 3))) (hr : ¬ rsn A.1 = 0) : Go d RX3 cX3_follow 5 none 22 [some (.inr 9), some (.inr 7), some (.inr 3), some (.inl t), x] [] (setR (setR M 4 g) 9 (row9 b p 0 0 o)) none (setR (setR M 4 A.2) 9 (row9 b p (rsn A.1) 0 o)) := by
  have hn := h.1
  have hi := odA_r hW 2 (dgV (M 8) (M 7 1) (p + 5 + 1)) (dgV (M 8) (M 7 1) (p + 5 + 3))
  have h3 : 0 ≤ rsn A.1 ∧ rsn A.1 ≤ 3 := by
    unfold rsn
    (repeat' split) <;> omega
  subst hA
  refine Go_iload_n (pc := 22) dX3_follow_22 rfl rfl ?_
  refine Go_bipush (pc := 23) dX3_follow_23 (by decide) (by decide) ?_
  refine Go_icmp_ge (pc := 25) (tgt := 120) dX3_follow_25 (by decide) (by omega) (by decide) (fun c25 => ?_) (fun c25 => ?_)
  · first | (exfalso; omega) | exact Go_return (pc := 120) dX3_follow_120 rfl rfl (by congr 1; funext q; unfold row9 updI; (repeat' split) <;> first | rfl | omega)
  · refine Go_aload_n (pc := 28) dX3_follow_28 rfl (by decide) rfl ?_
    refine Go_geti (pc := 29) (z := p) dX3_follow_29 fo_X3_9 (by decide) rfl rfl (show (updI (updI (updI (updI b 0 p) 1 0) 2 0) 3 o) 0 = p from (updI_n (by decide)).trans ((updI_n (by decide)).trans ((updI_n (by decide)).trans (updI_s _ _ _)))) ?_
    refine Go_aload_n (pc := 32) dX3_follow_32 rfl (by decide) rfl ?_
    refine Go_invV (pc := 33) (y := yX5_length) (avs := []) (k := 7) (rest := [.inl p]) (x := .inl (M 7 1))  (d' := d - 1) dX3_follow_33 ln_X3_24 mo_X5_length vo_X5_length rfl (rc_7) rfl rfl (Nat.le_of_ble_eq_true rfl) (by omega) (Nat.le_of_ble_eq_true rfl) rfl (s_X5_length (by omega)) ?_
    refine Go_icmp_ge (pc := 36) (tgt := 120) dX3_follow_36 (by decide) (by omega) (by omega) (fun c36 => ?_) (fun c36 => ?_)
    · first | (exfalso; omega) | exact Go_return (pc := 120) dX3_follow_120 rfl rfl (by congr 1; funext q; unfold row9 updI; (repeat' split) <;> first | rfl | omega)
    · refine Go_aload_n (pc := 39) dX3_follow_39 rfl (by decide) rfl ?_
      refine Go_aload_n (pc := 40) dX3_follow_40 rfl (by decide) rfl ?_
      refine Go_geti (pc := 41) (z := p) dX3_follow_41 fo_X3_9 (by decide) rfl rfl (show (updI (updI (updI (updI b 0 p) 1 0) 2 0) 3 o) 0 = p from (updI_n (by decide)).trans ((updI_n (by decide)).trans ((updI_n (by decide)).trans (updI_s _ _ _)))) ?_
      refine Go_invS (pc := 44) (y := yX3_kindAt) (avs := [.inr 7, .inl p]) (rest := []) (x := .inl 2)  (d' := d - 1) dX3_follow_44 ln_X3_30 mo_X3_kindAt so_X3_kindAt rfl rfl rfl (Nat.le_of_ble_eq_true rfl) (by omega) (Nat.le_of_ble_eq_true rfl) rfl (Go_v (congrArg (fun z : Int => (some (.inl z) : Option MV)) hk) rfl (s_X3_kindAt (by omega) h (by first | omega | (simp only [Nat.reduceAdd, setR_s]; omega) | (simp only [setR, Nat.reduceEqDiff, reduceIte]; omega)) (by first | omega | (simp only [Nat.reduceAdd, setR_s]; omega) | (simp only [setR, Nat.reduceEqDiff, reduceIte]; omega)))) ?_
      refine Go_istore (pc := 47) (L' := [some (.inr 9), some (.inr 7), some (.inr 3), some (.inl t), some (.inl 2)]) dX3_follow_47 (by decide) rfl ?_
      refine Go_aload_n (pc := 49) dX3_follow_49 rfl (by decide) rfl ?_
      refine Go_aload_n (pc := 50) dX3_follow_50 rfl (by decide) rfl ?_
      refine Go_aload_n (pc := 51) dX3_follow_51 rfl (by decide) rfl ?_
      refine Go_iload (pc := 52) dX3_follow_52 rfl ?_
      refine Go_invV (pc := 54) (y := yX3_checkForm) (avs := [.inr 7, .inl 2]) (k := 9) (rest := [.inr 9]) (x := .inl 0)  (d' := d - 1) dX3_follow_54 ln_X3_34 mo_X3_checkForm vo_X3_checkForm rfl (rc_9) rfl rfl (Nat.le_of_ble_eq_true rfl) (by omega) (Nat.le_of_ble_eq_true rfl) rfl (s_X3_checkForm_ok_2 (p := p) (by omega) h (by first | omega | (simp only [Nat.reduceAdd, setR_s]; omega) | (simp only [setR, Nat.reduceEqDiff, reduceIte]; omega)) (by first | omega | (simp only [Nat.reduceAdd, setR_s]; omega) | (simp only [setR, Nat.reduceEqDiff, reduceIte]; omega)) (show (updI (updI (updI (updI b 0 p) 1 0) 2 0) 3 o) 0 = p from (updI_n (by decide)).trans ((updI_n (by decide)).trans ((updI_n (by decide)).trans (updI_s _ _ _)))) hb) ?_
      refine Go_puti (pc := 57) dX3_follow_57 fw_X3_15 (by decide) rfl rfl ?_
      refine Go_M (M1 := setR (setR M 4 g) 9 (updI (updI (updI (updI (updI b 0 p) 1 0) 2 0) 3 o) 1 0)) (setR_top _ _ _ _ _) ?_
      refine Go_aload_n (pc := 60) dX3_follow_60 rfl (by decide) rfl ?_
      refine Go_geti (pc := 61) (z := 0) dX3_follow_61 fo_X3_15 (by decide) rfl rfl (show (updI (updI (updI (updI (updI b 0 p) 1 0) 2 0) 3 o) 1 0) 1 = 0 from updI_s _ _ _) ?_
      refine Go_if_ne (pc := 64) (tgt := 82) dX3_follow_64 (by decide) (by decide) (fun q => absurd q (by decide)) (fun _ => ?_)
      refine Go_aload_n (pc := 67) dX3_follow_67 rfl (by decide) rfl ?_
      refine Go_aload_n (pc := 68) dX3_follow_68 rfl (by decide) rfl ?_
      refine Go_aload_n (pc := 69) dX3_follow_69 rfl (by decide) rfl ?_
      refine Go_aload_n (pc := 70) dX3_follow_70 rfl (by decide) rfl ?_
      refine Go_iload (pc := 71) dX3_follow_71 rfl ?_
      refine Go_invV (pc := 73) (y := yX3_doOrder) (avs := [.inr 7, .inr 3, .inl 2]) (k := 9) (rest := [.inr 9]) (x := .inl ((odA g 2 (dgV (M 8) (M 7 1) (p + 5 + 1)) (dgV (M 8) (M 7 1) (p + 5 + 3))).1))  (d' := d - 1) dX3_follow_73 ln_X3_37 mo_X3_doOrder vo_X3_doOrder rfl (rc_9) rfl rfl (Nat.le_of_ble_eq_true rfl) (by omega) (Nat.le_of_ble_eq_true rfl) rfl (s_X3_doOrder_2 (p := p) (by omega) h hW (by first | omega | (simp only [Nat.reduceAdd, setR_s]; omega) | (simp only [setR, Nat.reduceEqDiff, reduceIte]; omega)) (by first | omega | (simp only [Nat.reduceAdd, setR_s]; omega) | (simp only [setR, Nat.reduceEqDiff, reduceIte]; omega)) (show (updI (updI (updI (updI (updI b 0 p) 1 0) 2 0) 3 o) 1 0) 0 = p from (updI_n (by decide)).trans ((updI_n (by decide)).trans ((updI_n (by decide)).trans ((updI_n (by decide)).trans (updI_s _ _ _)))))) ?_
      refine Go_M (M1 := setR (setR M 9 (updI (updI (updI (updI (updI b 0 p) 1 0) 2 0) 3 o) 1 0)) 4 ((odA g 2 (dgV (M 8) (M 7 1) (p + 5 + 1)) (dgV (M 8) (M 7 1) (p + 5 + 3))).2)) (by funext q; simp only [setR]; (repeat' split) <;> first | rfl | omega | simp_all) ?_
      refine Go_invS (pc := 76) (y := yX3_reasonOf) (avs := [.inl ((odA g 2 (dgV (M 8) (M 7 1) (p + 5 + 1)) (dgV (M 8) (M 7 1) (p + 5 + 3))).1)]) (rest := [.inr 9]) (x := .inl (rsn ((odA g 2 (dgV (M 8) (M 7 1) (p + 5 + 1)) (dgV (M 8) (M 7 1) (p + 5 + 3))).1)))  (d' := d - 1) dX3_follow_76 ln_X3_41 mo_X3_reasonOf so_X3_reasonOf rfl rfl rfl (Nat.le_of_ble_eq_true rfl) (by omega) (Nat.le_of_ble_eq_true rfl) rfl (s_X3_reasonOf (by omega) hi) ?_
      refine Go_puti (pc := 79) dX3_follow_79 fw_X3_15 (by decide) rfl rfl ?_
      refine Go_M (M1 := setR (setR M 4 ((odA g 2 (dgV (M 8) (M 7 1) (p + 5 + 1)) (dgV (M 8) (M 7 1) (p + 5 + 3))).2)) 9 (updI (updI (updI (updI (updI (updI b 0 p) 1 0) 2 0) 3 o) 1 0) 1 (rsn ((odA g 2 (dgV (M 8) (M 7 1) (p + 5 + 1)) (dgV (M 8) (M 7 1) (p + 5 + 3))).1)))) (by funext q; simp only [setR]; (repeat' split) <;> first | rfl | omega | simp_all) ?_
      refine Go_aload_n (pc := 82) dX3_follow_82 rfl (by decide) rfl ?_
      refine Go_geti (pc := 83) (z := rsn ((odA g 2 (dgV (M 8) (M 7 1) (p + 5 + 1)) (dgV (M 8) (M 7 1) (p + 5 + 3))).1)) dX3_follow_83 fo_X3_15 (by decide) rfl rfl (show (updI (updI (updI (updI (updI (updI b 0 p) 1 0) 2 0) 3 o) 1 0) 1 (rsn ((odA g 2 (dgV (M 8) (M 7 1) (p + 5 + 1)) (dgV (M 8) (M 7 1) (p + 5 + 3))).1))) 1 = (rsn ((odA g 2 (dgV (M 8) (M 7 1) (p + 5 + 1)) (dgV (M 8) (M 7 1) (p + 5 + 3))).1)) from updI_s _ _ _) ?_
      refine Go_if_eq (pc := 86) (tgt := 90) dX3_follow_86 (by decide) (by omega) (fun c86 => ?_) (fun c86 => ?_)
      · exfalso; omega
      · first | (exfalso; omega) | exact Go_return (pc := 89) dX3_follow_89 rfl rfl (by congr 1; funext q; unfold row9 updI; (repeat' split) <;> first | rfl | omega)
theorem follow_ok_2 {d : Nat} (hd : 9 ≤ d) {p t o : Int} {g b : Int → Int} {x : Option MV} {M M' : gMem} (hW : Wf g) (h : TxOk (M 8) (M 7 1)) (p0 : 0 ≤ p) (p1 : p < M 7 1) (t1 : 0 ≤ t ∧ t < 60) (hk : kdF (M 8) (M 7 1) p = 2) (hb : brF (M 8) (M 7 1) p 2 = -1) {A : Int × (Int → Int)} (hA : A = odA g 2 (dgV (M 8) (M 7 1) (p + 5 + 1)) (dgV (M 8) (M 7 1) (p + 5 + 3))) (hr : rsn A.1 = 0) (kk : ∀ y : Option MV, Go d RX3 cX3_follow 5 none 22 [some (.inr 9), some (.inr 7), some (.inr 3), some (.inl (t + 1)), y] [] (setR (setR M 4 A.2) 9 (row9 b (p + 8) 0 0 (o + 1))) none M') : Go d RX3 cX3_follow 5 none 22 [some (.inr 9), some (.inr 7), some (.inr 3), some (.inl t), x] [] (setR (setR M 4 g) 9 (row9 b p 0 0 o)) none M' := by
  have hn := h.1
  have hi := odA_r hW 2 (dgV (M 8) (M 7 1) (p + 5 + 1)) (dgV (M 8) (M 7 1) (p + 5 + 3))
  subst hA
  refine Go_iload_n (pc := 22) dX3_follow_22 rfl rfl ?_
  refine Go_bipush (pc := 23) dX3_follow_23 (by decide) (by decide) ?_
  refine Go_icmp_ge (pc := 25) (tgt := 120) dX3_follow_25 (by decide) (by omega) (by decide) (fun c25 => ?_) (fun c25 => ?_)
  · exfalso; omega
  · refine Go_aload_n (pc := 28) dX3_follow_28 rfl (by decide) rfl ?_
    refine Go_geti (pc := 29) (z := p) dX3_follow_29 fo_X3_9 (by decide) rfl rfl (show (updI (updI (updI (updI b 0 p) 1 0) 2 0) 3 o) 0 = p from (updI_n (by decide)).trans ((updI_n (by decide)).trans ((updI_n (by decide)).trans (updI_s _ _ _)))) ?_
    refine Go_aload_n (pc := 32) dX3_follow_32 rfl (by decide) rfl ?_
    refine Go_invV (pc := 33) (y := yX5_length) (avs := []) (k := 7) (rest := [.inl p]) (x := .inl (M 7 1))  (d' := d - 1) dX3_follow_33 ln_X3_24 mo_X5_length vo_X5_length rfl (rc_7) rfl rfl (Nat.le_of_ble_eq_true rfl) (by omega) (Nat.le_of_ble_eq_true rfl) rfl (s_X5_length (by omega)) ?_
    refine Go_icmp_ge (pc := 36) (tgt := 120) dX3_follow_36 (by decide) (by omega) (by omega) (fun c36 => ?_) (fun c36 => ?_)
    · exfalso; omega
    · refine Go_aload_n (pc := 39) dX3_follow_39 rfl (by decide) rfl ?_
      refine Go_aload_n (pc := 40) dX3_follow_40 rfl (by decide) rfl ?_
      refine Go_geti (pc := 41) (z := p) dX3_follow_41 fo_X3_9 (by decide) rfl rfl (show (updI (updI (updI (updI b 0 p) 1 0) 2 0) 3 o) 0 = p from (updI_n (by decide)).trans ((updI_n (by decide)).trans ((updI_n (by decide)).trans (updI_s _ _ _)))) ?_
      refine Go_invS (pc := 44) (y := yX3_kindAt) (avs := [.inr 7, .inl p]) (rest := []) (x := .inl 2)  (d' := d - 1) dX3_follow_44 ln_X3_30 mo_X3_kindAt so_X3_kindAt rfl rfl rfl (Nat.le_of_ble_eq_true rfl) (by omega) (Nat.le_of_ble_eq_true rfl) rfl (Go_v (congrArg (fun z : Int => (some (.inl z) : Option MV)) hk) rfl (s_X3_kindAt (by omega) h (by first | omega | (simp only [Nat.reduceAdd, setR_s]; omega) | (simp only [setR, Nat.reduceEqDiff, reduceIte]; omega)) (by first | omega | (simp only [Nat.reduceAdd, setR_s]; omega) | (simp only [setR, Nat.reduceEqDiff, reduceIte]; omega)))) ?_
      refine Go_istore (pc := 47) (L' := [some (.inr 9), some (.inr 7), some (.inr 3), some (.inl t), some (.inl 2)]) dX3_follow_47 (by decide) rfl ?_
      refine Go_aload_n (pc := 49) dX3_follow_49 rfl (by decide) rfl ?_
      refine Go_aload_n (pc := 50) dX3_follow_50 rfl (by decide) rfl ?_
      refine Go_aload_n (pc := 51) dX3_follow_51 rfl (by decide) rfl ?_
      refine Go_iload (pc := 52) dX3_follow_52 rfl ?_
      refine Go_invV (pc := 54) (y := yX3_checkForm) (avs := [.inr 7, .inl 2]) (k := 9) (rest := [.inr 9]) (x := .inl 0)  (d' := d - 1) dX3_follow_54 ln_X3_34 mo_X3_checkForm vo_X3_checkForm rfl (rc_9) rfl rfl (Nat.le_of_ble_eq_true rfl) (by omega) (Nat.le_of_ble_eq_true rfl) rfl (s_X3_checkForm_ok_2 (p := p) (by omega) h (by first | omega | (simp only [Nat.reduceAdd, setR_s]; omega) | (simp only [setR, Nat.reduceEqDiff, reduceIte]; omega)) (by first | omega | (simp only [Nat.reduceAdd, setR_s]; omega) | (simp only [setR, Nat.reduceEqDiff, reduceIte]; omega)) (show (updI (updI (updI (updI b 0 p) 1 0) 2 0) 3 o) 0 = p from (updI_n (by decide)).trans ((updI_n (by decide)).trans ((updI_n (by decide)).trans (updI_s _ _ _)))) hb) ?_
      refine Go_puti (pc := 57) dX3_follow_57 fw_X3_15 (by decide) rfl rfl ?_
      refine Go_M (M1 := setR (setR M 4 g) 9 (updI (updI (updI (updI (updI b 0 p) 1 0) 2 0) 3 o) 1 0)) (setR_top _ _ _ _ _) ?_
      refine Go_aload_n (pc := 60) dX3_follow_60 rfl (by decide) rfl ?_
      refine Go_geti (pc := 61) (z := 0) dX3_follow_61 fo_X3_15 (by decide) rfl rfl (show (updI (updI (updI (updI (updI b 0 p) 1 0) 2 0) 3 o) 1 0) 1 = 0 from updI_s _ _ _) ?_
      refine Go_if_ne (pc := 64) (tgt := 82) dX3_follow_64 (by decide) (by decide) (fun q => absurd q (by decide)) (fun _ => ?_)
      refine Go_aload_n (pc := 67) dX3_follow_67 rfl (by decide) rfl ?_
      refine Go_aload_n (pc := 68) dX3_follow_68 rfl (by decide) rfl ?_
      refine Go_aload_n (pc := 69) dX3_follow_69 rfl (by decide) rfl ?_
      refine Go_aload_n (pc := 70) dX3_follow_70 rfl (by decide) rfl ?_
      refine Go_iload (pc := 71) dX3_follow_71 rfl ?_
      refine Go_invV (pc := 73) (y := yX3_doOrder) (avs := [.inr 7, .inr 3, .inl 2]) (k := 9) (rest := [.inr 9]) (x := .inl ((odA g 2 (dgV (M 8) (M 7 1) (p + 5 + 1)) (dgV (M 8) (M 7 1) (p + 5 + 3))).1))  (d' := d - 1) dX3_follow_73 ln_X3_37 mo_X3_doOrder vo_X3_doOrder rfl (rc_9) rfl rfl (Nat.le_of_ble_eq_true rfl) (by omega) (Nat.le_of_ble_eq_true rfl) rfl (s_X3_doOrder_2 (p := p) (by omega) h hW (by first | omega | (simp only [Nat.reduceAdd, setR_s]; omega) | (simp only [setR, Nat.reduceEqDiff, reduceIte]; omega)) (by first | omega | (simp only [Nat.reduceAdd, setR_s]; omega) | (simp only [setR, Nat.reduceEqDiff, reduceIte]; omega)) (show (updI (updI (updI (updI (updI b 0 p) 1 0) 2 0) 3 o) 1 0) 0 = p from (updI_n (by decide)).trans ((updI_n (by decide)).trans ((updI_n (by decide)).trans ((updI_n (by decide)).trans (updI_s _ _ _)))))) ?_
      refine Go_M (M1 := setR (setR M 9 (updI (updI (updI (updI (updI b 0 p) 1 0) 2 0) 3 o) 1 0)) 4 ((odA g 2 (dgV (M 8) (M 7 1) (p + 5 + 1)) (dgV (M 8) (M 7 1) (p + 5 + 3))).2)) (by funext q; simp only [setR]; (repeat' split) <;> first | rfl | omega | simp_all) ?_
      refine Go_invS (pc := 76) (y := yX3_reasonOf) (avs := [.inl ((odA g 2 (dgV (M 8) (M 7 1) (p + 5 + 1)) (dgV (M 8) (M 7 1) (p + 5 + 3))).1)]) (rest := [.inr 9]) (x := .inl 0)  (d' := d - 1) dX3_follow_76 ln_X3_41 mo_X3_reasonOf so_X3_reasonOf rfl rfl rfl (Nat.le_of_ble_eq_true rfl) (by omega) (Nat.le_of_ble_eq_true rfl) rfl (Go_v (congrArg (fun z : Int => (some (.inl z) : Option MV)) hr) rfl (s_X3_reasonOf (by omega) hi)) ?_
      refine Go_puti (pc := 79) dX3_follow_79 fw_X3_15 (by decide) rfl rfl ?_
      refine Go_M (M1 := setR (setR M 4 ((odA g 2 (dgV (M 8) (M 7 1) (p + 5 + 1)) (dgV (M 8) (M 7 1) (p + 5 + 3))).2)) 9 (updI (updI (updI (updI (updI (updI b 0 p) 1 0) 2 0) 3 o) 1 0) 1 0)) (by funext q; simp only [setR]; (repeat' split) <;> first | rfl | omega | simp_all) ?_
      refine Go_aload_n (pc := 82) dX3_follow_82 rfl (by decide) rfl ?_
      refine Go_geti (pc := 83) (z := 0) dX3_follow_83 fo_X3_15 (by decide) rfl rfl (show (updI (updI (updI (updI (updI (updI b 0 p) 1 0) 2 0) 3 o) 1 0) 1 0) 1 = 0 from updI_s _ _ _) ?_
      refine Go_if_eq (pc := 86) (tgt := 90) dX3_follow_86 (by decide) (by decide) (fun _ => ?_) (fun q => absurd q (by decide))
      refine Go_aload_n (pc := 90) dX3_follow_90 rfl (by decide) rfl ?_
      refine Go_dup (pc := 91) dX3_follow_91 ?_
      refine Go_geti (pc := 92) (z := p) dX3_follow_92 fo_X3_9 (by decide) rfl rfl (show (updI (updI (updI (updI (updI (updI b 0 p) 1 0) 2 0) 3 o) 1 0) 1 0) 0 = p from (updI_n (by decide)).trans ((updI_n (by decide)).trans ((updI_n (by decide)).trans ((updI_n (by decide)).trans ((updI_n (by decide)).trans (updI_s _ _ _)))))) ?_
      refine Go_iload (pc := 95) dX3_follow_95 rfl ?_
      refine Go_invS (pc := 97) (y := yX3_orderLength) (avs := [.inl 2]) (rest := [.inl p, .inr 9]) (x := .inl 8)  (d' := d - 1) dX3_follow_97 ln_X3_45 mo_X3_orderLength so_X3_orderLength rfl rfl rfl (Nat.le_of_ble_eq_true rfl) (by omega) (Nat.le_of_ble_eq_true rfl) rfl (s_X3_orderLength_2 (by omega)) ?_
      refine Go_iadd (pc := 100) dX3_follow_100 ?_
      refine Go_puti (pc := 101) dX3_follow_101 fw_X3_9 (by decide) rfl rfl ?_
      refine Go_M (M1 := setR (setR M 4 ((odA g 2 (dgV (M 8) (M 7 1) (p + 5 + 1)) (dgV (M 8) (M 7 1) (p + 5 + 3))).2)) 9 (updI (updI (updI (updI (updI (updI (updI b 0 p) 1 0) 2 0) 3 o) 1 0) 1 0) 0 (p + 8))) (setR_top _ _ _ _ _) ?_
      refine Go_aload_n (pc := 104) dX3_follow_104 rfl (by decide) rfl ?_
      refine Go_dup (pc := 105) dX3_follow_105 ?_
      refine Go_geti (pc := 106) (z := o) dX3_follow_106 fo_X3_21 (by decide) rfl rfl (show (updI (updI (updI (updI (updI (updI (updI b 0 p) 1 0) 2 0) 3 o) 1 0) 1 0) 0 (p + 8)) 3 = o from (updI_n (by decide)).trans ((updI_n (by decide)).trans ((updI_n (by decide)).trans (updI_s _ _ _)))) ?_
      refine Go_iconst (pc := 109) dX3_follow_109 ?_
      refine Go_iadd (pc := 110) dX3_follow_110 ?_
      refine Go_puti (pc := 111) dX3_follow_111 fw_X3_21 (by decide) rfl rfl ?_
      refine Go_M (M1 := setR (setR M 4 ((odA g 2 (dgV (M 8) (M 7 1) (p + 5 + 1)) (dgV (M 8) (M 7 1) (p + 5 + 3))).2)) 9 (updI (updI (updI (updI (updI (updI (updI (updI b 0 p) 1 0) 2 0) 3 o) 1 0) 1 0) 0 (p + 8)) 3 (o + 1))) (setR_top _ _ _ _ _) ?_
      refine Go_iinc (pc := 114) (L' := [some (.inr 9), some (.inr 7), some (.inr 3), some (.inl (t + 1)), some (.inl 2)]) dX3_follow_114 rfl (by decide) rfl ?_
      refine Go_goto (pc := 117) (tgt := 22) dX3_follow_117 (by decide) ?_
      exact Go_M (by congr 1; funext q; unfold row9 updI; (repeat' split) <;> first | rfl | omega) (kk _)
theorem follow_no_3 {d : Nat} (hd : 9 ≤ d) {p t o : Int} {g b : Int → Int} {x : Option MV} {M : gMem} (hW : Wf g) (h : TxOk (M 8) (M 7 1)) (p0 : 0 ≤ p) (p1 : p < M 7 1) (t1 : 0 ≤ t ∧ t < 60) (hk : kdF (M 8) (M 7 1) p = 3) (hb : brF (M 8) (M 7 1) p 3 = -1) {A : Int × (Int → Int)} (hA : A = odA g 3 (dgV (M 8) (M 7 1) (p + 4 + 1)) (dgV (M 8) (M 7 1) (p + 4 + 3))) (hr : ¬ rsn A.1 = 0) : Go d RX3 cX3_follow 5 none 22 [some (.inr 9), some (.inr 7), some (.inr 3), some (.inl t), x] [] (setR (setR M 4 g) 9 (row9 b p 0 0 o)) none (setR (setR M 4 A.2) 9 (row9 b p (rsn A.1) 0 o)) := by
  have hn := h.1
  have hi := odA_r hW 3 (dgV (M 8) (M 7 1) (p + 4 + 1)) (dgV (M 8) (M 7 1) (p + 4 + 3))
  have h3 : 0 ≤ rsn A.1 ∧ rsn A.1 ≤ 3 := by
    unfold rsn
    (repeat' split) <;> omega
  subst hA
  refine Go_iload_n (pc := 22) dX3_follow_22 rfl rfl ?_
  refine Go_bipush (pc := 23) dX3_follow_23 (by decide) (by decide) ?_
  refine Go_icmp_ge (pc := 25) (tgt := 120) dX3_follow_25 (by decide) (by omega) (by decide) (fun c25 => ?_) (fun c25 => ?_)
  · first | (exfalso; omega) | exact Go_return (pc := 120) dX3_follow_120 rfl rfl (by congr 1; funext q; unfold row9 updI; (repeat' split) <;> first | rfl | omega)
  · refine Go_aload_n (pc := 28) dX3_follow_28 rfl (by decide) rfl ?_
    refine Go_geti (pc := 29) (z := p) dX3_follow_29 fo_X3_9 (by decide) rfl rfl (show (updI (updI (updI (updI b 0 p) 1 0) 2 0) 3 o) 0 = p from (updI_n (by decide)).trans ((updI_n (by decide)).trans ((updI_n (by decide)).trans (updI_s _ _ _)))) ?_
    refine Go_aload_n (pc := 32) dX3_follow_32 rfl (by decide) rfl ?_
    refine Go_invV (pc := 33) (y := yX5_length) (avs := []) (k := 7) (rest := [.inl p]) (x := .inl (M 7 1))  (d' := d - 1) dX3_follow_33 ln_X3_24 mo_X5_length vo_X5_length rfl (rc_7) rfl rfl (Nat.le_of_ble_eq_true rfl) (by omega) (Nat.le_of_ble_eq_true rfl) rfl (s_X5_length (by omega)) ?_
    refine Go_icmp_ge (pc := 36) (tgt := 120) dX3_follow_36 (by decide) (by omega) (by omega) (fun c36 => ?_) (fun c36 => ?_)
    · first | (exfalso; omega) | exact Go_return (pc := 120) dX3_follow_120 rfl rfl (by congr 1; funext q; unfold row9 updI; (repeat' split) <;> first | rfl | omega)
    · refine Go_aload_n (pc := 39) dX3_follow_39 rfl (by decide) rfl ?_
      refine Go_aload_n (pc := 40) dX3_follow_40 rfl (by decide) rfl ?_
      refine Go_geti (pc := 41) (z := p) dX3_follow_41 fo_X3_9 (by decide) rfl rfl (show (updI (updI (updI (updI b 0 p) 1 0) 2 0) 3 o) 0 = p from (updI_n (by decide)).trans ((updI_n (by decide)).trans ((updI_n (by decide)).trans (updI_s _ _ _)))) ?_
      refine Go_invS (pc := 44) (y := yX3_kindAt) (avs := [.inr 7, .inl p]) (rest := []) (x := .inl 3)  (d' := d - 1) dX3_follow_44 ln_X3_30 mo_X3_kindAt so_X3_kindAt rfl rfl rfl (Nat.le_of_ble_eq_true rfl) (by omega) (Nat.le_of_ble_eq_true rfl) rfl (Go_v (congrArg (fun z : Int => (some (.inl z) : Option MV)) hk) rfl (s_X3_kindAt (by omega) h (by first | omega | (simp only [Nat.reduceAdd, setR_s]; omega) | (simp only [setR, Nat.reduceEqDiff, reduceIte]; omega)) (by first | omega | (simp only [Nat.reduceAdd, setR_s]; omega) | (simp only [setR, Nat.reduceEqDiff, reduceIte]; omega)))) ?_
      refine Go_istore (pc := 47) (L' := [some (.inr 9), some (.inr 7), some (.inr 3), some (.inl t), some (.inl 3)]) dX3_follow_47 (by decide) rfl ?_
      refine Go_aload_n (pc := 49) dX3_follow_49 rfl (by decide) rfl ?_
      refine Go_aload_n (pc := 50) dX3_follow_50 rfl (by decide) rfl ?_
      refine Go_aload_n (pc := 51) dX3_follow_51 rfl (by decide) rfl ?_
      refine Go_iload (pc := 52) dX3_follow_52 rfl ?_
      refine Go_invV (pc := 54) (y := yX3_checkForm) (avs := [.inr 7, .inl 3]) (k := 9) (rest := [.inr 9]) (x := .inl 0)  (d' := d - 1) dX3_follow_54 ln_X3_34 mo_X3_checkForm vo_X3_checkForm rfl (rc_9) rfl rfl (Nat.le_of_ble_eq_true rfl) (by omega) (Nat.le_of_ble_eq_true rfl) rfl (s_X3_checkForm_ok_3 (p := p) (by omega) h (by first | omega | (simp only [Nat.reduceAdd, setR_s]; omega) | (simp only [setR, Nat.reduceEqDiff, reduceIte]; omega)) (by first | omega | (simp only [Nat.reduceAdd, setR_s]; omega) | (simp only [setR, Nat.reduceEqDiff, reduceIte]; omega)) (show (updI (updI (updI (updI b 0 p) 1 0) 2 0) 3 o) 0 = p from (updI_n (by decide)).trans ((updI_n (by decide)).trans ((updI_n (by decide)).trans (updI_s _ _ _)))) hb) ?_
      refine Go_puti (pc := 57) dX3_follow_57 fw_X3_15 (by decide) rfl rfl ?_
      refine Go_M (M1 := setR (setR M 4 g) 9 (updI (updI (updI (updI (updI b 0 p) 1 0) 2 0) 3 o) 1 0)) (setR_top _ _ _ _ _) ?_
      refine Go_aload_n (pc := 60) dX3_follow_60 rfl (by decide) rfl ?_
      refine Go_geti (pc := 61) (z := 0) dX3_follow_61 fo_X3_15 (by decide) rfl rfl (show (updI (updI (updI (updI (updI b 0 p) 1 0) 2 0) 3 o) 1 0) 1 = 0 from updI_s _ _ _) ?_
      refine Go_if_ne (pc := 64) (tgt := 82) dX3_follow_64 (by decide) (by decide) (fun q => absurd q (by decide)) (fun _ => ?_)
      refine Go_aload_n (pc := 67) dX3_follow_67 rfl (by decide) rfl ?_
      refine Go_aload_n (pc := 68) dX3_follow_68 rfl (by decide) rfl ?_
      refine Go_aload_n (pc := 69) dX3_follow_69 rfl (by decide) rfl ?_
      refine Go_aload_n (pc := 70) dX3_follow_70 rfl (by decide) rfl ?_
      refine Go_iload (pc := 71) dX3_follow_71 rfl ?_
      refine Go_invV (pc := 73) (y := yX3_doOrder) (avs := [.inr 7, .inr 3, .inl 3]) (k := 9) (rest := [.inr 9]) (x := .inl ((odA g 3 (dgV (M 8) (M 7 1) (p + 4 + 1)) (dgV (M 8) (M 7 1) (p + 4 + 3))).1))  (d' := d - 1) dX3_follow_73 ln_X3_37 mo_X3_doOrder vo_X3_doOrder rfl (rc_9) rfl rfl (Nat.le_of_ble_eq_true rfl) (by omega) (Nat.le_of_ble_eq_true rfl) rfl (s_X3_doOrder_3 (p := p) (by omega) h hW (by first | omega | (simp only [Nat.reduceAdd, setR_s]; omega) | (simp only [setR, Nat.reduceEqDiff, reduceIte]; omega)) (by first | omega | (simp only [Nat.reduceAdd, setR_s]; omega) | (simp only [setR, Nat.reduceEqDiff, reduceIte]; omega)) (show (updI (updI (updI (updI (updI b 0 p) 1 0) 2 0) 3 o) 1 0) 0 = p from (updI_n (by decide)).trans ((updI_n (by decide)).trans ((updI_n (by decide)).trans ((updI_n (by decide)).trans (updI_s _ _ _)))))) ?_
      refine Go_M (M1 := setR (setR M 9 (updI (updI (updI (updI (updI b 0 p) 1 0) 2 0) 3 o) 1 0)) 4 ((odA g 3 (dgV (M 8) (M 7 1) (p + 4 + 1)) (dgV (M 8) (M 7 1) (p + 4 + 3))).2)) (by funext q; simp only [setR]; (repeat' split) <;> first | rfl | omega | simp_all) ?_
      refine Go_invS (pc := 76) (y := yX3_reasonOf) (avs := [.inl ((odA g 3 (dgV (M 8) (M 7 1) (p + 4 + 1)) (dgV (M 8) (M 7 1) (p + 4 + 3))).1)]) (rest := [.inr 9]) (x := .inl (rsn ((odA g 3 (dgV (M 8) (M 7 1) (p + 4 + 1)) (dgV (M 8) (M 7 1) (p + 4 + 3))).1)))  (d' := d - 1) dX3_follow_76 ln_X3_41 mo_X3_reasonOf so_X3_reasonOf rfl rfl rfl (Nat.le_of_ble_eq_true rfl) (by omega) (Nat.le_of_ble_eq_true rfl) rfl (s_X3_reasonOf (by omega) hi) ?_
      refine Go_puti (pc := 79) dX3_follow_79 fw_X3_15 (by decide) rfl rfl ?_
      refine Go_M (M1 := setR (setR M 4 ((odA g 3 (dgV (M 8) (M 7 1) (p + 4 + 1)) (dgV (M 8) (M 7 1) (p + 4 + 3))).2)) 9 (updI (updI (updI (updI (updI (updI b 0 p) 1 0) 2 0) 3 o) 1 0) 1 (rsn ((odA g 3 (dgV (M 8) (M 7 1) (p + 4 + 1)) (dgV (M 8) (M 7 1) (p + 4 + 3))).1)))) (by funext q; simp only [setR]; (repeat' split) <;> first | rfl | omega | simp_all) ?_
      refine Go_aload_n (pc := 82) dX3_follow_82 rfl (by decide) rfl ?_
      refine Go_geti (pc := 83) (z := rsn ((odA g 3 (dgV (M 8) (M 7 1) (p + 4 + 1)) (dgV (M 8) (M 7 1) (p + 4 + 3))).1)) dX3_follow_83 fo_X3_15 (by decide) rfl rfl (show (updI (updI (updI (updI (updI (updI b 0 p) 1 0) 2 0) 3 o) 1 0) 1 (rsn ((odA g 3 (dgV (M 8) (M 7 1) (p + 4 + 1)) (dgV (M 8) (M 7 1) (p + 4 + 3))).1))) 1 = (rsn ((odA g 3 (dgV (M 8) (M 7 1) (p + 4 + 1)) (dgV (M 8) (M 7 1) (p + 4 + 3))).1)) from updI_s _ _ _) ?_
      refine Go_if_eq (pc := 86) (tgt := 90) dX3_follow_86 (by decide) (by omega) (fun c86 => ?_) (fun c86 => ?_)
      · exfalso; omega
      · first | (exfalso; omega) | exact Go_return (pc := 89) dX3_follow_89 rfl rfl (by congr 1; funext q; unfold row9 updI; (repeat' split) <;> first | rfl | omega)
theorem follow_ok_3 {d : Nat} (hd : 9 ≤ d) {p t o : Int} {g b : Int → Int} {x : Option MV} {M M' : gMem} (hW : Wf g) (h : TxOk (M 8) (M 7 1)) (p0 : 0 ≤ p) (p1 : p < M 7 1) (t1 : 0 ≤ t ∧ t < 60) (hk : kdF (M 8) (M 7 1) p = 3) (hb : brF (M 8) (M 7 1) p 3 = -1) {A : Int × (Int → Int)} (hA : A = odA g 3 (dgV (M 8) (M 7 1) (p + 4 + 1)) (dgV (M 8) (M 7 1) (p + 4 + 3))) (hr : rsn A.1 = 0) (kk : ∀ y : Option MV, Go d RX3 cX3_follow 5 none 22 [some (.inr 9), some (.inr 7), some (.inr 3), some (.inl (t + 1)), y] [] (setR (setR M 4 A.2) 9 (row9 b (p + 9) 0 0 (o + 1))) none M') : Go d RX3 cX3_follow 5 none 22 [some (.inr 9), some (.inr 7), some (.inr 3), some (.inl t), x] [] (setR (setR M 4 g) 9 (row9 b p 0 0 o)) none M' := by
  have hn := h.1
  have hi := odA_r hW 3 (dgV (M 8) (M 7 1) (p + 4 + 1)) (dgV (M 8) (M 7 1) (p + 4 + 3))
  subst hA
  refine Go_iload_n (pc := 22) dX3_follow_22 rfl rfl ?_
  refine Go_bipush (pc := 23) dX3_follow_23 (by decide) (by decide) ?_
  refine Go_icmp_ge (pc := 25) (tgt := 120) dX3_follow_25 (by decide) (by omega) (by decide) (fun c25 => ?_) (fun c25 => ?_)
  · exfalso; omega
  · refine Go_aload_n (pc := 28) dX3_follow_28 rfl (by decide) rfl ?_
    refine Go_geti (pc := 29) (z := p) dX3_follow_29 fo_X3_9 (by decide) rfl rfl (show (updI (updI (updI (updI b 0 p) 1 0) 2 0) 3 o) 0 = p from (updI_n (by decide)).trans ((updI_n (by decide)).trans ((updI_n (by decide)).trans (updI_s _ _ _)))) ?_
    refine Go_aload_n (pc := 32) dX3_follow_32 rfl (by decide) rfl ?_
    refine Go_invV (pc := 33) (y := yX5_length) (avs := []) (k := 7) (rest := [.inl p]) (x := .inl (M 7 1))  (d' := d - 1) dX3_follow_33 ln_X3_24 mo_X5_length vo_X5_length rfl (rc_7) rfl rfl (Nat.le_of_ble_eq_true rfl) (by omega) (Nat.le_of_ble_eq_true rfl) rfl (s_X5_length (by omega)) ?_
    refine Go_icmp_ge (pc := 36) (tgt := 120) dX3_follow_36 (by decide) (by omega) (by omega) (fun c36 => ?_) (fun c36 => ?_)
    · exfalso; omega
    · refine Go_aload_n (pc := 39) dX3_follow_39 rfl (by decide) rfl ?_
      refine Go_aload_n (pc := 40) dX3_follow_40 rfl (by decide) rfl ?_
      refine Go_geti (pc := 41) (z := p) dX3_follow_41 fo_X3_9 (by decide) rfl rfl (show (updI (updI (updI (updI b 0 p) 1 0) 2 0) 3 o) 0 = p from (updI_n (by decide)).trans ((updI_n (by decide)).trans ((updI_n (by decide)).trans (updI_s _ _ _)))) ?_
      refine Go_invS (pc := 44) (y := yX3_kindAt) (avs := [.inr 7, .inl p]) (rest := []) (x := .inl 3)  (d' := d - 1) dX3_follow_44 ln_X3_30 mo_X3_kindAt so_X3_kindAt rfl rfl rfl (Nat.le_of_ble_eq_true rfl) (by omega) (Nat.le_of_ble_eq_true rfl) rfl (Go_v (congrArg (fun z : Int => (some (.inl z) : Option MV)) hk) rfl (s_X3_kindAt (by omega) h (by first | omega | (simp only [Nat.reduceAdd, setR_s]; omega) | (simp only [setR, Nat.reduceEqDiff, reduceIte]; omega)) (by first | omega | (simp only [Nat.reduceAdd, setR_s]; omega) | (simp only [setR, Nat.reduceEqDiff, reduceIte]; omega)))) ?_
      refine Go_istore (pc := 47) (L' := [some (.inr 9), some (.inr 7), some (.inr 3), some (.inl t), some (.inl 3)]) dX3_follow_47 (by decide) rfl ?_
      refine Go_aload_n (pc := 49) dX3_follow_49 rfl (by decide) rfl ?_
      refine Go_aload_n (pc := 50) dX3_follow_50 rfl (by decide) rfl ?_
      refine Go_aload_n (pc := 51) dX3_follow_51 rfl (by decide) rfl ?_
      refine Go_iload (pc := 52) dX3_follow_52 rfl ?_
      refine Go_invV (pc := 54) (y := yX3_checkForm) (avs := [.inr 7, .inl 3]) (k := 9) (rest := [.inr 9]) (x := .inl 0)  (d' := d - 1) dX3_follow_54 ln_X3_34 mo_X3_checkForm vo_X3_checkForm rfl (rc_9) rfl rfl (Nat.le_of_ble_eq_true rfl) (by omega) (Nat.le_of_ble_eq_true rfl) rfl (s_X3_checkForm_ok_3 (p := p) (by omega) h (by first | omega | (simp only [Nat.reduceAdd, setR_s]; omega) | (simp only [setR, Nat.reduceEqDiff, reduceIte]; omega)) (by first | omega | (simp only [Nat.reduceAdd, setR_s]; omega) | (simp only [setR, Nat.reduceEqDiff, reduceIte]; omega)) (show (updI (updI (updI (updI b 0 p) 1 0) 2 0) 3 o) 0 = p from (updI_n (by decide)).trans ((updI_n (by decide)).trans ((updI_n (by decide)).trans (updI_s _ _ _)))) hb) ?_
      refine Go_puti (pc := 57) dX3_follow_57 fw_X3_15 (by decide) rfl rfl ?_
      refine Go_M (M1 := setR (setR M 4 g) 9 (updI (updI (updI (updI (updI b 0 p) 1 0) 2 0) 3 o) 1 0)) (setR_top _ _ _ _ _) ?_
      refine Go_aload_n (pc := 60) dX3_follow_60 rfl (by decide) rfl ?_
      refine Go_geti (pc := 61) (z := 0) dX3_follow_61 fo_X3_15 (by decide) rfl rfl (show (updI (updI (updI (updI (updI b 0 p) 1 0) 2 0) 3 o) 1 0) 1 = 0 from updI_s _ _ _) ?_
      refine Go_if_ne (pc := 64) (tgt := 82) dX3_follow_64 (by decide) (by decide) (fun q => absurd q (by decide)) (fun _ => ?_)
      refine Go_aload_n (pc := 67) dX3_follow_67 rfl (by decide) rfl ?_
      refine Go_aload_n (pc := 68) dX3_follow_68 rfl (by decide) rfl ?_
      refine Go_aload_n (pc := 69) dX3_follow_69 rfl (by decide) rfl ?_
      refine Go_aload_n (pc := 70) dX3_follow_70 rfl (by decide) rfl ?_
      refine Go_iload (pc := 71) dX3_follow_71 rfl ?_
      refine Go_invV (pc := 73) (y := yX3_doOrder) (avs := [.inr 7, .inr 3, .inl 3]) (k := 9) (rest := [.inr 9]) (x := .inl ((odA g 3 (dgV (M 8) (M 7 1) (p + 4 + 1)) (dgV (M 8) (M 7 1) (p + 4 + 3))).1))  (d' := d - 1) dX3_follow_73 ln_X3_37 mo_X3_doOrder vo_X3_doOrder rfl (rc_9) rfl rfl (Nat.le_of_ble_eq_true rfl) (by omega) (Nat.le_of_ble_eq_true rfl) rfl (s_X3_doOrder_3 (p := p) (by omega) h hW (by first | omega | (simp only [Nat.reduceAdd, setR_s]; omega) | (simp only [setR, Nat.reduceEqDiff, reduceIte]; omega)) (by first | omega | (simp only [Nat.reduceAdd, setR_s]; omega) | (simp only [setR, Nat.reduceEqDiff, reduceIte]; omega)) (show (updI (updI (updI (updI (updI b 0 p) 1 0) 2 0) 3 o) 1 0) 0 = p from (updI_n (by decide)).trans ((updI_n (by decide)).trans ((updI_n (by decide)).trans ((updI_n (by decide)).trans (updI_s _ _ _)))))) ?_
      refine Go_M (M1 := setR (setR M 9 (updI (updI (updI (updI (updI b 0 p) 1 0) 2 0) 3 o) 1 0)) 4 ((odA g 3 (dgV (M 8) (M 7 1) (p + 4 + 1)) (dgV (M 8) (M 7 1) (p + 4 + 3))).2)) (by funext q; simp only [setR]; (repeat' split) <;> first | rfl | omega | simp_all) ?_
      refine Go_invS (pc := 76) (y := yX3_reasonOf) (avs := [.inl ((odA g 3 (dgV (M 8) (M 7 1) (p + 4 + 1)) (dgV (M 8) (M 7 1) (p + 4 + 3))).1)]) (rest := [.inr 9]) (x := .inl 0)  (d' := d - 1) dX3_follow_76 ln_X3_41 mo_X3_reasonOf so_X3_reasonOf rfl rfl rfl (Nat.le_of_ble_eq_true rfl) (by omega) (Nat.le_of_ble_eq_true rfl) rfl (Go_v (congrArg (fun z : Int => (some (.inl z) : Option MV)) hr) rfl (s_X3_reasonOf (by omega) hi)) ?_
      refine Go_puti (pc := 79) dX3_follow_79 fw_X3_15 (by decide) rfl rfl ?_
      refine Go_M (M1 := setR (setR M 4 ((odA g 3 (dgV (M 8) (M 7 1) (p + 4 + 1)) (dgV (M 8) (M 7 1) (p + 4 + 3))).2)) 9 (updI (updI (updI (updI (updI (updI b 0 p) 1 0) 2 0) 3 o) 1 0) 1 0)) (by funext q; simp only [setR]; (repeat' split) <;> first | rfl | omega | simp_all) ?_
      refine Go_aload_n (pc := 82) dX3_follow_82 rfl (by decide) rfl ?_
      refine Go_geti (pc := 83) (z := 0) dX3_follow_83 fo_X3_15 (by decide) rfl rfl (show (updI (updI (updI (updI (updI (updI b 0 p) 1 0) 2 0) 3 o) 1 0) 1 0) 1 = 0 from updI_s _ _ _) ?_
      refine Go_if_eq (pc := 86) (tgt := 90) dX3_follow_86 (by decide) (by decide) (fun _ => ?_) (fun q => absurd q (by decide))
      refine Go_aload_n (pc := 90) dX3_follow_90 rfl (by decide) rfl ?_
      refine Go_dup (pc := 91) dX3_follow_91 ?_
      refine Go_geti (pc := 92) (z := p) dX3_follow_92 fo_X3_9 (by decide) rfl rfl (show (updI (updI (updI (updI (updI (updI b 0 p) 1 0) 2 0) 3 o) 1 0) 1 0) 0 = p from (updI_n (by decide)).trans ((updI_n (by decide)).trans ((updI_n (by decide)).trans ((updI_n (by decide)).trans ((updI_n (by decide)).trans (updI_s _ _ _)))))) ?_
      refine Go_iload (pc := 95) dX3_follow_95 rfl ?_
      refine Go_invS (pc := 97) (y := yX3_orderLength) (avs := [.inl 3]) (rest := [.inl p, .inr 9]) (x := .inl 9)  (d' := d - 1) dX3_follow_97 ln_X3_45 mo_X3_orderLength so_X3_orderLength rfl rfl rfl (Nat.le_of_ble_eq_true rfl) (by omega) (Nat.le_of_ble_eq_true rfl) rfl (s_X3_orderLength_3 (by omega)) ?_
      refine Go_iadd (pc := 100) dX3_follow_100 ?_
      refine Go_puti (pc := 101) dX3_follow_101 fw_X3_9 (by decide) rfl rfl ?_
      refine Go_M (M1 := setR (setR M 4 ((odA g 3 (dgV (M 8) (M 7 1) (p + 4 + 1)) (dgV (M 8) (M 7 1) (p + 4 + 3))).2)) 9 (updI (updI (updI (updI (updI (updI (updI b 0 p) 1 0) 2 0) 3 o) 1 0) 1 0) 0 (p + 9))) (setR_top _ _ _ _ _) ?_
      refine Go_aload_n (pc := 104) dX3_follow_104 rfl (by decide) rfl ?_
      refine Go_dup (pc := 105) dX3_follow_105 ?_
      refine Go_geti (pc := 106) (z := o) dX3_follow_106 fo_X3_21 (by decide) rfl rfl (show (updI (updI (updI (updI (updI (updI (updI b 0 p) 1 0) 2 0) 3 o) 1 0) 1 0) 0 (p + 9)) 3 = o from (updI_n (by decide)).trans ((updI_n (by decide)).trans ((updI_n (by decide)).trans (updI_s _ _ _)))) ?_
      refine Go_iconst (pc := 109) dX3_follow_109 ?_
      refine Go_iadd (pc := 110) dX3_follow_110 ?_
      refine Go_puti (pc := 111) dX3_follow_111 fw_X3_21 (by decide) rfl rfl ?_
      refine Go_M (M1 := setR (setR M 4 ((odA g 3 (dgV (M 8) (M 7 1) (p + 4 + 1)) (dgV (M 8) (M 7 1) (p + 4 + 3))).2)) 9 (updI (updI (updI (updI (updI (updI (updI (updI b 0 p) 1 0) 2 0) 3 o) 1 0) 1 0) 0 (p + 9)) 3 (o + 1))) (setR_top _ _ _ _ _) ?_
      refine Go_iinc (pc := 114) (L' := [some (.inr 9), some (.inr 7), some (.inr 3), some (.inl (t + 1)), some (.inl 3)]) dX3_follow_114 rfl (by decide) rfl ?_
      refine Go_goto (pc := 117) (tgt := 22) dX3_follow_117 (by decide) ?_
      exact Go_M (by congr 1; funext q; unfold row9 updI; (repeat' split) <;> first | rfl | omega) (kk _)
theorem follow_no_4 {d : Nat} (hd : 9 ≤ d) {p t o : Int} {g b : Int → Int} {x : Option MV} {M : gMem} (hW : Wf g) (h : TxOk (M 8) (M 7 1)) (p0 : 0 ≤ p) (p1 : p < M 7 1) (t1 : 0 ≤ t ∧ t < 60) (hk : kdF (M 8) (M 7 1) p = 4) (hb : brF (M 8) (M 7 1) p 4 = -1) {A : Int × (Int → Int)} (hA : A = odA g 4 (dgV (M 8) (M 7 1) (p + 4 + 1)) (dgV (M 8) (M 7 1) (p + 4 + 3))) (hr : ¬ rsn A.1 = 0) : Go d RX3 cX3_follow 5 none 22 [some (.inr 9), some (.inr 7), some (.inr 3), some (.inl t), x] [] (setR (setR M 4 g) 9 (row9 b p 0 0 o)) none (setR (setR M 4 A.2) 9 (row9 b p (rsn A.1) 0 o)) := by
  have hn := h.1
  have hi := odA_r hW 4 (dgV (M 8) (M 7 1) (p + 4 + 1)) (dgV (M 8) (M 7 1) (p + 4 + 3))
  have h3 : 0 ≤ rsn A.1 ∧ rsn A.1 ≤ 3 := by
    unfold rsn
    (repeat' split) <;> omega
  subst hA
  refine Go_iload_n (pc := 22) dX3_follow_22 rfl rfl ?_
  refine Go_bipush (pc := 23) dX3_follow_23 (by decide) (by decide) ?_
  refine Go_icmp_ge (pc := 25) (tgt := 120) dX3_follow_25 (by decide) (by omega) (by decide) (fun c25 => ?_) (fun c25 => ?_)
  · first | (exfalso; omega) | exact Go_return (pc := 120) dX3_follow_120 rfl rfl (by congr 1; funext q; unfold row9 updI; (repeat' split) <;> first | rfl | omega)
  · refine Go_aload_n (pc := 28) dX3_follow_28 rfl (by decide) rfl ?_
    refine Go_geti (pc := 29) (z := p) dX3_follow_29 fo_X3_9 (by decide) rfl rfl (show (updI (updI (updI (updI b 0 p) 1 0) 2 0) 3 o) 0 = p from (updI_n (by decide)).trans ((updI_n (by decide)).trans ((updI_n (by decide)).trans (updI_s _ _ _)))) ?_
    refine Go_aload_n (pc := 32) dX3_follow_32 rfl (by decide) rfl ?_
    refine Go_invV (pc := 33) (y := yX5_length) (avs := []) (k := 7) (rest := [.inl p]) (x := .inl (M 7 1))  (d' := d - 1) dX3_follow_33 ln_X3_24 mo_X5_length vo_X5_length rfl (rc_7) rfl rfl (Nat.le_of_ble_eq_true rfl) (by omega) (Nat.le_of_ble_eq_true rfl) rfl (s_X5_length (by omega)) ?_
    refine Go_icmp_ge (pc := 36) (tgt := 120) dX3_follow_36 (by decide) (by omega) (by omega) (fun c36 => ?_) (fun c36 => ?_)
    · first | (exfalso; omega) | exact Go_return (pc := 120) dX3_follow_120 rfl rfl (by congr 1; funext q; unfold row9 updI; (repeat' split) <;> first | rfl | omega)
    · refine Go_aload_n (pc := 39) dX3_follow_39 rfl (by decide) rfl ?_
      refine Go_aload_n (pc := 40) dX3_follow_40 rfl (by decide) rfl ?_
      refine Go_geti (pc := 41) (z := p) dX3_follow_41 fo_X3_9 (by decide) rfl rfl (show (updI (updI (updI (updI b 0 p) 1 0) 2 0) 3 o) 0 = p from (updI_n (by decide)).trans ((updI_n (by decide)).trans ((updI_n (by decide)).trans (updI_s _ _ _)))) ?_
      refine Go_invS (pc := 44) (y := yX3_kindAt) (avs := [.inr 7, .inl p]) (rest := []) (x := .inl 4)  (d' := d - 1) dX3_follow_44 ln_X3_30 mo_X3_kindAt so_X3_kindAt rfl rfl rfl (Nat.le_of_ble_eq_true rfl) (by omega) (Nat.le_of_ble_eq_true rfl) rfl (Go_v (congrArg (fun z : Int => (some (.inl z) : Option MV)) hk) rfl (s_X3_kindAt (by omega) h (by first | omega | (simp only [Nat.reduceAdd, setR_s]; omega) | (simp only [setR, Nat.reduceEqDiff, reduceIte]; omega)) (by first | omega | (simp only [Nat.reduceAdd, setR_s]; omega) | (simp only [setR, Nat.reduceEqDiff, reduceIte]; omega)))) ?_
      refine Go_istore (pc := 47) (L' := [some (.inr 9), some (.inr 7), some (.inr 3), some (.inl t), some (.inl 4)]) dX3_follow_47 (by decide) rfl ?_
      refine Go_aload_n (pc := 49) dX3_follow_49 rfl (by decide) rfl ?_
      refine Go_aload_n (pc := 50) dX3_follow_50 rfl (by decide) rfl ?_
      refine Go_aload_n (pc := 51) dX3_follow_51 rfl (by decide) rfl ?_
      refine Go_iload (pc := 52) dX3_follow_52 rfl ?_
      refine Go_invV (pc := 54) (y := yX3_checkForm) (avs := [.inr 7, .inl 4]) (k := 9) (rest := [.inr 9]) (x := .inl 0)  (d' := d - 1) dX3_follow_54 ln_X3_34 mo_X3_checkForm vo_X3_checkForm rfl (rc_9) rfl rfl (Nat.le_of_ble_eq_true rfl) (by omega) (Nat.le_of_ble_eq_true rfl) rfl (s_X3_checkForm_ok_4 (p := p) (by omega) h (by first | omega | (simp only [Nat.reduceAdd, setR_s]; omega) | (simp only [setR, Nat.reduceEqDiff, reduceIte]; omega)) (by first | omega | (simp only [Nat.reduceAdd, setR_s]; omega) | (simp only [setR, Nat.reduceEqDiff, reduceIte]; omega)) (show (updI (updI (updI (updI b 0 p) 1 0) 2 0) 3 o) 0 = p from (updI_n (by decide)).trans ((updI_n (by decide)).trans ((updI_n (by decide)).trans (updI_s _ _ _)))) hb) ?_
      refine Go_puti (pc := 57) dX3_follow_57 fw_X3_15 (by decide) rfl rfl ?_
      refine Go_M (M1 := setR (setR M 4 g) 9 (updI (updI (updI (updI (updI b 0 p) 1 0) 2 0) 3 o) 1 0)) (setR_top _ _ _ _ _) ?_
      refine Go_aload_n (pc := 60) dX3_follow_60 rfl (by decide) rfl ?_
      refine Go_geti (pc := 61) (z := 0) dX3_follow_61 fo_X3_15 (by decide) rfl rfl (show (updI (updI (updI (updI (updI b 0 p) 1 0) 2 0) 3 o) 1 0) 1 = 0 from updI_s _ _ _) ?_
      refine Go_if_ne (pc := 64) (tgt := 82) dX3_follow_64 (by decide) (by decide) (fun q => absurd q (by decide)) (fun _ => ?_)
      refine Go_aload_n (pc := 67) dX3_follow_67 rfl (by decide) rfl ?_
      refine Go_aload_n (pc := 68) dX3_follow_68 rfl (by decide) rfl ?_
      refine Go_aload_n (pc := 69) dX3_follow_69 rfl (by decide) rfl ?_
      refine Go_aload_n (pc := 70) dX3_follow_70 rfl (by decide) rfl ?_
      refine Go_iload (pc := 71) dX3_follow_71 rfl ?_
      refine Go_invV (pc := 73) (y := yX3_doOrder) (avs := [.inr 7, .inr 3, .inl 4]) (k := 9) (rest := [.inr 9]) (x := .inl ((odA g 4 (dgV (M 8) (M 7 1) (p + 4 + 1)) (dgV (M 8) (M 7 1) (p + 4 + 3))).1))  (d' := d - 1) dX3_follow_73 ln_X3_37 mo_X3_doOrder vo_X3_doOrder rfl (rc_9) rfl rfl (Nat.le_of_ble_eq_true rfl) (by omega) (Nat.le_of_ble_eq_true rfl) rfl (s_X3_doOrder_4 (p := p) (by omega) h hW (by first | omega | (simp only [Nat.reduceAdd, setR_s]; omega) | (simp only [setR, Nat.reduceEqDiff, reduceIte]; omega)) (by first | omega | (simp only [Nat.reduceAdd, setR_s]; omega) | (simp only [setR, Nat.reduceEqDiff, reduceIte]; omega)) (show (updI (updI (updI (updI (updI b 0 p) 1 0) 2 0) 3 o) 1 0) 0 = p from (updI_n (by decide)).trans ((updI_n (by decide)).trans ((updI_n (by decide)).trans ((updI_n (by decide)).trans (updI_s _ _ _)))))) ?_
      refine Go_M (M1 := setR (setR M 9 (updI (updI (updI (updI (updI b 0 p) 1 0) 2 0) 3 o) 1 0)) 4 ((odA g 4 (dgV (M 8) (M 7 1) (p + 4 + 1)) (dgV (M 8) (M 7 1) (p + 4 + 3))).2)) (by funext q; simp only [setR]; (repeat' split) <;> first | rfl | omega | simp_all) ?_
      refine Go_invS (pc := 76) (y := yX3_reasonOf) (avs := [.inl ((odA g 4 (dgV (M 8) (M 7 1) (p + 4 + 1)) (dgV (M 8) (M 7 1) (p + 4 + 3))).1)]) (rest := [.inr 9]) (x := .inl (rsn ((odA g 4 (dgV (M 8) (M 7 1) (p + 4 + 1)) (dgV (M 8) (M 7 1) (p + 4 + 3))).1)))  (d' := d - 1) dX3_follow_76 ln_X3_41 mo_X3_reasonOf so_X3_reasonOf rfl rfl rfl (Nat.le_of_ble_eq_true rfl) (by omega) (Nat.le_of_ble_eq_true rfl) rfl (s_X3_reasonOf (by omega) hi) ?_
      refine Go_puti (pc := 79) dX3_follow_79 fw_X3_15 (by decide) rfl rfl ?_
      refine Go_M (M1 := setR (setR M 4 ((odA g 4 (dgV (M 8) (M 7 1) (p + 4 + 1)) (dgV (M 8) (M 7 1) (p + 4 + 3))).2)) 9 (updI (updI (updI (updI (updI (updI b 0 p) 1 0) 2 0) 3 o) 1 0) 1 (rsn ((odA g 4 (dgV (M 8) (M 7 1) (p + 4 + 1)) (dgV (M 8) (M 7 1) (p + 4 + 3))).1)))) (by funext q; simp only [setR]; (repeat' split) <;> first | rfl | omega | simp_all) ?_
      refine Go_aload_n (pc := 82) dX3_follow_82 rfl (by decide) rfl ?_
      refine Go_geti (pc := 83) (z := rsn ((odA g 4 (dgV (M 8) (M 7 1) (p + 4 + 1)) (dgV (M 8) (M 7 1) (p + 4 + 3))).1)) dX3_follow_83 fo_X3_15 (by decide) rfl rfl (show (updI (updI (updI (updI (updI (updI b 0 p) 1 0) 2 0) 3 o) 1 0) 1 (rsn ((odA g 4 (dgV (M 8) (M 7 1) (p + 4 + 1)) (dgV (M 8) (M 7 1) (p + 4 + 3))).1))) 1 = (rsn ((odA g 4 (dgV (M 8) (M 7 1) (p + 4 + 1)) (dgV (M 8) (M 7 1) (p + 4 + 3))).1)) from updI_s _ _ _) ?_
      refine Go_if_eq (pc := 86) (tgt := 90) dX3_follow_86 (by decide) (by omega) (fun c86 => ?_) (fun c86 => ?_)
      · exfalso; omega
      · first | (exfalso; omega) | exact Go_return (pc := 89) dX3_follow_89 rfl rfl (by congr 1; funext q; unfold row9 updI; (repeat' split) <;> first | rfl | omega)
theorem follow_ok_4 {d : Nat} (hd : 9 ≤ d) {p t o : Int} {g b : Int → Int} {x : Option MV} {M M' : gMem} (hW : Wf g) (h : TxOk (M 8) (M 7 1)) (p0 : 0 ≤ p) (p1 : p < M 7 1) (t1 : 0 ≤ t ∧ t < 60) (hk : kdF (M 8) (M 7 1) p = 4) (hb : brF (M 8) (M 7 1) p 4 = -1) {A : Int × (Int → Int)} (hA : A = odA g 4 (dgV (M 8) (M 7 1) (p + 4 + 1)) (dgV (M 8) (M 7 1) (p + 4 + 3))) (hr : rsn A.1 = 0) (kk : ∀ y : Option MV, Go d RX3 cX3_follow 5 none 22 [some (.inr 9), some (.inr 7), some (.inr 3), some (.inl (t + 1)), y] [] (setR (setR M 4 A.2) 9 (row9 b (p + 7) 0 0 (o + 1))) none M') : Go d RX3 cX3_follow 5 none 22 [some (.inr 9), some (.inr 7), some (.inr 3), some (.inl t), x] [] (setR (setR M 4 g) 9 (row9 b p 0 0 o)) none M' := by
  have hn := h.1
  have hi := odA_r hW 4 (dgV (M 8) (M 7 1) (p + 4 + 1)) (dgV (M 8) (M 7 1) (p + 4 + 3))
  subst hA
  refine Go_iload_n (pc := 22) dX3_follow_22 rfl rfl ?_
  refine Go_bipush (pc := 23) dX3_follow_23 (by decide) (by decide) ?_
  refine Go_icmp_ge (pc := 25) (tgt := 120) dX3_follow_25 (by decide) (by omega) (by decide) (fun c25 => ?_) (fun c25 => ?_)
  · exfalso; omega
  · refine Go_aload_n (pc := 28) dX3_follow_28 rfl (by decide) rfl ?_
    refine Go_geti (pc := 29) (z := p) dX3_follow_29 fo_X3_9 (by decide) rfl rfl (show (updI (updI (updI (updI b 0 p) 1 0) 2 0) 3 o) 0 = p from (updI_n (by decide)).trans ((updI_n (by decide)).trans ((updI_n (by decide)).trans (updI_s _ _ _)))) ?_
    refine Go_aload_n (pc := 32) dX3_follow_32 rfl (by decide) rfl ?_
    refine Go_invV (pc := 33) (y := yX5_length) (avs := []) (k := 7) (rest := [.inl p]) (x := .inl (M 7 1))  (d' := d - 1) dX3_follow_33 ln_X3_24 mo_X5_length vo_X5_length rfl (rc_7) rfl rfl (Nat.le_of_ble_eq_true rfl) (by omega) (Nat.le_of_ble_eq_true rfl) rfl (s_X5_length (by omega)) ?_
    refine Go_icmp_ge (pc := 36) (tgt := 120) dX3_follow_36 (by decide) (by omega) (by omega) (fun c36 => ?_) (fun c36 => ?_)
    · exfalso; omega
    · refine Go_aload_n (pc := 39) dX3_follow_39 rfl (by decide) rfl ?_
      refine Go_aload_n (pc := 40) dX3_follow_40 rfl (by decide) rfl ?_
      refine Go_geti (pc := 41) (z := p) dX3_follow_41 fo_X3_9 (by decide) rfl rfl (show (updI (updI (updI (updI b 0 p) 1 0) 2 0) 3 o) 0 = p from (updI_n (by decide)).trans ((updI_n (by decide)).trans ((updI_n (by decide)).trans (updI_s _ _ _)))) ?_
      refine Go_invS (pc := 44) (y := yX3_kindAt) (avs := [.inr 7, .inl p]) (rest := []) (x := .inl 4)  (d' := d - 1) dX3_follow_44 ln_X3_30 mo_X3_kindAt so_X3_kindAt rfl rfl rfl (Nat.le_of_ble_eq_true rfl) (by omega) (Nat.le_of_ble_eq_true rfl) rfl (Go_v (congrArg (fun z : Int => (some (.inl z) : Option MV)) hk) rfl (s_X3_kindAt (by omega) h (by first | omega | (simp only [Nat.reduceAdd, setR_s]; omega) | (simp only [setR, Nat.reduceEqDiff, reduceIte]; omega)) (by first | omega | (simp only [Nat.reduceAdd, setR_s]; omega) | (simp only [setR, Nat.reduceEqDiff, reduceIte]; omega)))) ?_
      refine Go_istore (pc := 47) (L' := [some (.inr 9), some (.inr 7), some (.inr 3), some (.inl t), some (.inl 4)]) dX3_follow_47 (by decide) rfl ?_
      refine Go_aload_n (pc := 49) dX3_follow_49 rfl (by decide) rfl ?_
      refine Go_aload_n (pc := 50) dX3_follow_50 rfl (by decide) rfl ?_
      refine Go_aload_n (pc := 51) dX3_follow_51 rfl (by decide) rfl ?_
      refine Go_iload (pc := 52) dX3_follow_52 rfl ?_
      refine Go_invV (pc := 54) (y := yX3_checkForm) (avs := [.inr 7, .inl 4]) (k := 9) (rest := [.inr 9]) (x := .inl 0)  (d' := d - 1) dX3_follow_54 ln_X3_34 mo_X3_checkForm vo_X3_checkForm rfl (rc_9) rfl rfl (Nat.le_of_ble_eq_true rfl) (by omega) (Nat.le_of_ble_eq_true rfl) rfl (s_X3_checkForm_ok_4 (p := p) (by omega) h (by first | omega | (simp only [Nat.reduceAdd, setR_s]; omega) | (simp only [setR, Nat.reduceEqDiff, reduceIte]; omega)) (by first | omega | (simp only [Nat.reduceAdd, setR_s]; omega) | (simp only [setR, Nat.reduceEqDiff, reduceIte]; omega)) (show (updI (updI (updI (updI b 0 p) 1 0) 2 0) 3 o) 0 = p from (updI_n (by decide)).trans ((updI_n (by decide)).trans ((updI_n (by decide)).trans (updI_s _ _ _)))) hb) ?_
      refine Go_puti (pc := 57) dX3_follow_57 fw_X3_15 (by decide) rfl rfl ?_
      refine Go_M (M1 := setR (setR M 4 g) 9 (updI (updI (updI (updI (updI b 0 p) 1 0) 2 0) 3 o) 1 0)) (setR_top _ _ _ _ _) ?_
      refine Go_aload_n (pc := 60) dX3_follow_60 rfl (by decide) rfl ?_
      refine Go_geti (pc := 61) (z := 0) dX3_follow_61 fo_X3_15 (by decide) rfl rfl (show (updI (updI (updI (updI (updI b 0 p) 1 0) 2 0) 3 o) 1 0) 1 = 0 from updI_s _ _ _) ?_
      refine Go_if_ne (pc := 64) (tgt := 82) dX3_follow_64 (by decide) (by decide) (fun q => absurd q (by decide)) (fun _ => ?_)
      refine Go_aload_n (pc := 67) dX3_follow_67 rfl (by decide) rfl ?_
      refine Go_aload_n (pc := 68) dX3_follow_68 rfl (by decide) rfl ?_
      refine Go_aload_n (pc := 69) dX3_follow_69 rfl (by decide) rfl ?_
      refine Go_aload_n (pc := 70) dX3_follow_70 rfl (by decide) rfl ?_
      refine Go_iload (pc := 71) dX3_follow_71 rfl ?_
      refine Go_invV (pc := 73) (y := yX3_doOrder) (avs := [.inr 7, .inr 3, .inl 4]) (k := 9) (rest := [.inr 9]) (x := .inl ((odA g 4 (dgV (M 8) (M 7 1) (p + 4 + 1)) (dgV (M 8) (M 7 1) (p + 4 + 3))).1))  (d' := d - 1) dX3_follow_73 ln_X3_37 mo_X3_doOrder vo_X3_doOrder rfl (rc_9) rfl rfl (Nat.le_of_ble_eq_true rfl) (by omega) (Nat.le_of_ble_eq_true rfl) rfl (s_X3_doOrder_4 (p := p) (by omega) h hW (by first | omega | (simp only [Nat.reduceAdd, setR_s]; omega) | (simp only [setR, Nat.reduceEqDiff, reduceIte]; omega)) (by first | omega | (simp only [Nat.reduceAdd, setR_s]; omega) | (simp only [setR, Nat.reduceEqDiff, reduceIte]; omega)) (show (updI (updI (updI (updI (updI b 0 p) 1 0) 2 0) 3 o) 1 0) 0 = p from (updI_n (by decide)).trans ((updI_n (by decide)).trans ((updI_n (by decide)).trans ((updI_n (by decide)).trans (updI_s _ _ _)))))) ?_
      refine Go_M (M1 := setR (setR M 9 (updI (updI (updI (updI (updI b 0 p) 1 0) 2 0) 3 o) 1 0)) 4 ((odA g 4 (dgV (M 8) (M 7 1) (p + 4 + 1)) (dgV (M 8) (M 7 1) (p + 4 + 3))).2)) (by funext q; simp only [setR]; (repeat' split) <;> first | rfl | omega | simp_all) ?_
      refine Go_invS (pc := 76) (y := yX3_reasonOf) (avs := [.inl ((odA g 4 (dgV (M 8) (M 7 1) (p + 4 + 1)) (dgV (M 8) (M 7 1) (p + 4 + 3))).1)]) (rest := [.inr 9]) (x := .inl 0)  (d' := d - 1) dX3_follow_76 ln_X3_41 mo_X3_reasonOf so_X3_reasonOf rfl rfl rfl (Nat.le_of_ble_eq_true rfl) (by omega) (Nat.le_of_ble_eq_true rfl) rfl (Go_v (congrArg (fun z : Int => (some (.inl z) : Option MV)) hr) rfl (s_X3_reasonOf (by omega) hi)) ?_
      refine Go_puti (pc := 79) dX3_follow_79 fw_X3_15 (by decide) rfl rfl ?_
      refine Go_M (M1 := setR (setR M 4 ((odA g 4 (dgV (M 8) (M 7 1) (p + 4 + 1)) (dgV (M 8) (M 7 1) (p + 4 + 3))).2)) 9 (updI (updI (updI (updI (updI (updI b 0 p) 1 0) 2 0) 3 o) 1 0) 1 0)) (by funext q; simp only [setR]; (repeat' split) <;> first | rfl | omega | simp_all) ?_
      refine Go_aload_n (pc := 82) dX3_follow_82 rfl (by decide) rfl ?_
      refine Go_geti (pc := 83) (z := 0) dX3_follow_83 fo_X3_15 (by decide) rfl rfl (show (updI (updI (updI (updI (updI (updI b 0 p) 1 0) 2 0) 3 o) 1 0) 1 0) 1 = 0 from updI_s _ _ _) ?_
      refine Go_if_eq (pc := 86) (tgt := 90) dX3_follow_86 (by decide) (by decide) (fun _ => ?_) (fun q => absurd q (by decide))
      refine Go_aload_n (pc := 90) dX3_follow_90 rfl (by decide) rfl ?_
      refine Go_dup (pc := 91) dX3_follow_91 ?_
      refine Go_geti (pc := 92) (z := p) dX3_follow_92 fo_X3_9 (by decide) rfl rfl (show (updI (updI (updI (updI (updI (updI b 0 p) 1 0) 2 0) 3 o) 1 0) 1 0) 0 = p from (updI_n (by decide)).trans ((updI_n (by decide)).trans ((updI_n (by decide)).trans ((updI_n (by decide)).trans ((updI_n (by decide)).trans (updI_s _ _ _)))))) ?_
      refine Go_iload (pc := 95) dX3_follow_95 rfl ?_
      refine Go_invS (pc := 97) (y := yX3_orderLength) (avs := [.inl 4]) (rest := [.inl p, .inr 9]) (x := .inl 7)  (d' := d - 1) dX3_follow_97 ln_X3_45 mo_X3_orderLength so_X3_orderLength rfl rfl rfl (Nat.le_of_ble_eq_true rfl) (by omega) (Nat.le_of_ble_eq_true rfl) rfl (s_X3_orderLength_4 (by omega)) ?_
      refine Go_iadd (pc := 100) dX3_follow_100 ?_
      refine Go_puti (pc := 101) dX3_follow_101 fw_X3_9 (by decide) rfl rfl ?_
      refine Go_M (M1 := setR (setR M 4 ((odA g 4 (dgV (M 8) (M 7 1) (p + 4 + 1)) (dgV (M 8) (M 7 1) (p + 4 + 3))).2)) 9 (updI (updI (updI (updI (updI (updI (updI b 0 p) 1 0) 2 0) 3 o) 1 0) 1 0) 0 (p + 7))) (setR_top _ _ _ _ _) ?_
      refine Go_aload_n (pc := 104) dX3_follow_104 rfl (by decide) rfl ?_
      refine Go_dup (pc := 105) dX3_follow_105 ?_
      refine Go_geti (pc := 106) (z := o) dX3_follow_106 fo_X3_21 (by decide) rfl rfl (show (updI (updI (updI (updI (updI (updI (updI b 0 p) 1 0) 2 0) 3 o) 1 0) 1 0) 0 (p + 7)) 3 = o from (updI_n (by decide)).trans ((updI_n (by decide)).trans ((updI_n (by decide)).trans (updI_s _ _ _)))) ?_
      refine Go_iconst (pc := 109) dX3_follow_109 ?_
      refine Go_iadd (pc := 110) dX3_follow_110 ?_
      refine Go_puti (pc := 111) dX3_follow_111 fw_X3_21 (by decide) rfl rfl ?_
      refine Go_M (M1 := setR (setR M 4 ((odA g 4 (dgV (M 8) (M 7 1) (p + 4 + 1)) (dgV (M 8) (M 7 1) (p + 4 + 3))).2)) 9 (updI (updI (updI (updI (updI (updI (updI (updI b 0 p) 1 0) 2 0) 3 o) 1 0) 1 0) 0 (p + 7)) 3 (o + 1))) (setR_top _ _ _ _ _) ?_
      refine Go_iinc (pc := 114) (L' := [some (.inr 9), some (.inr 7), some (.inr 3), some (.inl (t + 1)), some (.inl 4)]) dX3_follow_114 rfl (by decide) rfl ?_
      refine Go_goto (pc := 117) (tgt := 22) dX3_follow_117 (by decide) ?_
      exact Go_M (by congr 1; funext q; unfold row9 updI; (repeat' split) <;> first | rfl | omega) (kk _)
theorem flN_end {f : Int → Int} {n p o : Int} {g : Int → Int} (m : Nat) (h : n ≤ p) : flN f n m p g o = (0, p, 0, o, g) := by
  cases m with
  | zero => rfl
  | succ m => exact if_pos h
theorem flN_form {f : Int → Int} {n p o : Int} {g : Int → Int} (m : Nat) (h : ¬ n ≤ p) (hb : ¬ brF f n p (kdF f n p) = -1) : flN f n (m + 1) p g o = (1, p, brF f n p (kdF f n p), o, g) := (if_neg h).trans (if_neg hb)
theorem flN_no {f : Int → Int} {n p o : Int} {g : Int → Int} (m : Nat) (h : ¬ n ≤ p) (hb : brF f n p (kdF f n p) = -1) (hr : ¬ rsn (odX f n p g).1 = 0) : flN f n (m + 1) p g o = (rsn (odX f n p g).1, p, 0, o, (odX f n p g).2) := (if_neg h).trans ((if_pos hb).trans (if_neg hr))
theorem flN_ok {f : Int → Int} {n p o : Int} {g : Int → Int} (m : Nat) (h : ¬ n ≤ p) (hb : brF f n p (kdF f n p) = -1) (hr : rsn (odX f n p g).1 = 0) : flN f n (m + 1) p g o = flN f n m (p + olF (kdF f n p)) (odX f n p g).2 (o + 1) := (if_neg h).trans ((if_pos hb).trans (if_pos hr))
abbrev flM (M : gMem) (b : Int → Int) (R : Int × Int × Int × Int × (Int → Int)) : gMem := setR (setR M 4 R.2.2.2.2) 9 (row9 b R.2.1 R.1 R.2.2.1 R.2.2.2.1)
theorem follow_all {d : Nat} (hd : 9 ≤ d) {b : Int → Int} {M : gMem} (h : TxOk (M 8) (M 7 1)) : ∀ (m : Nat) (p t o : Int) (g : Int → Int) (x : Option MV), Wf g → 0 ≤ p → p ≤ 1000 → M 7 1 - p ≤ m → 0 ≤ t → t + m = 60 → Go d RX3 cX3_follow 5 none 22 [some (.inr 9), some (.inr 7), some (.inr 3), some (.inl t), x] [] (setR (setR M 4 g) 9 (row9 b p 0 0 o)) none (flM M b (flN (M 8) (M 7 1) m p g o)) := by
  intro m
  induction m with
  | zero =>
    intro p t o g x hW p0 p1 hm t0 ht
    exact follow_end hd h p0 p1 (by omega) (by omega)
  | succ m IH =>
    intro p t o g x hW p0 p1 hm t0 ht
    have hn := h.1
    by_cases c : M 7 1 ≤ p
    · rw [flN_end _ c]
      exact follow_end hd h p0 p1 (by omega) (by omega)
    by_cases hb : brF (M 8) (M 7 1) p (kdF (M 8) (M 7 1) p) = -1
    · by_cases hr : rsn (odX (M 8) (M 7 1) p g).1 = 0
      · rw [flN_ok m c hb hr]
        have hl : 7 ≤ olF (kdF (M 8) (M 7 1) p) ∧ olF (kdF (M 8) (M 7 1) p) ≤ 9 := by
          unfold olF
          (repeat' split) <;> omega
        have kk := fun y => IH (p + olF (kdF (M 8) (M 7 1) p)) (t + 1) (o + 1) (odX (M 8) (M 7 1) p g).2 y (odX_W hW) (by omega) (by omega) (by omega) (by omega) (by omega)
        rcases kd_cases (M 8) (M 7 1) p with hk | hk | hk | hk | hk | hk
        · have ex : odX (M 8) (M 7 1) p g = odA g 0 (dgV (M 8) (M 7 1) (p + 4 + 1)) (dgV (M 8) (M 7 1) (p + 4 + 3)) := by
            unfold odX
            rw [hk]
            rfl
          rw [hk] at hb
          rw [hk] at kk ⊢
          exact follow_ok_0 hd hW h p0 (by omega) (by omega) hk hb ex hr kk
        · have ex : odX (M 8) (M 7 1) p g = odA g 1 (dgV (M 8) (M 7 1) (p + 4 + 1)) (dgV (M 8) (M 7 1) (p + 4 + 3)) := by
            unfold odX
            rw [hk]
            rfl
          rw [hk] at hb
          rw [hk] at kk ⊢
          exact follow_ok_1 hd hW h p0 (by omega) (by omega) hk hb ex hr kk
        · have ex : odX (M 8) (M 7 1) p g = odA g 2 (dgV (M 8) (M 7 1) (p + 5 + 1)) (dgV (M 8) (M 7 1) (p + 5 + 3)) := by
            unfold odX
            rw [hk]
            rfl
          rw [hk] at hb
          rw [hk] at kk ⊢
          exact follow_ok_2 hd hW h p0 (by omega) (by omega) hk hb ex hr kk
        · have ex : odX (M 8) (M 7 1) p g = odA g 3 (dgV (M 8) (M 7 1) (p + 4 + 1)) (dgV (M 8) (M 7 1) (p + 4 + 3)) := by
            unfold odX
            rw [hk]
            rfl
          rw [hk] at hb
          rw [hk] at kk ⊢
          exact follow_ok_3 hd hW h p0 (by omega) (by omega) hk hb ex hr kk
        · have ex : odX (M 8) (M 7 1) p g = odA g 4 (dgV (M 8) (M 7 1) (p + 4 + 1)) (dgV (M 8) (M 7 1) (p + 4 + 3)) := by
            unfold odX
            rw [hk]
            rfl
          rw [hk] at hb
          rw [hk] at kk ⊢
          exact follow_ok_4 hd hW h p0 (by omega) (by omega) hk hb ex hr kk
        · rw [hk] at hb
          exact absurd hb (show ¬ (0 : Int) = -1 by decide)
      · rw [flN_no m c hb hr]
        rcases kd_cases (M 8) (M 7 1) p with hk | hk | hk | hk | hk | hk
        · have ex : odX (M 8) (M 7 1) p g = odA g 0 (dgV (M 8) (M 7 1) (p + 4 + 1)) (dgV (M 8) (M 7 1) (p + 4 + 3)) := by
            unfold odX
            rw [hk]
            rfl
          rw [hk] at hb
          exact follow_no_0 hd hW h p0 (by omega) (by omega) hk hb ex hr
        · have ex : odX (M 8) (M 7 1) p g = odA g 1 (dgV (M 8) (M 7 1) (p + 4 + 1)) (dgV (M 8) (M 7 1) (p + 4 + 3)) := by
            unfold odX
            rw [hk]
            rfl
          rw [hk] at hb
          exact follow_no_1 hd hW h p0 (by omega) (by omega) hk hb ex hr
        · have ex : odX (M 8) (M 7 1) p g = odA g 2 (dgV (M 8) (M 7 1) (p + 5 + 1)) (dgV (M 8) (M 7 1) (p + 5 + 3)) := by
            unfold odX
            rw [hk]
            rfl
          rw [hk] at hb
          exact follow_no_2 hd hW h p0 (by omega) (by omega) hk hb ex hr
        · have ex : odX (M 8) (M 7 1) p g = odA g 3 (dgV (M 8) (M 7 1) (p + 4 + 1)) (dgV (M 8) (M 7 1) (p + 4 + 3)) := by
            unfold odX
            rw [hk]
            rfl
          rw [hk] at hb
          exact follow_no_3 hd hW h p0 (by omega) (by omega) hk hb ex hr
        · have ex : odX (M 8) (M 7 1) p g = odA g 4 (dgV (M 8) (M 7 1) (p + 4 + 1)) (dgV (M 8) (M 7 1) (p + 4 + 3)) := by
            unfold odX
            rw [hk]
            rfl
          rw [hk] at hb
          exact follow_no_4 hd hW h p0 (by omega) (by omega) hk hb ex hr
        · rw [hk] at hb
          exact absurd hb (show ¬ (0 : Int) = -1 by decide)
    · rw [flN_form m c hb]
      rcases kd_cases (M 8) (M 7 1) p with hk | hk | hk | hk | hk | hk
      · rw [hk] at hb ⊢
        exact follow_form_0 hd h p0 (by omega) (by omega) hk hb
      · rw [hk] at hb ⊢
        exact follow_form_1 hd h p0 (by omega) (by omega) hk hb
      · rw [hk] at hb ⊢
        exact follow_form_2 hd h p0 (by omega) (by omega) hk hb
      · rw [hk] at hb ⊢
        exact follow_form_3 hd h p0 (by omega) (by omega) hk hb
      · rw [hk] at hb ⊢
        exact follow_form_4 hd h p0 (by omega) (by omega) hk hb
      · rw [hk] at hb ⊢
        exact follow_form_5 hd h p0 (by omega) (by omega) hk hb
theorem s_X3_follow {d : Nat} (hd : 9 ≤ d) {M : gMem} (hW : Wf (M 4)) (h : TxOk (M 8) (M 7 1)) : Go d RX3 cX3_follow 5 none 0 [some (.inr 9), some (.inr 7), some (.inr 3), none, none] [] M none (flM M (M 9) (flN (M 8) (M 7 1) 60 0 (M 4) 0)) := by
  have hn := h.1
  have k := follow_all hd (b := M 9) h 60 0 0 0 (M 4) none hW (Int.le_refl 0) (by decide) (by omega) (Int.le_refl 0) rfl
  rw [setR_id] at k
  refine Go_aload_n (pc := 0) dX3_follow_0 rfl (by decide) rfl ?_
  refine Go_iconst (pc := 1) dX3_follow_1 ?_
  refine Go_puti (pc := 2) dX3_follow_2 fw_X3_9 (by decide) rfl rfl ?_
  refine Go_M (M1 := setR M 9 (updI (M 9) 0 0)) rfl ?_
  refine Go_aload_n (pc := 5) dX3_follow_5 rfl (by decide) rfl ?_
  refine Go_iconst (pc := 6) dX3_follow_6 ?_
  refine Go_puti (pc := 7) dX3_follow_7 fw_X3_15 (by decide) rfl rfl ?_
  refine Go_M (M1 := setR M 9 (updI (updI (M 9) 0 0) 1 0)) (setR_top _ _ _ _ _) ?_
  refine Go_aload_n (pc := 10) dX3_follow_10 rfl (by decide) rfl ?_
  refine Go_iconst (pc := 11) dX3_follow_11 ?_
  refine Go_puti (pc := 12) dX3_follow_12 fw_X3_18 (by decide) rfl rfl ?_
  refine Go_M (M1 := setR M 9 (updI (updI (updI (M 9) 0 0) 1 0) 2 0)) (setR_top _ _ _ _ _) ?_
  refine Go_aload_n (pc := 15) dX3_follow_15 rfl (by decide) rfl ?_
  refine Go_iconst (pc := 16) dX3_follow_16 ?_
  refine Go_puti (pc := 17) dX3_follow_17 fw_X3_21 (by decide) rfl rfl ?_
  refine Go_M (M1 := setR M 9 (updI (updI (updI (updI (M 9) 0 0) 1 0) 2 0) 3 0)) (setR_top _ _ _ _ _) ?_
  refine Go_iconst (pc := 20) dX3_follow_20 ?_
  refine Go_istore_n (pc := 21) (L' := [some (.inr 9), some (.inr 7), some (.inr 3), some (.inl 0), none]) dX3_follow_21 rfl (by decide) rfl ?_
  exact k
