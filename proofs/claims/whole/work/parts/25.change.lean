/-! rows that are changed, and what holds of them then -/
def rngS (c v : Int) : Prop := (c = 0 → 0 ≤ v ∧ v ≤ 9) ∧ (c = 1 → 0 ≤ v ∧ v ≤ 23) ∧ (c = 2 → 0 ≤ v ∧ v ≤ 36) ∧ (c = 3 → 0 ≤ v ∧ v ≤ 3) ∧ (c = 6 → -1 ≤ v ∧ v ≤ 9)
theorem Wf.uS {f : Int → Int} (h : Wf f) {k c v : Int} (k0 : 0 ≤ k) (k1 : k < f 0) (c0 : 0 ≤ c) (c1 : c < 7) (hv : rngS c v) (h3 : c = 3 → k < f 0 - 1 ∨ v = 0) : Wf (updI f (7 + 7 * k + c) v) := by
  have n := h.n
  have e : ∀ i, i < 7 → updI f (7 + 7 * k + c) v i = f i := fun i hi => updI_n (by omega)
  obtain ⟨v0, v1, v2, v3, v6⟩ := hv
  refine ⟨by rw [e 0 (by decide)]; exact h.n, by rw [e 1 (by decide)]; exact h.t, by rw [e 2 (by decide)]; exact h.hr, by rw [e 3 (by decide)]; exact h.hs, by rw [e 5 (by decide)]; exact h.df, by rw [e 6 (by decide)]; exact h.lw, ?_, ?_, ?_, ?_, ?_, ?_⟩
  · intro j a b
    obtain ⟨g0, g1, g2, g3, g6⟩ := h.2.2.2.2.2.2.1 j a b
    refine ⟨?_, ?_, ?_, ?_, ?_⟩ <;> unfold updI <;> split <;> omega
  · intro j a b
    obtain ⟨g0, g1⟩ := h.2.2.2.2.2.2.2.1 j a b
    refine ⟨?_, ?_⟩ <;> unfold updI <;> split <;> omega
  · intro j a b d
    rw [e 0 (by decide)] at a
    have g := h.2.2.2.2.2.2.2.2.1 j a b d
    unfold updI
    split
    · have := h3 (by omega); omega
    · exact g
  · intro j i a b d1 d2
    rw [e 0 (by decide)] at a
    have g := h.2.2.2.2.2.2.2.2.2.1 j i a b d1 d2
    unfold updI
    split
    · omega
    · exact g
  · intro j i a b d1 d2
    rw [e 1 (by decide)] at a
    have g := h.2.2.2.2.2.2.2.2.2.2.1 j i a b d1 d2
    have t := h.t
    unfold updI
    split
    · omega
    · exact g
  · intro q hq
    have g := h.oz hq
    unfold updI
    split
    · omega
    · exact g
def rngN (c v : Int) : Prop := (c = 2 → 0 ≤ v ∧ v ≤ 23) ∧ (c = 3 → 0 ≤ v ∧ v ≤ 20000) ∧ (c = 5 → 1 ≤ v ∧ v ≤ 9) ∧ (c = 6 → 0 ≤ v ∧ v ≤ 36)
theorem Wf.uN {f : Int → Int} (h : Wf f) {c v : Int} (c0 : 2 ≤ c) (c1 : c < 7) (hv : rngN c v) : Wf (updI f c v) := by
  have e : ∀ i, 7 ≤ i → updI f c v i = f i := fun i hi => updI_n (by omega)
  have e0 : updI f c v 0 = f 0 := updI_n (by omega)
  have e1 : updI f c v 1 = f 1 := updI_n (by omega)
  obtain ⟨v2, v3, v5, v6⟩ := hv
  have h2 := h.hr
  have h3 := h.hs
  have h5 := h.df
  have h6 := h.lw
  have hn := h.n
  have ht := h.t
  refine ⟨by rw [e0]; exact h.n, by rw [e1]; exact h.t, by unfold updI; split <;> omega, by unfold updI; split <;> omega, by unfold updI; split <;> omega, by unfold updI; split <;> omega, ?_, ?_, ?_, ?_, ?_, ?_⟩
  · intro j a b
    rw [e _ (by omega), e _ (by omega), e _ (by omega), e _ (by omega), e _ (by omega)]
    exact h.2.2.2.2.2.2.1 j a b
  · intro j a b
    rw [e _ (by omega), e _ (by omega)]
    exact h.2.2.2.2.2.2.2.1 j a b
  · intro j a b d
    rw [e0] at a
    rw [e _ (by omega)]
    exact h.2.2.2.2.2.2.2.2.1 j a b d
  · intro j i a b d1 d2
    rw [e0] at a
    rw [e _ (by omega)]
    exact h.2.2.2.2.2.2.2.2.2.1 j i a b d1 d2
  · intro j i a b d1 d2
    rw [e1] at a
    rw [e _ (by omega)]
    exact h.2.2.2.2.2.2.2.2.2.2.1 j i a b d1 d2
  · intro q hq
    rw [updI_n (by omega)]
    exact h.oz hq
/-- the cells of strings that bear no bound -/
theorem Wf.uT {f : Int → Int} (h : Wf f) {j c v : Int} (j0 : 0 ≤ j) (j1 : j < f 1) (c0 : 2 ≤ c) (c1 : c < 4) : Wf (updI f (63 + 4 * j + c) v) := by
  have t := h.t
  have n := h.n
  have e : ∀ i, i < 63 → updI f (63 + 4 * j + c) v i = f i := fun i hi => updI_n (by omega)
  refine ⟨by rw [e 0 (by decide)]; exact h.n, by rw [e 1 (by decide)]; exact h.t, by rw [e 2 (by decide)]; exact h.hr, by rw [e 3 (by decide)]; exact h.hs, by rw [e 5 (by decide)]; exact h.df, by rw [e 6 (by decide)]; exact h.lw, ?_, ?_, ?_, ?_, ?_, ?_⟩
  · intro k a b
    rw [e _ (by omega), e _ (by omega), e _ (by omega), e _ (by omega), e _ (by omega)]
    exact h.2.2.2.2.2.2.1 k a b
  · intro i a b
    rw [updI_n (by omega), updI_n (by omega)]
    exact h.2.2.2.2.2.2.2.1 i a b
  · intro k a b d
    rw [e 0 (by decide)] at a
    rw [e _ (by omega)]
    exact h.2.2.2.2.2.2.2.2.1 k a b d
  · intro k i a b d1 d2
    rw [e 0 (by decide)] at a
    rw [e _ (by omega)]
    exact h.2.2.2.2.2.2.2.2.2.1 k i a b d1 d2
  · intro k i a b d1 d2
    rw [e 1 (by decide)] at a
    rw [updI_n (by omega)]
    exact h.2.2.2.2.2.2.2.2.2.2.1 k i a b d1 d2
  · intro q hq
    rw [updI_n (by omega)]
    exact h.oz hq
-- what the changes do to a row: the answer, the row then (an error leaves it)
def shadeR (f : Int → Int) (h w : Int) : Int × (Int → Int) :=
  if ¬ (0 ≤ h ∧ h ≤ 23 ∧ 0 ≤ w ∧ w ≤ 36) then (-1000001, f) else if 8 ≤ f 0 then (-1000003, f)
  else (f 0, updI (updI (updI (updI f (7 + 7 * f 0 + 1) h) (7 + 7 * f 0 + 2) w) (7 + 7 * f 0 + 6) (-1)) 0 (f 0 + 1))
theorem shadeR_W {f : Int → Int} (hW : Wf f) (h w : Int) : Wf (shadeR f h w).2 := by
  unfold shadeR
  split
  · exact hW
  · split
    · exact hW
    · next c1 c2 =>
      have n := hW.n
      have t := hW.t
      show Wf (updI (updI (updI (updI f (7 + 7 * f 0 + 1) h) (7 + 7 * f 0 + 2) w) (7 + 7 * f 0 + 6) (-1)) 0 (f 0 + 1))
      generalize hN : f 0 = N at *
      generalize hg : updI (updI (updI (updI f (7 + 7 * N + 1) h) (7 + 7 * N + 2) w) (7 + 7 * N + 6) (-1)) 0 (N + 1) = g
      have g0 : g 0 = N + 1 := by rw [← hg, updI_s]
      have ga : g (7 + 7 * N + 1) = h := by rw [← hg, updI_n (by omega), updI_n (by omega), updI_n (by omega), updI_s]
      have gb : g (7 + 7 * N + 2) = w := by rw [← hg, updI_n (by omega), updI_n (by omega), updI_s]
      have gc : g (7 + 7 * N + 6) = -1 := by rw [← hg, updI_n (by omega), updI_s]
      have ge : ∀ q, q ≠ 0 → q ≠ 7 + 7 * N + 1 → q ≠ 7 + 7 * N + 2 → q ≠ 7 + 7 * N + 6 → g q = f q := fun q q0 q1 q2 q6 => by rw [← hg, updI_n q0, updI_n q6, updI_n q2, updI_n q1]
      have zz : ∀ c, 0 ≤ c → c < 7 → f (7 + 7 * N + c) = 0 := fun c a b => hW.2.2.2.2.2.2.2.2.2.1 N c (by omega) (by omega) a b
      refine ⟨by omega, by rw [ge 1 (by omega) (by omega) (by omega) (by omega)]; exact hW.t, by rw [ge 2 (by omega) (by omega) (by omega) (by omega)]; exact hW.hr, by rw [ge 3 (by omega) (by omega) (by omega) (by omega)]; exact hW.hs, by rw [ge 5 (by omega) (by omega) (by omega) (by omega)]; exact hW.df, by rw [ge 6 (by omega) (by omega) (by omega) (by omega)]; exact hW.lw, ?_, ?_, ?_, ?_, ?_, ?_⟩
      · intro j a b
        by_cases e : j = N
        · subst e
          rw [ga, gb, gc, ge _ (by omega) (by omega) (by omega) (by omega), ge (7 + 7 * j + 3) (by omega) (by omega) (by omega) (by omega), zz 0 (by decide) (by decide), zz 3 (by decide) (by decide)]
          omega
        · rw [ge _ (by omega) (by omega) (by omega) (by omega), ge (7 + 7 * j + 1) (by omega) (by omega) (by omega) (by omega), ge (7 + 7 * j + 2) (by omega) (by omega) (by omega) (by omega), ge (7 + 7 * j + 3) (by omega) (by omega) (by omega) (by omega), ge (7 + 7 * j + 6) (by omega) (by omega) (by omega) (by omega)]
          exact hW.2.2.2.2.2.2.1 j a b
      · intro j a b
        rw [ge _ (by omega) (by omega) (by omega) (by omega), ge (63 + 4 * j + 1) (by omega) (by omega) (by omega) (by omega)]
        exact hW.2.2.2.2.2.2.2.1 j a b
      · intro j a b d
        rw [ge _ (by omega) (by omega) (by omega) (by omega)]
        exact hW.2.2.2.2.2.2.2.2.1 j (by omega) b d
      · intro j i a b d1 d2
        rw [ge _ (by omega) (by omega) (by omega) (by omega)]
        exact hW.2.2.2.2.2.2.2.2.2.1 j i (by omega) b d1 d2
      · intro j i a b d1 d2
        have e1 : g 1 = f 1 := ge 1 (by omega) (by omega) (by omega) (by omega)
        rw [ge _ (by omega) (by omega) (by omega) (by omega)]
        exact hW.2.2.2.2.2.2.2.2.2.2.1 j i (by omega) b d1 d2
      · intro q hq
        rw [ge _ (by omega) (by omega) (by omega) (by omega)]
        exact hW.oz hq
def stringR (f : Int → Int) (u w : Int) : Int × (Int → Int) :=
  if ¬ (0 ≤ u ∧ u ≤ gshl 1 (f 0) - 1 ∧ 0 ≤ w ∧ w ≤ gshl 1 (f 0) - 1 ∧ gand u w = 0 ∧ ¬ gor u w = 0) then (-1000001, f) else if 4 ≤ f 1 then (-1000003, f)
  else (f 1, updI (updI (updI f (63 + 4 * f 1 + 0) u) (63 + 4 * f 1 + 1) w) 1 (f 1 + 1))
theorem stringR_W {f : Int → Int} (hW : Wf f) (u w : Int) : Wf (stringR f u w).2 := by
  unfold stringR
  split
  · exact hW
  · split
    · exact hW
    · next c1 c2 =>
      have n := hW.n
      have t := hW.t
      have hb := gshl1_r n.1 (show f 0 < 9 by omega)
      show Wf (updI (updI (updI f (63 + 4 * f 1 + 0) u) (63 + 4 * f 1 + 1) w) 1 (f 1 + 1))
      generalize hN : f 1 = N at *
      generalize hg : updI (updI (updI f (63 + 4 * N + 0) u) (63 + 4 * N + 1) w) 1 (N + 1) = g
      have g0 : g 1 = N + 1 := by rw [← hg, updI_s]
      have ga : g (63 + 4 * N + 0) = u := by rw [← hg, updI_n (by omega), updI_n (by omega), updI_s]
      have gb : g (63 + 4 * N + 1) = w := by rw [← hg, updI_n (by omega), updI_s]
      have ge : ∀ q, q ≠ 1 → q ≠ 63 + 4 * N + 0 → q ≠ 63 + 4 * N + 1 → g q = f q := fun q q0 q1 q2 => by rw [← hg, updI_n q0, updI_n q2, updI_n q1]
      have e0 : g 0 = f 0 := ge 0 (by omega) (by omega) (by omega)
      refine ⟨by rw [e0]; exact hW.n, by omega, by rw [ge 2 (by omega) (by omega) (by omega)]; exact hW.hr, by rw [ge 3 (by omega) (by omega) (by omega)]; exact hW.hs, by rw [ge 5 (by omega) (by omega) (by omega)]; exact hW.df, by rw [ge 6 (by omega) (by omega) (by omega)]; exact hW.lw, ?_, ?_, ?_, ?_, ?_, ?_⟩
      · intro j a b
        rw [ge _ (by omega) (by omega) (by omega), ge (7 + 7 * j + 1) (by omega) (by omega) (by omega), ge (7 + 7 * j + 2) (by omega) (by omega) (by omega), ge (7 + 7 * j + 3) (by omega) (by omega) (by omega), ge (7 + 7 * j + 6) (by omega) (by omega) (by omega)]
        exact hW.2.2.2.2.2.2.1 j a b
      · intro j a b
        by_cases e : j = N
        · subst e
          rw [ga, gb]
          omega
        · rw [ge _ (by omega) (by omega) (by omega), ge (63 + 4 * j + 1) (by omega) (by omega) (by omega)]
          exact hW.2.2.2.2.2.2.2.1 j a b
      · intro j a b d
        rw [ge _ (by omega) (by omega) (by omega)]
        exact hW.2.2.2.2.2.2.2.2.1 j (by omega) b d
      · intro j i a b d1 d2
        rw [ge _ (by omega) (by omega) (by omega)]
        exact hW.2.2.2.2.2.2.2.2.2.1 j i (by omega) b d1 d2
      · intro j i a b d1 d2
        rw [ge _ (by omega) (by omega) (by omega)]
        exact hW.2.2.2.2.2.2.2.2.2.2.1 j i (by omega) b d1 d2
      · intro q hq
        rw [ge _ (by omega) (by omega) (by omega)]
        exact hW.oz hq
def tellR (f : Int → Int) (k h : Int) : Int × (Int → Int) := if ¬ ((0 ≤ k ∧ k < f 0) ∧ 0 ≤ h ∧ h ≤ 9) then (-1000001, f) else (standF (updI f (7 + 7 * k + 6) h), updI f (7 + 7 * k + 6) h)
theorem tellR_W {f : Int → Int} (hW : Wf f) (k h : Int) : Wf (tellR f k h).2 := by
  unfold tellR
  split
  · exact hW
  · next c =>
    exact hW.uS (by omega) (by omega) (by decide) (by decide) ⟨by omega, by omega, by omega, by omega, by omega⟩ (by omega)
def untN (f : Int → Int) : Nat → Int → Int
  | 0 => f
  | m + 1 => updI (untN f m) (7 + 7 * (m : Int) + 6) (-1)
def untZ (f : Int → Int) (i : Int) : Int → Int := untN f i.toNat
theorem untZ_s (f : Int → Int) {i : Int} (h : 0 ≤ i) : untZ f (i + 1) = updI (untZ f i) (7 + 7 * i + 6) (-1) := by
  unfold untZ
  rw [show (i + 1).toNat = i.toNat + 1 by omega]
  show updI _ (7 + 7 * ((i.toNat : Nat) : Int) + 6) (-1) = _
  rw [toN h]
theorem untN_W {f : Int → Int} (hW : Wf f) (m : Nat) (hm : (m : Int) ≤ f 0) : Wf (untN f m) ∧ untN f m 0 = f 0 := by
  induction m with
  | zero => exact ⟨hW, rfl⟩
  | succ m ih =>
    have h := ih (by omega)
    refine ⟨h.1.uS (by omega) (by rw [h.2]; omega) (by decide) (by decide) ⟨by omega, by omega, by omega, by omega, by omega⟩ (by omega), ?_⟩
    show updI _ _ _ 0 = _
    rw [updI_n (by omega)]
    exact h.2
theorem untZ_W {f : Int → Int} (hW : Wf f) {i : Int} (h0 : 0 ≤ i) (hi : i ≤ f 0) : Wf (untZ f i) ∧ untZ f i 0 = f 0 := untN_W hW _ (by omega)
def setR' (f : Int → Int) (c z : Int) : Int × (Int → Int) :=
  if c = 0 then (if 1 ≤ z ∧ z ≤ 9 then (f 5, updI f 5 z) else (-1000001, f)) else if c = 1 then (if 0 ≤ z ∧ z ≤ 36 then (f 6, updI f 6 z) else (-1000001, f)) else (-1000001, f)
theorem setR'_W {f : Int → Int} (hW : Wf f) (c z : Int) : Wf (setR' f c z).2 := by
  unfold setR'
  split
  · split
    · next c => exact hW.uN (by decide) (by decide) ⟨by omega, by omega, by omega, by omega⟩
    · exact hW
  · split
    · split
      · next c => exact hW.uN (by decide) (by decide) ⟨by omega, by omega, by omega, by omega⟩
      · exact hW
    · exact hW
def untieR (f : Int → Int) (k : Int) : Int × (Int → Int) :=
  if ¬ (0 ≤ k ∧ k < f 0 - 1) then (-1000001, f) else if sc f k 3 = 0 ∨ 1 < sc f k 0 - sc f (k + 1) 0 ∨ sc f k 0 - sc f (k + 1) 0 < -1 then (-1000002, f) else (sc f k 3 - 1, updI f (7 + 7 * k + 3) (sc f k 3 - 1))
theorem untieR_W {f : Int → Int} (hW : Wf f) (k : Int) : Wf (untieR f k).2 := by
  unfold untieR
  split
  · exact hW
  · split
    · exact hW
    · next c1 c2 =>
      have hk := hW.kn k
      exact hW.uS (by omega) (by omega) (by decide) (by decide) ⟨by omega, by omega, by omega, by omega, by omega⟩ (by omega)
