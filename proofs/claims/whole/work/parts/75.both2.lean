/-! both sides: the other calls -/
theorem op_same {M M1 M2 : gMem} (h : INV M) (c1 : ∀ k, k = 2 ∨ k = 5 ∨ k = 6 ∨ k = 7 ∨ k = 8 → M1 k = M k) (c3 : Oz (M1 4)) (c2 : ∀ k, 16 ≤ k → M1 k = M k) (r1 : ∀ k, k = 17 ∨ k = 18 ∨ k = 21 → M2 k = M1 k) (r1' : M2 16 4 = M1 16 4) (r1'' : M2 16 6 = M1 16 6) (r2 : ∀ k, k < 16 → M2 k = M1 k) (r3 : Oz (M2 19)) (r4 : Oz (M2 20)) (r5 : z23 M2) : INV M2 := by
  refine op_mk (s := sS M) h.1 ?_ c3 ?_ r2 r3 r4 r5
  · unfold sS
    rw [c1 2 (by omega), c1 6 (by omega), c1 5 (by omega), c1 8 (by omega), c1 7 (by omega)]
  · rw [← sT_of h c2]
    unfold sT
    rw [r1 17 (by omega), r1 18 (by omega), r1 21 (by omega), r1', r1'']
theorem op_shadeOf {M : gMem} (h : INV M) {a b : Int} (ha : inR a) (hb : inR b) : ∃ M1 M2 v, (∀ d, 12 ≤ d → Go d RX7 cX7_shadeOf 3 (some .int) 0 [some (.inr 0), some (.inl a), some (.inl b)] [] M (some (.inl v)) M1) ∧ (∀ d, 12 ≤ d → Go d RX8 cX8_shadeOf 3 (some .int) 0 [some (.inr 16), some (.inl a), some (.inl b)] [] M1 (some (.inl v)) M2) ∧ INV M2 := by
  have hS := h.s
  obtain ⟨hR, hz, hx⟩ := h.r (M1 := M) (fun _ _ => rfl)
  have e := (h.e (M1 := M) (fun _ _ => rfl)).1
  refine ⟨M, M, _, fun d hd => s_X7_shadeOf (by omega) hS.1 ha hb, fun d hd => ?_, h⟩
  have g := s_X8_shadeOf (d := d) (by omega) hR.1 ha hb
  rw [e] at g
  exact g
theorem op_stringOf {M : gMem} (h : INV M) {a b : Int} (ha : inR a) (hb : inR b) : ∃ M1 M2 v, (∀ d, 12 ≤ d → Go d RX7 cX7_stringOf 3 (some .int) 0 [some (.inr 0), some (.inl a), some (.inl b)] [] M (some (.inl v)) M1) ∧ (∀ d, 12 ≤ d → Go d RX8 cX8_stringOf 3 (some .int) 0 [some (.inr 16), some (.inl a), some (.inl b)] [] M1 (some (.inl v)) M2) ∧ INV M2 := by
  have hS := h.s
  obtain ⟨hR, hz, hx⟩ := h.r (M1 := M) (fun _ _ => rfl)
  have e := (h.e (M1 := M) (fun _ _ => rfl)).1
  refine ⟨M, M, _, fun d hd => s_X7_stringOf (by omega) hS.1 ha hb, fun d hd => ?_, h⟩
  have g := s_X8_stringOf (d := d) (by omega) hR.1 ha hb
  rw [e] at g
  exact g
theorem op_bestHeight {M : gMem} (h : INV M) {a b : Int} (ha : inR a) (hb : inR b) : ∃ M1 M2 v, (∀ d, 12 ≤ d → Go d RX7 cX7_bestHeight 7 (some .int) 0 [some (.inr 0), some (.inl a), some (.inl b), none, none, none, none] [] M (some (.inl v)) M1) ∧ (∀ d, 12 ≤ d → Go d RX8 cX8_bestHeight 8 (some .int) 0 [some (.inr 16), some (.inl a), some (.inl b), none, none, none, none, none] [] M1 (some (.inl v)) M2) ∧ INV M2 := by
  have hS := h.s
  obtain ⟨hR, hz, hx⟩ := h.r (M1 := M) (fun _ _ => rfl)
  have e := (h.e (M1 := M) (fun _ _ => rfl)).1
  refine ⟨M, M, _, fun d hd => s_X7_bestHeight (by omega) hS.1 ha hb, fun d hd => ?_, h⟩
  have g := s_X8_bestHeight (d := d) (by omega) hR.1 ha hb
  rw [e] at g
  exact g
theorem op_groupAt {M : gMem} (h : INV M) {a : Int} (ha : inR a) : ∃ M1 M2 v, (∀ d, 12 ≤ d → Go d RX7 cX7_groupAt 4 (some .int) 0 [some (.inr 0), some (.inl a), none, none] [] M (some (.inl v)) M1) ∧ (∀ d, 12 ≤ d → Go d RX8 cX8_groupAt 4 (some .int) 0 [some (.inr 16), some (.inl a), none, none] [] M1 (some (.inl v)) M2) ∧ INV M2 := by
  have hS := h.s
  obtain ⟨hR, hz, hx⟩ := h.r (M1 := M) (fun _ _ => rfl)
  have e := (h.e (M1 := M) (fun _ _ => rfl)).1
  refine ⟨M, M, _, fun d hd => s_X7_groupAt (by omega) hS.1 ha, fun d hd => ?_, h⟩
  have g := s_X8_groupAt (d := d) (by omega) hR.1 ha
  rw [e] at g
  exact g
theorem op_count {M : gMem} (h : INV M) {a : Int} (ha : inR a) : ∃ M1 M2 v, (∀ d, 12 ≤ d → Go d RX7 cX7_count 2 (some .int) 0 [some (.inr 0), some (.inl a)] [] M (some (.inl v)) M1) ∧ (∀ d, 12 ≤ d → Go d RX8 cX8_count 2 (some .int) 0 [some (.inr 16), some (.inl a)] [] M1 (some (.inl v)) M2) ∧ INV M2 := by
  have hS := h.s
  obtain ⟨hR, hz, hx⟩ := h.r (M1 := M) (fun _ _ => rfl)
  obtain ⟨e1, e2, e3, e4, e5⟩ := h.e (M1 := M) (fun _ _ => rfl)
  refine ⟨M, M, _, fun d hd => s_X7_count (by omega) hS.1 ha, fun d hd => ?_, h⟩
  have g := s_X8_count (d := d) (by omega) hR.1 ha
  rw [e1, e3, e5] at g
  exact g
theorem op_would {M : gMem} (h : INV M) {a b e : Int} (ha : inR a) (hb : inR b) (he : inR e) : ∃ M1 M2 v, (∀ d, 12 ≤ d → Go d RX7 cX7_would 6 (some .int) 0 [some (.inr 0), some (.inl a), some (.inl b), some (.inl e), none, none] [] M (some (.inl v)) M1) ∧ (∀ d, 12 ≤ d → Go d RX8 cX8_would 10 (some .int) 0 [some (.inr 16), some (.inl a), some (.inl b), some (.inl e), none, none, none, none, none, none] [] M1 (some (.inl v)) M2) ∧ INV M2 := by
  have hS := h.s
  have fr : ∀ k, 16 ≤ k → (setR M 4 (pullC (M 2) a b)) k = M k := fun k hk => setR_n (by omega)
  obtain ⟨hR, hz, hx⟩ := h.r fr
  have e1 := (h.e fr).1
  refine ⟨_, refW (setR M 4 (pullC (M 2) a b)) a b e, _, fun d hd => s_X7_would (by omega) hS ha hb he, fun d hd => ?_, ?_⟩
  · have g := s_X8_would (d := d) (by omega) hR ha hb he hz
    rw [e1] at g
    exact g
  · have c4 : Oz ((setR M 4 (pullC (M 2) a b)) 4) := (pullC_W hS.1 a b).1.o
    have c1 : ∀ k, k = 2 ∨ k = 5 ∨ k = 6 ∨ k = 7 ∨ k = 8 → (setR M 4 (pullC (M 2) a b)) k = M k := fun k hk => setR_n (by omega)
    generalize setR M 4 (pullC (M 2) a b) = M1 at hR hz c4 c1 fr
    unfold refW
    split
    · refine op_same h c1 c4 fr (fun k hk => ?_) rfl rfl (fun k hk => ?_) hR.2.1 hR.1.o (pullMv_z hR.1 a b)
      · rw [setR_n (by omega), setR_n (by omega), setR_n (by omega)]
      · rw [setR_n (by omega), setR_n (by omega), setR_n (by omega)]
    · exact op_same h c1 c4 fr (fun k hk => rfl) rfl rfl (fun k hk => rfl) hR.2.1 hR.2.2.1 hz
theorem op_undo {M : gMem} (h : INV M) : ∃ M1 M2 v, (∀ d, 12 ≤ d → Go d RX7 cX7_undo 1 (some .int) 0 [some (.inr 0)] [] M (some (.inl v)) M1) ∧ (∀ d, 12 ≤ d → Go d RX8 cX8_undo 2 (some .int) 0 [some (.inr 16), none] [] M1 (some (.inl v)) M2) ∧ INV M2 := by
  have hS := h.s
  have fr : ∀ k, 16 ≤ k → (undoM M) k = M k := fun k hk => by
    unfold undoM
    split
    · rfl
    · rw [setR_n (by omega), setR_n (by omega)]
  obtain ⟨hR, hz, hx⟩ := h.r fr
  obtain ⟨e1, e2, e3, e4, e5⟩ := h.e fr
  refine ⟨_, undoR (undoM M), _, fun d hd => s_X7_undo (by omega) hS, fun d hd => ?_, ?_⟩
  · have g := s_X8_undo (d := d) (by omega) hR
    rw [e3] at g
    exact g
  · by_cases c : M 5 1 = 0
    · have q1 : undoM M = M := if_pos c
      rw [q1] at e3 ⊢
      have q2 : undoR M = M := if_pos (by rw [e3]; exact c)
      rw [q2]
      exact h
    · have q1 : undoM M = setR (setR M 5 (updI (M 5) 1 (M 5 1 - 1))) 2 (cpyI (M 6) (M 2) ((M 5 1 - 1) * 79) 0 79) := if_neg c
      have q2 : undoR (undoM M) = setR (setR (undoM M) 16 (updI ((undoM M) 16) 4 (M 5 1 - 1))) 17 (cpyI (M 6) (M 2) ((M 5 1 - 1) * 79) 0 79) := by
        unfold undoR
        rw [e3, if_neg c, e2, e1]
      have hn := hS.2.2
      have hrw : cpyI (M 6) (M 2) ((M 5 1 - 1) * 79) 0 79 = hrow (M 6) (M 5 1 - 1) := by
        funext q
        unfold cpyI hrow
        by_cases z : 0 ≤ q ∧ q < 79
        · rw [if_pos (by omega), if_pos z, show (M 5 1 - 1) * 79 + (q - 0) = 79 * (M 5 1 - 1) + q by omega]
        · rw [if_neg (by omega), if_neg z]
          exact hS.1.oz (by omega)
      have hw : Wf (hrow (M 6) (M 5 1 - 1)) := h.1.2.2.1 (M 5 1 - 1) (by omega) (show M 5 1 - 1 < M 5 1 by omega)
      have w : WS (hrow (M 6) (M 5 1 - 1), M 6, M 5 1 - 1, M 8, M 7 1) := ⟨hw, by show 0 ≤ M 5 1 - 1 ∧ M 5 1 - 1 ≤ 4; omega, fun j j0 j1 => h.1.2.2.1 j j0 (by replace j1 : j < M 5 1 - 1 := j1; show j < M 5 1; omega), h.1.2.2.2⟩
      rw [hrw] at q1 q2
      have u4 : ∀ (f : Int → Int) (z : Int), updI f 1 z 1 = z := fun f z => updI_s _ _ _
      refine op_mk w (M1 := undoM M) ?_ ?_ ?_ ?_ ?_ ?_ ?_
      · rw [q1]
        show (hrow (M 6) (M 5 1 - 1), M 6, updI (M 5) 1 (M 5 1 - 1) 1, M 8, M 7 1) = _
        rw [u4]
      · rw [q1]
        exact h.2.2.1
      · rw [q2]
        show (hrow (M 6) (M 5 1 - 1), undoM M 18, updI (undoM M 16) 4 (M 5 1 - 1) 4, undoM M 21, updI (undoM M 16) 4 (M 5 1 - 1) 6) = _
        rw [updI_s, updI_n (by decide), e2, e4, e5]
      · rw [q2]
        intro k hk
        rw [setR_n (by omega), setR_n (by omega)]
      · rw [q2]; exact hR.2.1
      · rw [q2]; exact hR.2.2.1
      · rw [q2]; exact hz
theorem op_type {M : gMem} (h : INV M) {c : Int} (hc : inR c) : ∃ M1 M2 v, (∀ d, 12 ≤ d → Go d RX7 cX7_type 2 (some .int) 0 [some (.inr 0), some (.inl c)] [] M (some (.inl v)) M1) ∧ (∀ d, 12 ≤ d → Go d RX8 cX8_type 2 (some .int) 0 [some (.inr 16), some (.inl c)] [] M1 (some (.inl v)) M2) ∧ INV M2 := by
  have hS := h.s
  have hx := h.t
  have fr : ∀ k, 16 ≤ k → (typeM M c) k = M k := fun k hk => by
    unfold typeM
    split
    · rfl
    · rw [setR_n (by omega), setR_n (by omega)]
  obtain ⟨hR, hz, hx1⟩ := h.r fr
  obtain ⟨e1, e2, e3, e4, e5⟩ := h.e fr
  refine ⟨_, typeR (typeM M c) c, _, fun d hd => s_X7_type (by omega) hc hx.1, fun d hd => ?_, ?_⟩
  · have g := s_X8_type (d := d) (by omega) hc hx1.1
    rw [e5] at g
    exact g
  · by_cases z : c < 32 ∨ 126 < c ∨ 60 ≤ M 7 1
    · have q1 : typeM M c = M := if_pos z
      rw [q1] at e5 ⊢
      have q2 : typeR M c = M := if_pos (by rw [e5]; exact z)
      rw [q2]
      exact h
    · have q1 : typeM M c = setR (setR M 8 (updI (M 8) (M 7 1) c)) 7 (updI (M 7) 1 (M 7 1 + 1)) := if_neg z
      have q2 : typeR (typeM M c) c = setR (setR (typeM M c) 21 (updI (M 8) (M 7 1) c)) 16 (updI ((typeM M c) 16) 6 (M 7 1 + 1)) := by
        unfold typeR
        rw [e5, if_neg z, e4]
      have w : WS (M 2, M 6, M 5 1, updI (M 8) (M 7 1) c, M 7 1 + 1) := ⟨hS.1, h.1.2.1, h.1.2.2.1, ⟨by have := hx.1; show 0 ≤ M 7 1 + 1 ∧ M 7 1 + 1 ≤ 60; omega, fun p p0 p1 => by
        replace p1 : p < M 7 1 + 1 := p1
        show 32 ≤ updI (M 8) (M 7 1) c p ∧ updI (M 8) (M 7 1) c p ≤ 126
        by_cases y : p = M 7 1
        · rw [y, updI_s]; omega
        · rw [updI_n y]; exact hx.2 p p0 (by omega)⟩⟩
      refine op_mk w (M1 := typeM M c) ?_ ?_ ?_ ?_ ?_ ?_ ?_
      · rw [q1]
        show (M 2, M 6, M 5 1, updI (M 8) (M 7 1) c, updI (M 7) 1 (M 7 1 + 1) 1) = _
        rw [updI_s]
      · rw [q1]
        exact h.2.2.1
      · rw [q2]
        show (typeM M c 17, typeM M c 18, updI (typeM M c 16) 6 (M 7 1 + 1) 4, updI (M 8) (M 7 1) c, updI (typeM M c 16) 6 (M 7 1 + 1) 6) = _
        rw [updI_s, updI_n (by decide), e1, e2, e3]
      · rw [q2]
        intro k hk
        rw [setR_n (by omega), setR_n (by omega)]
      · rw [q2]; exact hR.2.1
      · rw [q2]; exact hR.2.2.1
      · rw [q2]; exact hz
theorem op_clearText {M : gMem} (h : INV M) : ∃ M1 M2 v, (∀ d, 12 ≤ d → Go d RX7 cX7_clearText 2 (some .int) 0 [some (.inr 0), none] [] M (some (.inl v)) M1) ∧ (∀ d, 12 ≤ d → Go d RX8 cX8_clearText 2 (some .int) 0 [some (.inr 16), none] [] M1 (some (.inl v)) M2) ∧ INV M2 := by
  have hS := h.s
  have fr : ∀ k, 16 ≤ k → (setR M 7 (updI (M 7) 1 0)) k = M k := fun k hk => setR_n (by omega)
  obtain ⟨hR, hz, hx1⟩ := h.r fr
  obtain ⟨e1, e2, e3, e4, e5⟩ := h.e fr
  refine ⟨_, setR (setR M 7 (updI (M 7) 1 0)) 16 (updI (M 16) 6 0), _, fun d hd => s_X7_clearText (by omega), fun d hd => ?_, ?_⟩
  · have g := s_X8_clearText (d := d) (M := setR M 7 (updI (M 7) 1 0)) (by omega)
    rw [e5] at g
    exact g
  · have w : WS (M 2, M 6, M 5 1, M 8, 0) := ⟨hS.1, h.1.2.1, h.1.2.2.1, ⟨by show (0 : Int) ≤ 0 ∧ (0 : Int) ≤ 60; decide, fun p p0 p1 => by
      replace p1 : p < 0 := p1
      omega⟩⟩
    refine op_mk w (M1 := setR M 7 (updI (M 7) 1 0)) ?_ h.2.2.1 ?_ (fun k hk => setR_n (by omega)) hR.2.1 hR.2.2.1 hz
    · show (M 2, M 6, M 5 1, M 8, updI (M 7) 1 0 1) = _
      rw [updI_s]
    · show (M 17, M 18, updI (M 16) 6 0 4, M 21, updI (M 16) 6 0 6) = _
      rw [updI_s, updI_n (by decide)]
      have f1 : M 17 = M 2 := e1
      have f2 : M 18 = M 6 := e2
      have f3 : M 16 4 = M 5 1 := e3
      have f4 : M 21 = M 8 := e4
      rw [f1, f2, f3, f4]
theorem op_leastPulls {M : gMem} (h : INV M) {d1 d2 : Nat} (hd1 : 12 ≤ d1) (hd2 : 12 ≤ d2) {a : Int} (ha : inR a) : ∃ M1 M2 v, Go d1 RX7 cX7_leastPulls 3 (some .int) 0 [some (.inr 0), some (.inl a), none] [] M (some (.inl v)) M1 ∧ Go d2 RX8 cX8_leastPulls 3 (some .int) 0 [some (.inr 16), some (.inl a), none] [] M1 (some (.inl v)) M2 ∧ INV M2 := by
  have hS := h.s
  obtain ⟨M1, v, g1, f1, l1⟩ := s_X7_leastPulls (d := d1) (by omega) hS.1 ha
  have fr : ∀ k, 16 ≤ k → M1 k = M k := fun k hk => f1 k (by omega)
  obtain ⟨hR, hz, hx1⟩ := h.r fr
  obtain ⟨M2, v2, g2, f2, l2⟩ := s_X8_leastPulls (d := d2) (by omega) hR.1 ha
  rw [(h.e fr).1] at l2
  have ev := LPA_one hS.1 l1 l2
  subst ev
  exact ⟨M1, M2, v, g1, g2, op_same h (fun k hk => f1 k (by omega)) (by rw [f1 4 (by omega)]; exact h.2.2.1) fr (fun k hk => f2 k (by omega) (by omega)) (by rw [f2 16 (by decide) (by decide)]) (by rw [f2 16 (by decide) (by decide)]) (fun k hk => f2 k (by omega) (by omega)) (by rw [f2 19 (by decide) (by decide)]; exact hR.2.1) (by rw [f2 20 (by decide) (by decide)]; exact hR.2.2.1) (by intro q hq; rw [f2 23 (by decide) (by decide)]; exact hz q hq)⟩
theorem op_reallyDo {M : gMem} (h : INV M) {d1 d2 : Nat} (hd1 : 12 ≤ d1) (hd2 : 12 ≤ d2) : ∃ M1 M2 v, Go d1 RX7 cX7_reallyDo 5 (some .int) 0 [some (.inr 0), none, none, none, none] [] M (some (.inl v)) M1 ∧ Go d2 RX8 cX8_reallyDo 2 (some .int) 0 [some (.inr 16), none] [] M1 (some (.inl v)) M2 ∧ INV M2 := by
  have hS := h.s
  obtain ⟨M1, v, g1, f1, o1, l1⟩ := s_X7_reallyDo (d := d1) (by omega) hS.1 hS.2.1
  have fr : ∀ k, 16 ≤ k → M1 k = M k := fun k hk => f1 k (by omega) (by omega)
  obtain ⟨hR, hz, hx1⟩ := h.r fr
  obtain ⟨M2, v2, g2, f2, o2, z2, l2⟩ := s_X8_reallyDo (d := d2) (by omega) hR.1 hR.2.2.1 hz
  rw [(h.e fr).1] at l2
  have ev := RDA_one hS.1 l1 l2
  subst ev
  exact ⟨M1, M2, v, g1, g2, op_same h (fun k hk => f1 k (by omega) (by omega)) o1 fr (fun k hk => f2 k (by omega) (by omega) (by omega) (by omega) (by omega)) (by rw [f2 16 (by decide) (by decide) (by decide) (by decide) (by decide)]) (by rw [f2 16 (by decide) (by decide) (by decide) (by decide) (by decide)]) (fun k hk => f2 k (by omega) (by omega) (by omega) (by omega) (by omega)) (by rw [f2 19 (by decide) (by decide) (by decide) (by decide) (by decide)]; exact hR.2.1) o2 z2⟩
theorem flM_n {M : gMem} {b : Int → Int} {R : FR} {k : Nat} (h4 : k ≠ 4) (h9 : k ≠ 9) : flM M b R k = M k := by
  show setR (setR M 4 _) 9 _ k = _
  rw [setR_n h9, setR_n h4]
theorem op_fault {M : gMem} (h : INV M) {d1 d2 : Nat} (hd1 : 12 ≤ d1) (hd2 : 12 ≤ d2) {a : Int} (ha : inR a) : ∃ M1 M2 v, Go d1 RX7 cX7_fault 2 (some .int) 0 [some (.inr 0), some (.inl a)] [] M (some (.inl v)) M1 ∧ Go d2 RX8 cX8_fault 3 (some .int) 0 [some (.inr 16), some (.inl a), none] [] M1 (some (.inl v)) M2 ∧ INV M2 := by
  have hS := h.s
  have hW2 := (flN_W (f := M 8) (n := M 7 1) 60 0 (M 2) 0 hS.1 (Int.le_refl 0)).1
  have g1 := s_X7_fault (d := d1) (by omega) hS h.t ha rfl
  have c : ∃ M1, M1 = (if a < 0 ∨ 2 < a then M else flM M (M 9) (flN (M 8) (M 7 1) 60 0 (M 2) 0)) ∧ (∀ k, k ≠ 4 → k ≠ 9 → M1 k = M k) ∧ Oz (M1 4) := by
    refine ⟨_, rfl, fun k k4 k9 => ?_, ?_⟩
    · split
      · rfl
      · exact flM_n k4 k9
    · split
      · exact hS.2.1
      · exact hW2.o
  obtain ⟨M1, e, f1, o1⟩ := c
  rw [← e] at g1
  have fr : ∀ k, 16 ≤ k → M1 k = M k := fun k hk => f1 k (by omega) (by omega)
  obtain ⟨hR, hz, hx1⟩ := h.r fr
  obtain ⟨e1, e2, e3, e4, e5⟩ := h.e fr
  obtain ⟨M2, g2, f2, o2, i2, z2⟩ := s_X8_fault (d := d2) (by omega) ha hR.1 hR.2.2.1 hx1 hz (R := flN (M 8) (M 7 1) 60 0 (M 2) 0) (by rw [e1, e4, e5])
  exact ⟨M1, M2, _, g1, g2, op_same h (fun k hk => f1 k (by omega) (by omega)) o1 fr (fun k hk => f2 k (by omega) (by omega) (by omega) (by omega)) (i2 4 (by decide)) (i2 6 (by decide)) (fun k hk => f2 k (by omega) (by omega) (by omega) (by omega)) (by rw [f2 19 (by decide) (by decide) (by decide) (by decide)]; exact hR.2.1) o2 z2⟩
theorem op_play {M : gMem} (h : INV M) {d1 d2 : Nat} (hd1 : 12 ≤ d1) (hd2 : 12 ≤ d2) : ∃ M1 M2 v, Go d1 RX7 cX7_play 1 (some .int) 0 [some (.inr 0)] [] M (some (.inl v)) M1 ∧ Go d2 RX8 cX8_play 2 (some .int) 0 [some (.inr 16), none] [] M1 (some (.inl v)) M2 ∧ INV M2 := by
  have hS := h.s
  obtain ⟨w1, w2, w3, w4, w5⟩ := flN_W (f := M 8) (n := M 7 1) 60 0 (M 2) 0 hS.1 (Int.le_refl 0)
  have g1 := s_X7_play (d := d1) (by omega) hS h.t rfl
  have fr : ∀ k, 16 ≤ k → setl (flM M (M 9) (flN (M 8) (M 7 1) 60 0 (M 2) 0)) (plV (flN (M 8) (M 7 1) 60 0 (M 2) 0)) k = M k := fun k hk => by
    unfold setl
    split
    · exact flM_n (by omega) (by omega)
    · rw [setR_n (by omega), setR_n (by omega), setR_n (by omega)]
      exact flM_n (by omega) (by omega)
  obtain ⟨hR, hz, hx1⟩ := h.r fr
  obtain ⟨e1, e2, e3, e4, e5⟩ := h.e fr
  have eS : sS (setl (flM M (M 9) (flN (M 8) (M 7 1) 60 0 (M 2) 0)) (plV (flN (M 8) (M 7 1) 60 0 (M 2) 0))) = chS (sS M) (flN (M 8) (M 7 1) 60 0 (M 2) 0).2.2.2.2 (plV (flN (M 8) (M 7 1) 60 0 (M 2) 0)) := by
    unfold setl chS
    split <;> rfl
  have o4 : Oz ((setl (flM M (M 9) (flN (M 8) (M 7 1) 60 0 (M 2) 0)) (plV (flN (M 8) (M 7 1) 60 0 (M 2) 0))) 4) := by
    unfold setl
    split <;> exact w1.o
  obtain ⟨M2, g2, f2, i2, o2, o3, z2, hc⟩ := s_X8_play (d := d2) (by omega) hR hx1 hz (R := flN (M 8) (M 7 1) 60 0 (M 2) 0) (by rw [e1, e4, e5])
  refine ⟨_, M2, _, g1, g2, op_mk (WS_ch h.1 w1 _) eS o4 ?_ (fun k hk => f2 k (by omega) (by omega) (by omega) (by omega) (by omega) (by omega) (by omega)) o2 o3 z2⟩
  have e21 := f2 21 (by decide) (by decide) (by decide) (by decide) (by decide) (by decide) (by decide)
  rcases hc with ⟨c, a1, a2, a3⟩ | ⟨c, a1, a2, a3⟩
  · have pv : plV (flN (M 8) (M 7 1) 60 0 (M 2) 0) = (flN (M 8) (M 7 1) 60 0 (M 2) 0).2.2.2.1 := if_pos c
    rw [show chS (sS M) (flN (M 8) (M 7 1) 60 0 (M 2) 0).2.2.2.2 (plV (flN (M 8) (M 7 1) 60 0 (M 2) 0)) = keepS (sS M) (flN (M 8) (M 7 1) 60 0 (M 2) 0).2.2.2.2 from if_neg (by omega)]
    unfold sT
    rw [a1, a2, a3, e21, i2, e1, e2, e3, e4, e5]
    rfl
  · have pv : plV (flN (M 8) (M 7 1) 60 0 (M 2) 0) = -1000002 := if_neg c
    rw [show chS (sS M) (flN (M 8) (M 7 1) 60 0 (M 2) 0).2.2.2.2 (plV (flN (M 8) (M 7 1) 60 0 (M 2) 0)) = sS M from if_pos (by omega)]
    unfold sT
    rw [a1, a2, a3, e21, i2, e1, e2, e3, e4, e5]
    rfl
