/-! both sides -/
abbrev ST : Type := (Int → Int) × (Int → Int) × Int × (Int → Int) × Int
def sS (M : gMem) : ST := (M 2, M 6, M 5 1, M 8, M 7 1)
def sT (M : gMem) : ST := (M 17, M 18, M 16 4, M 21, M 16 6)
def hrow (w : Int → Int) (j : Int) : Int → Int := fun q => if 0 ≤ q ∧ q < 79 then w (79 * j + q) else 0
def WS (s : ST) : Prop := Wf s.1 ∧ (0 ≤ s.2.2.1 ∧ s.2.2.1 ≤ 4) ∧ (∀ j, 0 ≤ j → j < s.2.2.1 → Wf (hrow s.2.1 j)) ∧ TxOk s.2.2.2.1 s.2.2.2.2
def INV (M : gMem) : Prop := WS (sS M) ∧ sT M = sS M ∧ Oz (M 4) ∧ Oz (M 19) ∧ Oz (M 20) ∧ z23 M
def keepS (s : ST) (g : Int → Int) : ST := (g, hisR s.2.1 s.1 s.2.2.1, hisN s.2.2.1, s.2.2.2.1, s.2.2.2.2)
def chS (s : ST) (g : Int → Int) (r : Int) : ST := if r < 0 then s else keepS s g
theorem hrow_eq {g : Int → Int} (h : Oz g) {w : Int → Int} {j : Int} (e : ∀ q, 0 ≤ q → q < 79 → w (79 * j + q) = g q) : hrow w j = g := by
  funext q
  unfold hrow
  by_cases c : 0 ≤ q ∧ q < 79
  · rw [if_pos c]; exact e q c.1 c.2
  · rw [if_neg c]; exact (h q (by omega)).symm
theorem hrow_c {w w2 : Int → Int} {j j2 : Int} (e : ∀ q, 0 ≤ q → q < 79 → w (79 * j + q) = w2 (79 * j2 + q)) : hrow w j = hrow w2 j2 := by
  funext q
  unfold hrow
  by_cases c : 0 ≤ q ∧ q < 79
  · rw [if_pos c, if_pos c]; exact e q c.1 c.2
  · rw [if_neg c, if_neg c]
theorem WS_keep {s : ST} (h : WS s) {g : Int → Int} (hg : Wf g) : WS (keepS s g) := by
  obtain ⟨h1, h2, h3, h4⟩ := h
  refine ⟨hg, ?_, fun j j0 j1 => ?_, h4⟩
  · show 0 ≤ hisN s.2.2.1 ∧ hisN s.2.2.1 ≤ 4
    unfold hisN
    split <;> omega
  · replace j1 : j < hisN s.2.2.1 := j1
    show Wf (hrow (hisR s.2.1 s.1 s.2.2.1) j)
    unfold hisN at j1
    unfold hisR
    by_cases c : s.2.2.1 = 4
    · rw [if_pos c] at j1 ⊢
      by_cases e : j = 3
      · rw [hrow_eq (g := s.1) h1.o (fun q q0 q1 => ?_)]
        · exact h1
        · show cpyI _ _ 0 237 79 (79 * j + q) = _
          unfold cpyI
          rw [if_pos (by omega), show 0 + (79 * j + q - 237) = q by omega]
      · rw [hrow_c (w2 := s.2.1) (j2 := j + 1) (fun q q0 q1 => ?_)]
        · exact h3 (j + 1) (by omega) (by omega)
        · show cpyI _ (cpyI _ _ 79 0 237) 0 237 79 (79 * j + q) = _
          unfold cpyI
          rw [if_neg (by omega), if_pos (by omega), show 79 + (79 * j + q - 0) = 79 * (j + 1) + q by omega]
    · rw [if_neg c] at j1 ⊢
      by_cases e : j = s.2.2.1
      · rw [hrow_eq (g := s.1) h1.o (fun q q0 q1 => ?_)]
        · exact h1
        · show cpyI _ _ 0 (79 * s.2.2.1) 79 (79 * j + q) = _
          unfold cpyI
          rw [if_pos (by omega), show 0 + (79 * j + q - 79 * s.2.2.1) = q by omega]
      · rw [hrow_c (w2 := s.2.1) (j2 := j) (fun q q0 q1 => ?_)]
        · exact h3 j j0 (by omega)
        · show cpyI _ _ 0 (79 * s.2.2.1) 79 (79 * j + q) = _
          unfold cpyI
          rw [if_neg (by omega)]
theorem WS_ch {s : ST} (h : WS s) {g : Int → Int} (hg : Wf g) (r : Int) : WS (chS s g r) := by
  unfold chS
  split
  · exact h
  · exact WS_keep h hg
theorem INV.s {M : gMem} (h : INV M) : InvS M := ⟨h.1.1, h.2.2.1, h.1.2.1⟩
theorem INV.t {M : gMem} (h : INV M) : TxOk (M 8) (M 7 1) := h.1.2.2.2
theorem INV.e {M M1 : gMem} (h : INV M) (c : ∀ k, 16 ≤ k → M1 k = M k) : M1 17 = M 2 ∧ M1 18 = M 6 ∧ M1 16 4 = M 5 1 ∧ M1 21 = M 8 ∧ M1 16 6 = M 7 1 := by
  have e := h.2.1
  unfold sT sS at e
  simp only [Prod.mk.injEq] at e
  rw [c 17 (by decide), c 18 (by decide), c 16 (by decide), c 21 (by decide)]
  exact e
theorem INV.r {M M1 : gMem} (h : INV M) (c : ∀ k, 16 ≤ k → M1 k = M k) : InvR M1 ∧ z23 M1 ∧ TxOk (M1 21) (M1 16 6) := by
  obtain ⟨e1, e2, e3, e4, e5⟩ := h.e c
  refine ⟨⟨by rw [e1]; exact h.1.1, by rw [c 19 (by decide)]; exact h.2.2.2.1, by rw [c 20 (by decide)]; exact h.2.2.2.2.1, by rw [e3]; exact h.1.2.1⟩, ?_, by rw [e4, e5]; exact h.1.2.2.2⟩
  intro q hq
  rw [c 23 (by decide)]
  exact h.2.2.2.2.2 q hq
theorem sT_of {M M1 : gMem} (h : INV M) (c : ∀ k, 16 ≤ k → M1 k = M k) : sT M1 = sS M := by
  obtain ⟨e1, e2, e3, e4, e5⟩ := h.e c
  unfold sT sS
  rw [e1, e2, e3, e4, e5]
theorem sS_of {M1 M2 : gMem} (c : ∀ k, k < 16 → M2 k = M1 k) : sS M2 = sS M1 := by
  unfold sS
  rw [c 2 (by decide), c 6 (by decide), c 5 (by decide), c 8 (by decide), c 7 (by decide)]
theorem op_mk {M1 M2 : gMem} {s : ST} (w : WS s) (c1 : sS M1 = s) (c3 : Oz (M1 4)) (r1 : sT M2 = s) (r2 : ∀ k, k < 16 → M2 k = M1 k) (r3 : Oz (M2 19)) (r4 : Oz (M2 20)) (r5 : z23 M2) : INV M2 := by
  have e := (sS_of r2).trans c1
  exact ⟨by rw [e]; exact w, r1.trans e.symm, by rw [r2 4 (by decide)]; exact c3, r3, r4, r5⟩
theorem setl_S (M : gMem) (g : Int → Int) (r : Int) : sS (setl (setR M 4 g) r) = chS (sS M) g r := by
  unfold setl chS
  split <;> rfl
theorem setl_fr {M : gMem} {g : Int → Int} {r : Int} : ∀ k, 16 ≤ k → setl (setR M 4 g) r k = M k := by
  intro k hk
  unfold setl
  split
  · exact setR_n (by omega)
  · rw [setR_n (by omega), setR_n (by omega), setR_n (by omega), setR_n (by omega)]
theorem setl_4 {M : gMem} {g : Int → Int} (hg : Oz g) {r : Int} : Oz ((setl (setR M 4 g) r) 4) := by
  unfold setl
  split <;> exact hg
theorem okM_T (M : gMem) (g : Int → Int) : sT (okM M g) = keepS (sT M) g := rfl
theorem okM_fr {M : gMem} {g : Int → Int} : ∀ k, k < 16 → okM M g k = M k := by
  intro k hk
  unfold okM
  rw [setR_n (by omega), setR_n (by omega), setR_n (by omega), setR_n (by omega)]
theorem ref1_T (M : gMem) (g : Int → Int) (r : Int) : sT (ref1 M g r) = chS (sT M) g r := by
  unfold ref1 chS
  split <;> rfl
theorem ref2_T (M : gMem) (g : Int → Int) (r : Int) : sT (ref2 M g r) = chS (sT M) g r := by
  unfold ref2 chS
  split <;> rfl
theorem ref1_fr {M : gMem} {g : Int → Int} {r : Int} : ∀ k, k < 16 → ref1 M g r k = M k := by
  intro k hk
  unfold ref1
  split
  · rfl
  · exact okM_fr k hk
theorem ref2_fr {M : gMem} {g : Int → Int} {r : Int} : ∀ k, k < 16 → ref2 M g r k = M k := by
  intro k hk
  unfold ref2
  split
  · exact setR_n (by omega)
  · exact okM_fr k hk
theorem ref1_sc {M : gMem} {g : Int → Int} {r : Int} (h : InvR M) (z : z23 M) : Oz (ref1 M g r 19) ∧ Oz (ref1 M g r 20) ∧ z23 (ref1 M g r) := by
  unfold ref1
  split
  · exact ⟨h.2.1, h.2.2.1, z⟩
  · exact ⟨h.1.o, h.2.2.1, z⟩
theorem ref2_sc {M : gMem} {g : Int → Int} {r : Int} (h : InvR M) (z : z23 M) : Oz (ref2 M g r 19) ∧ Oz (ref2 M g r 20) ∧ z23 (ref2 M g r) := by
  unfold ref2
  split
  · exact ⟨h.1.o, h.2.2.1, z⟩
  · exact ⟨h.1.o, h.2.2.1, z⟩
theorem op_shade {M : gMem} (h : INV M) {a b : Int} (ha : inR a) (hb : inR b) : ∃ M1 M2 v, (∀ d, 12 ≤ d → Go d RX7 cX7_shade 3 (some .int) 0 [some (.inr 0), some (.inl a), some (.inl b)] [] M (some (.inl v)) M1) ∧ (∀ d, 12 ≤ d → Go d RX8 cX8_shade 5 (some .int) 0 [some (.inr 16), some (.inl a), some (.inl b), none, none] [] M1 (some (.inl v)) M2) ∧ INV M2 := by
  have hS := h.s
  have hg := shadeR_W hS.1 a b
  have fr : ∀ k, 16 ≤ k → (setl (setR M 4 (shadeR (M 2) a b).2) (shadeR (M 2) a b).1) k = M k := setl_fr
  obtain ⟨hR, hz, hx⟩ := h.r fr
  have e := (h.e fr).1
  have sc := ref1_sc (g := (shadeR (M 2) a b).2) (r := (shadeR (M 2) a b).1) hR hz
  refine ⟨_, ref1 (setl (setR M 4 (shadeR (M 2) a b).2) (shadeR (M 2) a b).1) (shadeR (M 2) a b).2 (shadeR (M 2) a b).1, _, fun d hd => s_X7_shade (by omega) hS ha hb, fun d hd => ?_, op_mk (WS_ch h.1 hg _) (setl_S M _ _) (setl_4 hg.o) ((ref1_T _ _ _).trans (by rw [sT_of h fr])) ref1_fr sc.1 sc.2.1 sc.2.2⟩
  have g := s_X8_shade (d := d) (by omega) hR ha hb
  rw [e] at g
  exact g
theorem op_string {M : gMem} (h : INV M) {a b : Int} (ha : inR a) (hb : inR b) : ∃ M1 M2 v, (∀ d, 12 ≤ d → Go d RX7 cX7_string 3 (some .int) 0 [some (.inr 0), some (.inl a), some (.inl b)] [] M (some (.inl v)) M1) ∧ (∀ d, 12 ≤ d → Go d RX8 cX8_string 4 (some .int) 0 [some (.inr 16), some (.inl a), some (.inl b), none] [] M1 (some (.inl v)) M2) ∧ INV M2 := by
  have hS := h.s
  have hg := stringR_W hS.1 a b
  have fr : ∀ k, 16 ≤ k → (setl (setR M 4 (stringR (M 2) a b).2) (stringR (M 2) a b).1) k = M k := setl_fr
  obtain ⟨hR, hz, hx⟩ := h.r fr
  have e := (h.e fr).1
  have sc := ref1_sc (g := (stringR (M 2) a b).2) (r := (stringR (M 2) a b).1) hR hz
  refine ⟨_, ref1 (setl (setR M 4 (stringR (M 2) a b).2) (stringR (M 2) a b).1) (stringR (M 2) a b).2 (stringR (M 2) a b).1, _, fun d hd => s_X7_string (by omega) hS ha hb, fun d hd => ?_, op_mk (WS_ch h.1 hg _) (setl_S M _ _) (setl_4 hg.o) ((ref1_T _ _ _).trans (by rw [sT_of h fr])) ref1_fr sc.1 sc.2.1 sc.2.2⟩
  have g := s_X8_string (d := d) (by omega) hR ha hb
  rw [e] at g
  exact g
theorem op_tell {M : gMem} (h : INV M) {a b : Int} (ha : inR a) (hb : inR b) : ∃ M1 M2 v, (∀ d, 12 ≤ d → Go d RX7 cX7_tell 3 (some .int) 0 [some (.inr 0), some (.inl a), some (.inl b)] [] M (some (.inl v)) M1) ∧ (∀ d, 12 ≤ d → Go d RX8 cX8_tell 3 (some .int) 0 [some (.inr 16), some (.inl a), some (.inl b)] [] M1 (some (.inl v)) M2) ∧ INV M2 := by
  have hS := h.s
  have hg := tellR_W hS.1 a b
  have fr : ∀ k, 16 ≤ k → (setl (setR M 4 (tellR (M 2) a b).2) (tellR (M 2) a b).1) k = M k := setl_fr
  obtain ⟨hR, hz, hx⟩ := h.r fr
  have e := (h.e fr).1
  have sc := ref2_sc (g := (tellR (M 2) a b).2) (r := (tellR (M 2) a b).1) hR hz
  refine ⟨_, ref2 (setl (setR M 4 (tellR (M 2) a b).2) (tellR (M 2) a b).1) (tellR (M 2) a b).2 (tellR (M 2) a b).1, _, fun d hd => s_X7_tell (by omega) hS ha hb, fun d hd => ?_, op_mk (WS_ch h.1 hg _) (setl_S M _ _) (setl_4 hg.o) ((ref2_T _ _ _).trans (by rw [sT_of h fr])) ref2_fr sc.1 sc.2.1 sc.2.2⟩
  have g := s_X8_tell (d := d) (by omega) hR ha hb
  rw [e] at g
  exact g
theorem op_set {M : gMem} (h : INV M) {a b : Int} (ha : inR a) (hb : inR b) : ∃ M1 M2 v, (∀ d, 12 ≤ d → Go d RX7 cX7_set 3 (some .int) 0 [some (.inr 0), some (.inl a), some (.inl b)] [] M (some (.inl v)) M1) ∧ (∀ d, 12 ≤ d → Go d RX8 cX8_set 4 (some .int) 0 [some (.inr 16), some (.inl a), some (.inl b), none] [] M1 (some (.inl v)) M2) ∧ INV M2 := by
  have hS := h.s
  have hg := setR'_W hS.1 a b
  have fr : ∀ k, 16 ≤ k → (setl (setR M 4 (setR' (M 2) a b).2) (setR' (M 2) a b).1) k = M k := setl_fr
  obtain ⟨hR, hz, hx⟩ := h.r fr
  have e := (h.e fr).1
  have sc := ref1_sc (g := (setR' (M 2) a b).2) (r := (setR' (M 2) a b).1) hR hz
  refine ⟨_, ref1 (setl (setR M 4 (setR' (M 2) a b).2) (setR' (M 2) a b).1) (setR' (M 2) a b).2 (setR' (M 2) a b).1, _, fun d hd => s_X7_set (by omega) hS ha hb, fun d hd => ?_, op_mk (WS_ch h.1 hg _) (setl_S M _ _) (setl_4 hg.o) ((ref1_T _ _ _).trans (by rw [sT_of h fr])) ref1_fr sc.1 sc.2.1 sc.2.2⟩
  have g := s_X8_set (d := d) (by omega) hR ha hb
  rw [e] at g
  exact g
theorem op_untie {M : gMem} (h : INV M) {a : Int} (ha : inR a) : ∃ M1 M2 v, (∀ d, 12 ≤ d → Go d RX7 cX7_untie 2 (some .int) 0 [some (.inr 0), some (.inl a)] [] M (some (.inl v)) M1) ∧ (∀ d, 12 ≤ d → Go d RX8 cX8_untie 2 (some .int) 0 [some (.inr 16), some (.inl a)] [] M1 (some (.inl v)) M2) ∧ INV M2 := by
  have hS := h.s
  have hg := untieR_W hS.1 a
  have fr : ∀ k, 16 ≤ k → (setl (setR M 4 (untieR (M 2) a).2) (untieR (M 2) a).1) k = M k := setl_fr
  obtain ⟨hR, hz, hx⟩ := h.r fr
  have e := (h.e fr).1
  have sc := ref2_sc (g := (untieR (M 2) a).2) (r := (untieR (M 2) a).1) hR hz
  refine ⟨_, ref2 (setl (setR M 4 (untieR (M 2) a).2) (untieR (M 2) a).1) (untieR (M 2) a).2 (untieR (M 2) a).1, _, fun d hd => s_X7_untie (by omega) hS ha, fun d hd => ?_, op_mk (WS_ch h.1 hg _) (setl_S M _ _) (setl_4 hg.o) ((ref2_T _ _ _).trans (by rw [sT_of h fr])) ref2_fr sc.1 sc.2.1 sc.2.2⟩
  have g := s_X8_untie (d := d) (by omega) hR ha
  rw [e] at g
  exact g
theorem op_pass {M : gMem} (h : INV M) {a : Int} (ha : inR a) : ∃ M1 M2 v, (∀ d, 12 ≤ d → Go d RX7 cX7_pass 2 (some .int) 0 [some (.inr 0), some (.inl a)] [] M (some (.inl v)) M1) ∧ (∀ d, 12 ≤ d → Go d RX8 cX8_pass 2 (some .int) 0 [some (.inr 16), some (.inl a)] [] M1 (some (.inl v)) M2) ∧ INV M2 := by
  have hS := h.s
  have hg := passR_W hS.1 a
  have fr : ∀ k, 16 ≤ k → (setl (setR M 4 (passR (M 2) a).2) (passR (M 2) a).1) k = M k := setl_fr
  obtain ⟨hR, hz, hx⟩ := h.r fr
  have e := (h.e fr).1
  have sc := ref2_sc (g := (passR (M 2) a).2) (r := (passR (M 2) a).1) hR hz
  refine ⟨_, ref2 (setl (setR M 4 (passR (M 2) a).2) (passR (M 2) a).1) (passR (M 2) a).2 (passR (M 2) a).1, _, fun d hd => s_X7_pass (by omega) hS ha, fun d hd => ?_, op_mk (WS_ch h.1 hg _) (setl_S M _ _) (setl_4 hg.o) ((ref2_T _ _ _).trans (by rw [sT_of h fr])) ref2_fr sc.1 sc.2.1 sc.2.2⟩
  have g := s_X8_pass (d := d) (by omega) hR ha
  rw [e] at g
  exact g
theorem op_pull {M : gMem} (h : INV M) {a b : Int} (ha : inR a) (hb : inR b) : ∃ M1 M2 v, (∀ d, 12 ≤ d → Go d RX7 cX7_pull 4 (some .int) 0 [some (.inr 0), some (.inl a), some (.inl b), none] [] M (some (.inl v)) M1) ∧ (∀ d, 12 ≤ d → Go d RX8 cX8_pull 3 (some .int) 0 [some (.inr 16), some (.inl a), some (.inl b)] [] M1 (some (.inl v)) M2) ∧ INV M2 := by
  have hS := h.s
  have hg := pullR_W hS.1 a b
  have fr : ∀ k, 16 ≤ k → (setl (setR M 4 (pullR (M 2) a b).2) (pullR (M 2) a b).1) k = M k := setl_fr
  obtain ⟨hR, hz, hx⟩ := h.r fr
  have e := (h.e fr).1
  have key : ∀ M1 : gMem, InvR M1 → z23 M1 → M1 17 = M 2 → sT (refP M1 a b) = chS (sT M1) (pullR (M 2) a b).2 (pullR (M 2) a b).1 ∧ (∀ k, k < 16 → refP M1 a b k = M1 k) ∧ Oz (refP M1 a b 19) ∧ Oz (refP M1 a b 20) ∧ z23 (refP M1 a b) := by
    intro M1 hR hz e
    unfold refP
    rw [e]
    by_cases c : pullOk (M 2) a b
    · rw [if_pos c]
      have hp := pullR_p hS.1 c
      refine ⟨?_, fun k hk => ?_, ?_, hR.2.2.1, pullMv_z hS.1 a b⟩
      · unfold chS
        rw [if_neg hp, okM_T, pullR_y c]
        rfl
      · rw [okM_fr k hk, setR_n (by omega), setR_n (by omega)]
      · exact hR.1.o
    · rw [if_neg c]
      refine ⟨?_, fun k hk => setR_n (by omega), ?_, hR.2.2.1, hz⟩
      · unfold chS
        rw [pullR_n c, if_pos (show (-1000001 : Int) < 0 by decide)]
        rfl
      · show Oz (M 2)
        exact hS.1.o
  obtain ⟨k1, k2, k3, k4, k5⟩ := key _ hR hz e
  refine ⟨_, refP (setl (setR M 4 (pullR (M 2) a b).2) (pullR (M 2) a b).1) a b, _, fun d hd => s_X7_pull (by omega) hS ha hb, fun d hd => ?_, op_mk (WS_ch h.1 hg _) (setl_S M _ _) (setl_4 hg.o) (k1.trans (by rw [sT_of h fr])) k2 k3 k4 k5⟩
  have g := s_X8_pull (d := d) (by omega) hR ha hb hz
  rw [e] at g
  exact g
theorem op_untell {M : gMem} (h : INV M) : ∃ M1 M2 v, (∀ d, 12 ≤ d → Go d RX7 cX7_untell 1 (some .int) 0 [some (.inr 0)] [] M (some (.inl v)) M1) ∧ (∀ d, 12 ≤ d → Go d RX8 cX8_untell 3 (some .int) 0 [some (.inr 16), none, none] [] M1 (some (.inl v)) M2) ∧ INV M2 := by
  have hS := h.s
  have hn := hS.1.n
  have hb := toldF_b hS.1
  have hg := (untZ_W hS.1 hn.1 (Int.le_refl _)).1
  have fr : ∀ k, 16 ≤ k → (setl (setR M 4 (untZ (M 2) (M 2 0))) (toldF (M 2))) k = M k := setl_fr
  obtain ⟨hR, hz, hx⟩ := h.r fr
  have e := (h.e fr).1
  refine ⟨_, okM (setl (setR M 4 (untZ (M 2) (M 2 0))) (toldF (M 2))) (untZ (M 2) (M 2 0)), _, fun d hd => s_X7_untell (by omega) hS, fun d hd => ?_, op_mk (WS_ch h.1 hg (toldF (M 2))) (setl_S M _ _) (setl_4 hg.o) ?_ okM_fr hR.1.o hR.2.2.1 hz⟩
  · have g := s_X8_untell (d := d) (by omega) hR
    rw [e] at g
    exact g
  · rw [okM_T, sT_of h fr]
    unfold chS
    rw [if_neg (by omega)]
