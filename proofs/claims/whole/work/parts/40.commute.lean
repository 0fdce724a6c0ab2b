/-! a step does not look at the strings' cells -/
theorem deepR_u {P : Int → Int} {X v b e : Int} (hX : 63 ≤ X) (e8 : e ≤ 8) : deepR (updI P X v) b e = updI (deepR P b e) X v := by
  funext q
  by_cases z : q = X
  · subst z
    rw [updI_s, deepR_f (by omega), updI_s]
  · rw [updI_n z]
    by_cases y : (q - 10) % 7 = 0 ∧ b ≤ (q - 10) / 7 ∧ (q - 10) / 7 < e
    · rw [deepR_t y, deepR_t y, updI_n z]
    · rw [deepR_f y, deepR_f y, updI_n z]
theorem movR_u {P : Int → Int} {X v b e y : Int} (hX : 63 ≤ X) (e8 : e ≤ 8) : movR (updI P X v) b e y = updI (movR P b e y) X v := by
  funext q
  by_cases z : q = X
  · subst z
    rw [updI_s, movR_f (by omega), updI_s]
  · rw [updI_n z]
    by_cases y : (q - 7) % 7 = 0 ∧ b ≤ (q - 7) / 7 ∧ (q - 7) / 7 < e
    · rw [movR_t y, movR_t y, updI_n z]
    · rw [movR_f y, movR_f y, updI_n z]
theorem badZ_u {P : Int → Int} {X v b e y i : Int} (hX : 63 ≤ X) : badZ (updI P X v) b e y i = badZ P b e y i := by
  unfold badZ
  exact sumZ_c (fun k _ _ => by rw [sc_u hX (by decide) (by decide)])
theorem u0 {P : Int → Int} {X v : Int} (hX : 63 ≤ X) : updI P X v 0 = P 0 := updI_n (by omega)
theorem endG_u {P : Int → Int} {X v b : Int} (hX : 63 ≤ X) (hW : Wf P) (b0 : 0 ≤ b) (b1 : b < P 0) : endG (updI P X v) b = endG P b :=
  endG_c (u0 hX) (fun k _ _ => by rw [sc_u hX (by decide) (by decide)]) b0 (by rw [u0 hX]; exact b1) (by rw [u0 hX]; exact hW.n.2)
theorem gst_X {u w X v b : Int} {P mv : Int → Int} {j : Int} (hX : 63 ≤ X) (hW : Wf P) (b0 : 0 ≤ b) (b1 : b < P 0) : gst u w (updI P X v, mv, j) b = (updI (gst u w (P, mv, j) b).1 X v, (gst u w (P, mv, j) b).2) := by
  have n := hW.n
  have e := endG_b (f := P) b1
  unfold gst
  simp only [endG_u hX hW b0 b1, badZ_u hX, u0 hX, deepR_u hX (show endG P b ≤ 8 by omega), movR_u hX (show endG P b + 1 ≤ 8 by omega)]
  repeat' split
  all_goals rfl
theorem gst_j {u w b : Int} {P mv : Int → Int} {j : Int} : (gst u w (P, mv, j) b).2.2 = j + b2i (¬ gand (gm b (endG P b)) u = 0 ∧ ¬ gand (gm b (endG P b)) w = 0) := by
  by_cases h : ¬ gand (gm b (endG P b)) u = 0 ∧ ¬ gand (gm b (endG P b)) w = 0
  · rw [gst_jam h.1 h.2, b2i_t h]
  · rw [b2i_f h]
    unfold gst
    rw [if_neg h]
    repeat' split
    all_goals (show j = j + 0; omega)
theorem gph_X {u w n X v : Int} (hX : 63 ≤ X) : ∀ (m : Nat) (k : Int) (P mv : Int → Int) (j : Int), (n - k).toNat = m → 0 ≤ k → Wf P → P 0 = n → gph u w n k (updI P X v, mv, j) = (updI (gph u w n k (P, mv, j)).1 X v, (gph u w n k (P, mv, j)).2) := by
  intro m
  induction m with
  | zero =>
    intro k P mv j hm k0 h hn
    rw [gph_out (by omega), gph_out (by omega)]
  | succ m ih =>
    intro k P mv j hm k0 h hn
    rw [gph_go (k := k) (by omega) (updI P X v, mv, j), gph_go (k := k) (by omega) (P, mv, j)]
    show gph u w n (k + 1) (if sc (updI P X v) (k - 1) 3 = 0 then _ else _) = (updI (gph u w n (k + 1) (if sc P (k - 1) 3 = 0 then _ else _)).1 X v, (gph u w n (k + 1) (if sc P (k - 1) 3 = 0 then _ else _)).2)
    rw [sc_u hX (by decide) (by decide)]
    by_cases z : sc P (k - 1) 3 = 0
    · rw [if_pos z, if_pos z, gst_X hX h k0 (by omega)]
      have g := gst_W (u := u) (w := w) (σ := (P, mv, j)) h k0 (by show k < P 0; omega)
      have a := ih (k + 1) (gst u w (P, mv, j) k).1 (gst u w (P, mv, j) k).2.1 (gst u w (P, mv, j) k).2.2 (by omega) (by omega) g.1 ((g.2.1 0 (by omega)).trans hn)
      exact a
    · rw [if_neg z, if_neg z]
      exact ih (k + 1) P mv j (by omega) (by omega) h hn
theorem tieS_X {P mv : Int → Int} {X v k : Int} (hX : 63 ≤ X) (k0 : 0 ≤ k) (k1 : k < 8) : tieS (updI P X v) mv k = updI (tieS P mv k) X v := by
  have e : tieP (updI P X v) mv k ↔ tieP P mv k := by
    unfold tieP
    rw [sc_u hX (by decide) (by decide), sc_u hX (by decide) (by decide), sc_u hX (by decide) (by decide), updI_n (by omega)]
  by_cases h : tieP P mv k
  · rw [tieS_y h, tieS_y (e.mpr h), updI_n (by omega), updI_cm (i := X) (j := 7 + 7 * k + 3) P (by omega), updI_cm (i := X) (j := 4) _ (by omega)]
  · rw [tieS_n h, tieS_n (fun z => h (e.mp z))]
theorem tieZ_X {P mv : Int → Int} {X v : Int} (hX : 63 ≤ X) {i : Int} (i8 : i ≤ 8) : tieZ (updI P X v) mv i = updI (tieZ P mv i) X v := by
  unfold tieZ
  have H : ∀ m : Nat, (m : Int) ≤ 8 → tieN (updI P X v) mv m = updI (tieN P mv m) X v := by
    intro m
    induction m with
    | zero => exact fun _ => rfl
    | succ m ih =>
      intro hm
      show tieS (tieN (updI P X v) mv m) mv m = updI (tieS (tieN P mv m) mv m) X v
      rw [ih (by omega), tieS_X hX (by omega) (by omega)]
  exact H _ (by omega)
theorem step_X {P : Int → Int} {u w X v : Int} (hX : 63 ≤ X) (hW : Wf P) : stepR (updI P X v) u w = updI (stepR P u w) X v ∧ stepJ (updI P X v) u w = stepJ P u w ∧ (stepS (updI P X v) u w).2.1 = (stepS P u w).2.1 := by
  have n := hW.n
  have a := gph_X (u := u) (w := w) (n := P 0) (v := v) hX _ 0 P (fun _ => 0) 0 rfl (by omega) hW rfl
  have b : stepS (updI P X v) u w = (updI (stepS P u w).1 X v, (stepS P u w).2) := by
    unfold stepS
    rw [u0 hX]
    exact a
  refine ⟨?_, by unfold stepJ; rw [b], by rw [b]⟩
  unfold stepR
  rw [b, u0 hX]
  exact tieZ_X hX (by omega)
/-- all that moves, moves by one -/
def mvOk (mv : Int → Int) : Prop := (∀ k, mv k = -1 ∨ mv k = 0 ∨ mv k = 1) ∧ ∀ k, k < 0 ∨ 8 ≤ k → mv k = 0
theorem mvU_ok {mv : Int → Int} (h : mvOk mv) {b e y : Int} (b0 : 0 ≤ b) (e8 : e ≤ 8) (hy : y = 1 ∨ y = -1) : mvOk (mvU mv b e y) := by
  refine ⟨fun k => ?_, fun k hk => ?_⟩
  · have := h.1 k
    unfold mvU
    split <;> omega
  · unfold mvU
    rw [if_neg (by omega)]
    exact h.2 k hk
theorem gst_ok {u w b : Int} {P mv : Int → Int} {j : Int} (h : mvOk mv) (hW : Wf P) (b0 : 0 ≤ b) (b1 : b < P 0) : mvOk (gst u w (P, mv, j) b).2.1 := by
  have n := hW.n
  have e := endG_b (f := P) b1
  unfold gst
  repeat' split
  all_goals first | exact h | exact mvU_ok h b0 (by show endG P b + 1 ≤ 8; omega) (by decide)
theorem gph_ok {u w n : Int} : ∀ (m : Nat) (k : Int) (P mv : Int → Int) (j : Int), (n - k).toNat = m → 0 ≤ k → Wf P → P 0 = n → mvOk mv → mvOk (gph u w n k (P, mv, j)).2.1 := by
  intro m
  induction m with
  | zero =>
    intro k P mv j hm k0 h hn ho
    rw [gph_out (by omega)]
    exact ho
  | succ m ih =>
    intro k P mv j hm k0 h hn ho
    rw [gph_go (by omega)]
    by_cases z : sc P (k - 1) 3 = 0
    · rw [if_pos z]
      have g := gst_W (u := u) (w := w) (σ := (P, mv, j)) h k0 (by show k < P 0; omega)
      exact ih (k + 1) _ _ (gst u w (P, mv, j) k).2.2 (by omega) (by omega) g.1 ((g.2.1 0 (by omega)).trans hn) (gst_ok ho h k0 (by omega))
    · rw [if_neg z]
      exact ih (k + 1) P mv j (by omega) (by omega) h hn ho
theorem stepS_ok {P : Int → Int} (hW : Wf P) (u w : Int) : mvOk (stepS P u w).2.1 := gph_ok _ 0 P (fun _ => 0) 0 rfl (by omega) hW rfl ⟨fun _ => Or.inr (Or.inl rfl), fun _ _ => rfl⟩
