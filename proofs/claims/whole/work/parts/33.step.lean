/-! a step: what it does to a row -/
/-- the knots of the shades b to e - 1 become deeper -/
def deepR (P : Int → Int) (b e : Int) : Int → Int := fun q => if (q - 10) % 7 = 0 ∧ b ≤ (q - 10) / 7 ∧ (q - 10) / 7 < e then (if P q < 3 then P q + 1 else P q) else P q
/-- the shades b to e - 1 move -/
def movR (P : Int → Int) (b e by' : Int) : Int → Int := fun q => if (q - 7) % 7 = 0 ∧ b ≤ (q - 7) / 7 ∧ (q - 7) / 7 < e then P q + by' else P q
def mvU (mv : Int → Int) (b e by' : Int) : Int → Int := fun k => if b ≤ k ∧ k < e then by' else mv k
/-- how many shades b to e below i can't move -/
abbrev badP (P : Int → Int) (b e by' k : Int) : Prop := b ≤ k ∧ k ≤ e ∧ ¬ (0 ≤ sc P k 0 + by' ∧ sc P k 0 + by' ≤ 9)
def badZ (P : Int → Int) (b e by' i : Int) : Int := sumZ (fun k => b2i (b ≤ k ∧ k ≤ e ∧ ¬ (0 ≤ sc P k 0 + by' ∧ sc P k 0 + by' ≤ 9))) i
theorem badZ_0 {P : Int → Int} {b e by' i : Int} (h0 : 0 ≤ i) : badZ P b e by' i = 0 ↔ ∀ k, 0 ≤ k → k < i → ¬ badP P b e by' k := by
  have H : ∀ n : Nat, (sumN (fun k => b2i (b ≤ k ∧ k ≤ e ∧ ¬ (0 ≤ sc P k 0 + by' ∧ sc P k 0 + by' ≤ 9))) n = 0 ↔ ∀ k : Int, 0 ≤ k → k < n → ¬ badP P b e by' k) ∧ 0 ≤ sumN (fun k => b2i (b ≤ k ∧ k ≤ e ∧ ¬ (0 ≤ sc P k 0 + by' ∧ sc P k 0 + by' ≤ 9))) n := by
    intro n
    induction n with
    | zero => exact ⟨⟨fun _ k h0 h1 => by omega, fun _ => rfl⟩, Int.le_refl 0⟩
    | succ m ih =>
      have hb := b2i_b (b ≤ (m : Int) ∧ (m : Int) ≤ e ∧ ¬ (0 ≤ sc P m 0 + by' ∧ sc P m 0 + by' ≤ 9))
      have es : sumN (fun k => b2i (b ≤ k ∧ k ≤ e ∧ ¬ (0 ≤ sc P k 0 + by' ∧ sc P k 0 + by' ≤ 9))) (m + 1) = sumN (fun k => b2i (b ≤ k ∧ k ≤ e ∧ ¬ (0 ≤ sc P k 0 + by' ∧ sc P k 0 + by' ≤ 9))) m + b2i (b ≤ (m : Int) ∧ (m : Int) ≤ e ∧ ¬ (0 ≤ sc P m 0 + by' ∧ sc P m 0 + by' ≤ 9)) := rfl
      rw [es]
      refine ⟨⟨fun h k h0 h1 => ?_, fun h => ?_⟩, by omega⟩
      · by_cases e1 : k = m
        · subst e1
          intro q
          have := b2i_t (P := b ≤ (m : Int) ∧ (m : Int) ≤ e ∧ ¬ (0 ≤ sc P m 0 + by' ∧ sc P m 0 + by' ≤ 9)) q
          omega
        · exact ih.1.mp (by omega) k h0 (by omega)
      · have h1 := ih.1.mpr (fun k h0 h1 => h k h0 (by omega))
        rw [b2i_f (h m (by omega) (by omega))]
        omega
  have := (H i.toNat).1
  unfold badZ sumZ
  rw [this, toN h0]
theorem deepR_sc {P : Int → Int} {b e k c : Int} (k0 : 0 ≤ k) (k1 : k < 8) (c0 : 0 ≤ c) (c1 : c < 7) : sc (deepR P b e) k c = if c = 3 ∧ b ≤ k ∧ k < e ∧ sc P k 3 < 3 then sc P k c + 1 else sc P k c := by
  rw [sc_in _ _ k0 k1, sc_in _ _ k0 k1, sc_in _ _ k0 k1]
  unfold deepR
  by_cases h : c = 3 ∧ b ≤ k ∧ k < e
  · obtain ⟨rfl, h1, h2⟩ := h
    rw [if_pos (by omega)]
    by_cases h3 : P (7 + 7 * k + 3) < 3
    · rw [if_pos h3, if_pos ⟨rfl, h1, h2, h3⟩]
    · rw [if_neg h3, if_neg (fun z => h3 z.2.2.2)]
  · rw [if_neg (by omega), if_neg (fun z => h ⟨z.1, z.2.1, z.2.2.1⟩)]
theorem movR_sc {P : Int → Int} {b e by' k c : Int} (k0 : 0 ≤ k) (k1 : k < 8) (c0 : 0 ≤ c) (c1 : c < 7) : sc (movR P b e by') k c = if c = 0 ∧ b ≤ k ∧ k < e then sc P k c + by' else sc P k c := by
  rw [sc_in _ _ k0 k1, sc_in _ _ k0 k1]
  unfold movR
  by_cases h : c = 0 ∧ b ≤ k ∧ k < e
  · rw [if_pos (by omega), if_pos h]
  · rw [if_neg (by omega), if_neg h]
theorem deepR_o {P : Int → Int} {b e q : Int} (b0 : 0 ≤ b) (e8 : e ≤ 8) (h : q < 7 ∨ 63 ≤ q) : deepR P b e q = P q := by
  unfold deepR
  rw [if_neg (by omega)]
theorem movR_o {P : Int → Int} {b e by' q : Int} (b0 : 0 ≤ b) (e8 : e ≤ 8) (h : q < 7 ∨ 63 ≤ q) : movR P b e by' q = P q := by
  unfold movR
  rw [if_neg (by omega)]
/-- a row with the same numbers ahead of the shades and behind them, and with shades' cells in range, is as it has to be -/
theorem Wf.of {f g : Int → Int} (h : Wf f) (ho : ∀ q, q < 7 ∨ 63 ≤ q → q ≠ 4 → g q = f q) (h4 : ∀ k c, 0 ≤ k → k < 8 → 0 ≤ c → c < 7 → rngS c (sc g k c)) (hk : ∀ k, f 0 - 1 ≤ k → 0 ≤ k → k < 8 → sc g k 3 = 0) (hz : ∀ k c, f 0 ≤ k → k < 8 → 0 ≤ c → c < 7 → sc g k c = 0) : Wf g := by
  have n := h.n
  have e0 : g 0 = f 0 := ho 0 (by decide) (by decide)
  have e1 : g 1 = f 1 := ho 1 (by decide) (by decide)
  refine ⟨by rw [e0]; exact h.n, by rw [e1]; exact h.t, by rw [ho 2 (by decide) (by decide)]; exact h.hr, by rw [ho 3 (by decide) (by decide)]; exact h.hs, by rw [ho 5 (by decide) (by decide)]; exact h.df, by rw [ho 6 (by decide) (by decide)]; exact h.lw, ?_, ?_, ?_, ?_, ?_, ?_⟩
  · intro k a b
    have r0 := h4 k 0 a b (by decide) (by decide)
    have r1 := h4 k 1 a b (by decide) (by decide)
    have r2 := h4 k 2 a b (by decide) (by decide)
    have r3 := h4 k 3 a b (by decide) (by decide)
    have r6 := h4 k 6 a b (by decide) (by decide)
    rw [sc_in _ _ a b] at r0 r1 r2 r3 r6
    exact ⟨r0.1 rfl, r1.2.1 rfl, r2.2.2.1 rfl, r3.2.2.2.1 rfl, r6.2.2.2.2 rfl⟩
  · intro j a b
    rw [ho _ (by omega) (by omega), ho _ (by omega) (by omega)]
    exact h.2.2.2.2.2.2.2.1 j a b
  · intro k a b c
    rw [e0] at a
    have := hk k a b c
    rw [sc_in _ _ b c] at this
    exact this
  · intro k c a b c0 c1
    rw [e0] at a
    have := hz k c a b c0 c1
    rw [sc_in _ _ (by omega) b] at this
    exact this
  · intro j c a b c0 c1
    rw [e1] at a
    have t := h.t
    rw [ho _ (by omega) (by omega)]
    exact h.2.2.2.2.2.2.2.2.2.2.1 j c a b c0 c1
  · intro q hq
    rw [ho _ (by omega) (by omega)]
    exact h.oz hq
theorem Wf.rs2 {f : Int → Int} (h : Wf f) (k c : Int) : rngS c (sc f k c) := by
  have h0 := h.ht k
  have h1 := h.ah k
  have h2 := h.wa k
  have h3 := h.kn k
  have h6 := h.to k
  refine ⟨fun e => ?_, fun e => ?_, fun e => ?_, fun e => ?_, fun e => ?_⟩ <;> subst e <;> omega
theorem deepR_W {P : Int → Int} (h : Wf P) {b e : Int} (b0 : 0 ≤ b) (e1 : e < P 0) : Wf (deepR P b e) := by
  have n := h.n
  refine h.of (fun q hq _ => deepR_o b0 (by omega) hq) (fun k c k0 k1 c0 c1 => ?_) (fun k a k0 k1 => ?_) (fun k c a k1 c0 c1 => ?_)
  · rw [deepR_sc k0 k1 c0 c1]
    have r := h.rs2 k c
    split
    · next z =>
      obtain ⟨rfl, z1, z2, z3⟩ := z
      have := h.kn k
      exact ⟨by omega, by omega, by omega, by omega, by omega⟩
    · exact r
  · rw [deepR_sc k0 k1 (by decide) (by decide), if_neg (by omega)]
    exact h.kz a
  · rw [deepR_sc (by omega) k1 c0 c1, if_neg (by omega)]
    exact h.sz a c0 c1
theorem movR_W {P : Int → Int} (h : Wf P) {b e by' : Int} (b0 : 0 ≤ b) (e1 : e ≤ P 0) (hm : ∀ k, b ≤ k → k < e → 0 ≤ sc P k 0 + by' ∧ sc P k 0 + by' ≤ 9) : Wf (movR P b e by') := by
  have n := h.n
  refine h.of (fun q hq _ => movR_o b0 (by omega) hq) (fun k c k0 k1 c0 c1 => ?_) (fun k a k0 k1 => ?_) (fun k c a k1 c0 c1 => ?_)
  · rw [movR_sc k0 k1 c0 c1]
    have r := h.rs2 k c
    split
    · next z =>
      obtain ⟨rfl, z1, z2⟩ := z
      have := hm k z1 z2
      exact ⟨by omega, by omega, by omega, by omega, by omega⟩
    · exact r
  · rw [movR_sc k0 k1 (by decide) (by decide), if_neg (by omega)]
    exact h.kz a
  · rw [movR_sc (by omega) k1 c0 c1, if_neg (by omega)]
    exact h.sz a c0 c1
/-- groups stay groups where the same knots stay -/
theorem endG_c {f g : Int → Int} (h0 : f 0 = g 0) (h : ∀ k, 0 ≤ k → k < 8 → (0 < sc f k 3 ↔ 0 < sc g k 3)) {k : Int} (k0 : 0 ≤ k) (k1 : k < f 0) (n : f 0 ≤ 8) : endG f k = endG g k := by
  have H : ∀ i : Int, k ≤ i → i ≤ f 0 - 1 → endG f i = endG g i := by
    refine up_ind k (f 0 - 1) _ (fun i a b ih => ?_)
    have hi := h i (by omega) (by omega)
    by_cases q : i + 1 < f 0 ∧ 0 < sc f i 3
    · rw [endG_go q.1 q.2, endG_go (f := g) (by omega) (hi.mp q.2), ih (by omega)]
    · rw [endG_st q, endG_st (f := g) (fun z => q ⟨by omega, hi.mpr z.2⟩)]
  exact H k (Int.le_refl k) (by omega)
theorem begG_c {f g : Int → Int} (h : ∀ k, 0 ≤ k → k < 8 → (0 < sc f k 3 ↔ 0 < sc g k 3)) {k : Int} (k0 : 0 ≤ k) (k1 : k ≤ 8) : begG f k = begG g k := by
  have H : ∀ i : Int, 0 ≤ i → i ≤ k → begG f i = begG g i := by
    refine dn_ind 0 k _ (fun i a b ih => ?_)
    by_cases q : 0 < i ∧ 0 < sc f (i - 1) 3
    · have hi := h (i - 1) (by omega) (by omega)
      rw [begG_go q.1 q.2, begG_go (f := g) q.1 (hi.mp q.2), ih (by omega)]
    · rw [begG_st q, begG_st (f := g) (fun z => q ⟨z.1, (h (i - 1) (by omega) (by omega)).mpr z.2⟩)]
  exact H k k0 (Int.le_refl k)
/-- within a group all knots are there -/
theorem endG_kn {f : Int → Int} {b : Int} : ∀ k, b ≤ k → k < endG f b → 0 < sc f k 3 := by
  intro k hk hk2
  by_cases hb : b < f 0
  · have H : ∀ i : Int, b ≤ i → i ≤ f 0 - 1 → (∀ k, i ≤ k → k < endG f i → 0 < sc f k 3) := by
      refine up_ind b (f 0 - 1) _ (fun i a c ih => ?_)
      intro k k0 k1
      by_cases q : i + 1 < f 0 ∧ 0 < sc f i 3
      · by_cases e : k = i
        · subst e; exact q.2
        · rw [endG_go q.1 q.2] at k1
          exact ih (by omega) k (by omega) k1
      · rw [endG_st q] at k1
        omega
    exact H b (Int.le_refl b) (by omega) k hk hk2
  · rw [endG_st (by omega)] at hk2
    omega
/-- one group's part of a step: the row, what has moved, how many groups have jammed -/
def gst (u w : Int) (σ : (Int → Int) × (Int → Int) × Int) (b : Int) : (Int → Int) × (Int → Int) × Int :=
  if ¬ gand (gm b (endG σ.1 b)) u = 0 ∧ ¬ gand (gm b (endG σ.1 b)) w = 0 then (deepR σ.1 b (endG σ.1 b), σ.2.1, σ.2.2 + 1)
  else if ¬ gand (gm b (endG σ.1 b)) u = 0 then (if badZ σ.1 b (endG σ.1 b) 1 (σ.1 0) = 0 then (movR σ.1 b (endG σ.1 b + 1) 1, mvU σ.2.1 b (endG σ.1 b + 1) 1, σ.2.2) else σ)
  else if ¬ gand (gm b (endG σ.1 b)) w = 0 then (if badZ σ.1 b (endG σ.1 b) (-1) (σ.1 0) = 0 then (movR σ.1 b (endG σ.1 b + 1) (-1), mvU σ.2.1 b (endG σ.1 b + 1) (-1), σ.2.2) else σ)
  else σ
def gphN (u w : Int) : Nat → Int → (Int → Int) × (Int → Int) × Int → (Int → Int) × (Int → Int) × Int
  | 0, _, σ => σ
  | m + 1, k, σ => gphN u w m (k + 1) (if sc σ.1 (k - 1) 3 = 0 then gst u w σ k else σ)
/-- the groups from shade k on, n shades in all -/
def gph (u w n k : Int) (σ : (Int → Int) × (Int → Int) × Int) : (Int → Int) × (Int → Int) × Int := gphN u w (n - k).toNat k σ
theorem gph_go {u w n k : Int} (h : k < n) (σ : (Int → Int) × (Int → Int) × Int) : gph u w n k σ = gph u w n (k + 1) (if sc σ.1 (k - 1) 3 = 0 then gst u w σ k else σ) := by
  unfold gph
  rw [show (n - k).toNat = (n - (k + 1)).toNat + 1 by omega]
  rfl
theorem gph_out {u w n k : Int} (h : n ≤ k) (σ : (Int → Int) × (Int → Int) × Int) : gph u w n k σ = σ := by
  unfold gph
  rw [show (n - k).toNat = 0 by omega]
  rfl
/-- what one group's part keeps -/
theorem gst_W {u w b : Int} {σ : (Int → Int) × (Int → Int) × Int} (h : Wf σ.1) (b0 : 0 ≤ b) (b1 : b < σ.1 0) :
    Wf (gst u w σ b).1 ∧ (∀ q, q < 7 ∨ 63 ≤ q → (gst u w σ b).1 q = σ.1 q) ∧ (∀ k, 0 ≤ k → k < 8 → (0 < sc (gst u w σ b).1 k 3 ↔ 0 < sc σ.1 k 3)) ∧ σ.2.2 ≤ (gst u w σ b).2.2 ∧ (gst u w σ b).2.2 ≤ σ.2.2 + 1 := by
  have n := h.n
  have he := endG_b (f := σ.1) b1
  have hm : ∀ by' : Int, badZ σ.1 b (endG σ.1 b) by' (σ.1 0) = 0 → Wf (movR σ.1 b (endG σ.1 b + 1) by') ∧ (∀ q, q < 7 ∨ 63 ≤ q → movR σ.1 b (endG σ.1 b + 1) by' q = σ.1 q) ∧ (∀ k, 0 ≤ k → k < 8 → (0 < sc (movR σ.1 b (endG σ.1 b + 1) by') k 3 ↔ 0 < sc σ.1 k 3)) := by
    intro by' hz
    rw [badZ_0 n.1] at hz
    refine ⟨movR_W h b0 (by omega) (fun k k0 k1 => ?_), fun q hq => movR_o b0 (by omega) hq, fun k k0 k1 => ?_⟩
    · have := hz k (by omega) (by omega)
      unfold badP at this
      omega
    · rw [movR_sc k0 k1 (by decide) (by decide), if_neg (by omega)]
  unfold gst
  split
  · refine ⟨deepR_W h b0 he.2, fun q hq => deepR_o b0 (by omega) hq, fun k k0 k1 => ?_, by show σ.2.2 ≤ σ.2.2 + 1; omega, Int.le_refl _⟩
    show 0 < sc (deepR σ.1 b (endG σ.1 b)) k 3 ↔ _
    rw [deepR_sc k0 k1 (by decide) (by decide)]
    by_cases z : b ≤ k ∧ k < endG σ.1 b
    · have := endG_kn (f := σ.1) k z.1 z.2
      split <;> omega
    · rw [if_neg (fun y => z ⟨y.2.1, y.2.2.1⟩)]
  · split
    · split
      · next z => exact ⟨(hm 1 z).1, (hm 1 z).2.1, (hm 1 z).2.2, Int.le_refl _, by show σ.2.2 ≤ σ.2.2 + 1; omega⟩
      · exact ⟨h, fun _ _ => rfl, fun _ _ _ => Iff.rfl, Int.le_refl _, by omega⟩
    · split
      · split
        · next z => exact ⟨(hm (-1) z).1, (hm (-1) z).2.1, (hm (-1) z).2.2, Int.le_refl _, by show σ.2.2 ≤ σ.2.2 + 1; omega⟩
        · exact ⟨h, fun _ _ => rfl, fun _ _ _ => Iff.rfl, Int.le_refl _, by omega⟩
      · exact ⟨h, fun _ _ => rfl, fun _ _ _ => Iff.rfl, Int.le_refl _, by omega⟩
/-- behind a group's first shade the next ones are passed over -/
theorem gph_end {u w n b : Int} {σ : (Int → Int) × (Int → Int) × Int} (hb : 0 ≤ b) (hn : σ.1 0 = n) (hb1 : b < n) : gph u w n (b + 1) σ = gph u w n (endG σ.1 b + 1) σ := by
  have H : ∀ i : Int, b ≤ i → i ≤ n - 1 → gph u w n (i + 1) σ = gph u w n (endG σ.1 i + 1) σ := by
    refine up_ind b (n - 1) _ (fun i a c ih => ?_)
    by_cases q : i + 1 < σ.1 0 ∧ 0 < sc σ.1 i 3
    · rw [endG_go q.1 q.2, gph_go (k := i + 1) (by omega), if_neg (by rw [show i + 1 - 1 = i by omega]; omega), ih (by omega)]
    · rw [endG_st q]
  exact H b (Int.le_refl b) (by omega)
/-- new knots: shade k's part, those below i -/
abbrev tieP (P mv : Int → Int) (k : Int) : Prop := sc P k 3 = 0 ∧ mv k * mv (k + 1) < 0 ∧ P 5 ≤ (((sc P k 0 - sc P (k + 1) 0).natAbs : Nat) : Int)
def tieS (P mv : Int → Int) (k : Int) : Int → Int := if tieP P mv k then updI (updI P (7 + 7 * k + 3) 1) 4 (P 4 + 1) else P
def tieN (P mv : Int → Int) : Nat → Int → Int
  | 0 => P
  | m + 1 => tieS (tieN P mv m) mv m
def tieZ (P mv : Int → Int) (i : Int) : Int → Int := tieN P mv i.toNat
theorem tieZ_s (P mv : Int → Int) {i : Int} (h : 0 ≤ i) : tieZ P mv (i + 1) = tieS (tieZ P mv i) mv i := by
  unfold tieZ
  rw [show (i + 1).toNat = i.toNat + 1 by omega]
  show tieS _ mv ((i.toNat : Nat) : Int) = _
  rw [toN h]
theorem tieS_W {P mv : Int → Int} (h : Wf P) {k : Int} (k0 : 0 ≤ k) (k1 : k < P 0 - 1) : Wf (tieS P mv k) ∧ (∀ q, q < 7 → q ≠ 4 → tieS P mv k q = P q) ∧ ∀ q, 63 ≤ q → tieS P mv k q = P q := by
  have n := h.n
  unfold tieS
  split
  · refine ⟨(h.uS k0 (by omega) (by decide) (by decide) ⟨by omega, by omega, by omega, by omega, by omega⟩ (by omega)).uN (by decide) (by decide) ⟨by omega, by omega, by omega, by omega⟩, fun q hq h4 => ?_, fun q hq => ?_⟩
    · rw [updI_n h4, updI_n (by omega)]
    · rw [updI_n (by omega), updI_n (by omega)]
  · exact ⟨h, fun _ _ _ => rfl, fun _ _ => rfl⟩
theorem tieN_W {P mv : Int → Int} (h : Wf P) (m : Nat) (hm : (m : Int) ≤ P 0 - 1) : Wf (tieN P mv m) ∧ (∀ q, q < 7 → q ≠ 4 → tieN P mv m q = P q) ∧ ∀ q, 63 ≤ q → tieN P mv m q = P q := by
  induction m with
  | zero => exact ⟨h, fun _ _ _ => rfl, fun _ _ => rfl⟩
  | succ m ih =>
    have a := ih (by omega)
    have b := tieS_W (mv := mv) a.1 (k := (m : Int)) (by omega) (by rw [a.2.1 0 (by decide) (by decide)]; omega)
    exact ⟨b.1, fun q hq h4 => (b.2.1 q hq h4).trans (a.2.1 q hq h4), fun q hq => (b.2.2 q hq).trans (a.2.2 q hq)⟩
theorem tieZ_W {P mv : Int → Int} (h : Wf P) {i : Int} (hi : i ≤ P 0 - 1 ∨ i ≤ 0) : Wf (tieZ P mv i) ∧ (∀ q, q < 7 → q ≠ 4 → tieZ P mv i q = P q) ∧ ∀ q, 63 ≤ q → tieZ P mv i q = P q := by
  rcases Int.le_total i 0 with z | z
  · unfold tieZ
    rw [show i.toNat = 0 by omega]
    exact ⟨h, fun _ _ _ => rfl, fun _ _ => rfl⟩
  · rcases hi with hi | hi
    · exact tieN_W h _ (by omega)
    · unfold tieZ
      rw [show i.toNat = 0 by omega]
      exact ⟨h, fun _ _ _ => rfl, fun _ _ => rfl⟩
/-- what the groups' part keeps, all of it -/
theorem gph_W {u w n : Int} : ∀ (m : Nat) (k : Int) (σ : (Int → Int) × (Int → Int) × Int), (n - k).toNat = m → 0 ≤ k → Wf σ.1 → σ.1 0 = n → Wf (gph u w n k σ).1 ∧ (∀ q, q < 7 ∨ 63 ≤ q → (gph u w n k σ).1 q = σ.1 q) ∧ σ.2.2 ≤ (gph u w n k σ).2.2 ∧ (gph u w n k σ).2.2 ≤ σ.2.2 + m := by
  intro m
  induction m with
  | zero =>
    intro k σ hm k0 h hn
    rw [gph_out (by omega)]
    exact ⟨h, fun _ _ => rfl, Int.le_refl _, by omega⟩
  | succ m ih =>
    intro k σ hm k0 h hn
    rw [gph_go (by omega)]
    by_cases z : sc σ.1 (k - 1) 3 = 0
    · rw [if_pos z]
      have g := gst_W (u := u) (w := w) h k0 (by omega)
      have a := ih (k + 1) (gst u w σ k) (by omega) (by omega) g.1 (by rw [g.2.1 0 (by omega)]; exact hn)
      exact ⟨a.1, fun q hq => (a.2.1 q hq).trans (g.2.1 q hq), by omega, by omega⟩
    · rw [if_neg z]
      have a := ih (k + 1) σ (by omega) (by omega) h hn
      exact ⟨a.1, a.2.1, by omega, by omega⟩
/-- a step: the row, how many groups jam -/
def stepS (f : Int → Int) (u w : Int) : (Int → Int) × (Int → Int) × Int := gph u w (f 0) 0 (f, fun _ => 0, 0)
def stepR (f : Int → Int) (u w : Int) : Int → Int := tieZ (stepS f u w).1 (stepS f u w).2.1 (f 0 - 1)
def stepJ (f : Int → Int) (u w : Int) : Int := (stepS f u w).2.2
theorem stepR_W {f : Int → Int} (h : Wf f) (u w : Int) : Wf (stepR f u w) ∧ (∀ q, q < 7 → q ≠ 4 → stepR f u w q = f q) ∧ (∀ q, 63 ≤ q → stepR f u w q = f q) ∧ 0 ≤ stepJ f u w ∧ stepJ f u w ≤ 8 := by
  have n := h.n
  have g := gph_W (u := u) (w := w) (n := f 0) _ 0 (f, fun _ => 0, 0) rfl (by omega) h rfl
  have t := tieZ_W (mv := (stepS f u w).2.1) g.1 (i := f 0 - 1) (Or.inl (by rw [g.2.1 0 (by omega)]; exact Int.le_refl _))
  refine ⟨t.1, fun q hq h4 => (t.2.1 q hq h4).trans (g.2.1 q (by omega)), fun q hq => (t.2.2 q hq).trans (g.2.1 q (by omega)), g.2.2.1, ?_⟩
  have := g.2.2.2
  show (gph u w (f 0) 0 (f, fun _ => 0, 0)).2.2 ≤ 8
  have e : (((f 0 - 0).toNat : Nat) : Int) = f 0 := by omega
  rw [e] at this
  show _ ≤ (8 : Int)
  have e2 : ((f, fun _ => 0, 0) : (Int → Int) × (Int → Int) × Int).2.2 = 0 := rfl
  rw [e2] at this
  omega
