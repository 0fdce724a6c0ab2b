/-! the reference: vectors and their numbers -/
def codN (v : Int → Int) : Nat → Int
  | 0 => 0
  | m + 1 => 19 * codN v m + (v m + 9)
def codZ (v : Int → Int) (i : Int) : Int := codN v i.toNat
theorem codZ_s (v : Int → Int) {i : Int} (h : 0 ≤ i) : codZ v (i + 1) = 19 * codZ v i + (v i + 9) := by
  unfold codZ
  rw [show (i + 1).toNat = i.toNat + 1 by omega]
  show 19 * _ + (v ((i.toNat : Nat) : Int) + 9) = _
  rw [toN h]
def pwN : Nat → Int
  | 0 => 1
  | m + 1 => 19 * pwN m
def pwZ (i : Int) : Int := pwN i.toNat
theorem pwZ_s {i : Int} (h : 0 ≤ i) : pwZ (i + 1) = 19 * pwZ i := by
  unfold pwZ
  rw [show (i + 1).toNat = i.toNat + 1 by omega]
  rfl
theorem pwN_1 : ∀ m, 1 ≤ pwN m
  | 0 => Int.le_refl 1
  | m + 1 => by
    have := pwN_1 m
    show 1 ≤ 19 * pwN m
    omega
theorem pwZ_b {n : Int} (h0 : 0 ≤ n) (h4 : n ≤ 4) : 1 ≤ pwZ n ∧ pwZ n ≤ 130321 := by
  rcases (by omega : n = 0 ∨ n = 1 ∨ n = 2 ∨ n = 3 ∨ n = 4) with e | e | e | e | e <;> subst e <;> decide
theorem codN_b {v : Int → Int} : ∀ m : Nat, boxV m v → 0 ≤ codN v m ∧ codN v m < pwN m
  | 0, _ => ⟨Int.le_refl 0, show (0 : Int) < 1 by decide⟩
  | m + 1, h => by
    have a := codN_b (v := v) m (fun j p q => h j p (by omega))
    have b := h m (by omega) (by omega)
    show 0 ≤ 19 * codN v m + (v m + 9) ∧ 19 * codN v m + (v m + 9) < 19 * pwN m
    omega
theorem codZ_b {v : Int → Int} {n : Int} (n0 : 0 ≤ n) (h : boxV n v) : 0 ≤ codZ v n ∧ codZ v n < pwZ n := codN_b _ (by rw [toN n0]; exact h)
theorem codN_lex {a b : Int → Int} : ∀ m : Nat, boxV m a → boxV m b → (agr m a b → codN a m = codN b m) ∧ (lexlt m a b → codN a m < codN b m)
  | 0, _, _ => ⟨fun _ => rfl, fun ⟨p, h0, h1, _⟩ => by omega⟩
  | m + 1, ha, hb => by
    have ih := codN_lex (a := a) (b := b) m (fun j p q => ha j p (by omega)) (fun j p q => hb j p (by omega))
    have x := ha m (by omega) (by omega)
    have y := hb m (by omega) (by omega)
    show (_ → 19 * codN a m + (a m + 9) = 19 * codN b m + (b m + 9)) ∧ (_ → 19 * codN a m + (a m + 9) < 19 * codN b m + (b m + 9))
    refine ⟨fun h => ?_, fun ⟨p, h0, h1, h2, h3⟩ => ?_⟩
    · have := ih.1 (fun j p q => h j p (by omega))
      have := h m (by omega) (by omega)
      omega
    · by_cases z : p = (m : Int)
      · have := ih.1 (fun j q r => h3 j q (by omega))
        rw [z] at h2
        omega
      · have := ih.2 ⟨p, h0, by omega, h2, h3⟩
        omega
theorem codZ_lex {a b : Int → Int} {n : Int} (n0 : 0 ≤ n) (ha : boxV n a) (hb : boxV n b) : (agr n a b → codZ a n = codZ b n) ∧ (lexlt n a b → codZ a n < codZ b n) := by
  have := codN_lex (a := a) (b := b) n.toNat (by rw [toN n0]; exact ha) (by rw [toN n0]; exact hb)
  rw [toN n0] at this
  exact this
theorem codZ_one {a b : Int → Int} {n : Int} (n0 : 0 ≤ n) (ha : boxV n a) (hb : boxV n b) (e : codZ a n = codZ b n) : agr n a b := by
  have t := lex_tot a b n.toNat
  rw [toN n0] at t
  rcases t with t | t | t
  · exact t
  · have := (codZ_lex n0 ha hb).2 t; omega
  · have := (codZ_lex n0 hb ha).2 t; omega
/-- what is found among the vectors with a number below c -/
def lowC (n c : Int) (v : Int → Int) : Prop := boxV n v ∧ codZ v n < c
def eqC (n c : Int) (v : Int → Int) : Prop := boxV n v ∧ codZ v n = c
def bsL (best : Int) : Int := if best < 0 then 37 else best
def FI (f b0 : Int → Int) (c best : Int) (p : Int → Int) : Prop := (best = -1 ∨ (0 ≤ best ∧ best ≤ 36)) ∧ Fst (f 1) (okH f (f 0)) (lowC (f 1) c) 37 b0 (bsL best) p
theorem bsL_y {best : Int} (h : best < 0) : bsL best = 37 := if_pos h
theorem bsL_n {best : Int} (h : ¬ best < 0) : bsL best = best := if_neg h
theorem FI_0 {f : Int → Int} (hW : Wf f) (p : Int → Int) : FI f p 0 (-1) p := by
  refine ⟨Or.inl rfl, ?_⟩
  rw [bsL_y (by decide)]
  exact Fst_no (fun v c _ => by have := codZ_b hW.t.1 c.1; have := c.2; omega)
theorem FI_end {f b0 p : Int → Int} {best : Int} (hW : Wf f) (h : FI f b0 (pwZ (f 1)) best p) : LeP f (bsL best) p := ⟨b0, Fst_c h.2 (fun v _ => ⟨fun c => c.1, fun c => ⟨c, (codZ_b hW.t.1 c).2⟩⟩)⟩
theorem FI_s {f b0 p : Int → Int} {c best best2 : Int} {p2 : Int → Int} (hW : Wf f) (hb : best2 = -1 ∨ (0 ≤ best2 ∧ best2 ≤ 36)) (h : FI f b0 c best p) (h2 : Fst (f 1) (okH f (f 0)) (eqC (f 1) c) (bsL best) p (bsL best2) p2) : FI f b0 (c + 1) best2 p2 := by
  refine ⟨hb, Fst_seq h.2 h2 (fun v => ?_) (fun v1 v2 c1 c2 z => ?_)⟩
  · unfold lowC eqC
    constructor
    · rintro ⟨a, b⟩
      by_cases e : codZ v (f 1) = c
      · exact Or.inr ⟨a, e⟩
      · exact Or.inl ⟨a, by omega⟩
    · rintro (⟨a, b⟩ | ⟨a, b⟩)
      · exact ⟨a, by omega⟩
      · exact ⟨a, by omega⟩
  · have := (codZ_lex hW.t.1 c2.1 c1.1).2 z
    have := c1.2
    have := c2.2
    omega
theorem okH_c {f a b : Int → Int} {i : Int} (h : agr (f 1) a b) (o : okH f i a) : okH f i b := fun k p q r => by rw [o k p q r]; exact sumZ_c (fun j x y => by rw [h j x y])
theorem FI_worse {f b0 p t : Int → Int} {c best : Int} (hW : Wf f) (h : FI f b0 c best p) (ht : boxV (f 1) t) (hc : codZ t (f 1) = c) (hs : 0 ≤ best ∧ best ≤ sumA t (f 1)) : FI f b0 (c + 1) best p := by
  refine FI_s hW h.1 h (Fst_no (fun v cv _ => ?_))
  have a := codZ_one hW.t.1 cv.1 ht (by rw [cv.2, hc])
  rw [sumA_c a, bsL_n (by omega)]
  exact hs.2
theorem FI_wrong {f b0 p t : Int → Int} {c best : Int} (hW : Wf f) (h : FI f b0 c best p) (ht : boxV (f 1) t) (hc : codZ t (f 1) = c) (hs : ¬ okH f (f 0) t) : FI f b0 (c + 1) best p := by
  refine FI_s hW h.1 h (Fst_no (fun v cv ov => ?_))
  have a := codZ_one hW.t.1 cv.1 ht (by rw [cv.2, hc])
  exact absurd (okH_c a ov) hs
theorem FI_better {f b0 p t p2 : Int → Int} {c best : Int} (hW : Wf f) (h : FI f b0 c best p) (ht : boxV (f 1) t) (hc : codZ t (f 1) = c) (ho : okH f (f 0) t) (hs : best < 0 ∨ sumA t (f 1) < best) (hp : agr (f 1) p2 t) : FI f b0 (c + 1) (sumA t (f 1)) p2 := by
  have n := hW.t
  have a := sumA_b9 n.1 ht
  refine FI_s hW (Or.inr (by omega)) h ?_
  rw [bsL_n (best := sumA t (f 1)) (by omega)]
  refine Fst_leaf (fun v cv => codZ_one n.1 cv.1 ht (by rw [cv.2, hc])) ⟨ht, hc⟩ ho ?_ hp
  unfold bsL
  split <;> omega
