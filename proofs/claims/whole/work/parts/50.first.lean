/-! of several vectors the first one with the least sum -/
def sumA (v : Int → Int) (n : Int) : Int := sumZ (fun j => ((v j).natAbs : Int)) n
def lexlt (n : Int) (a b : Int → Int) : Prop := ∃ p, 0 ≤ p ∧ p < n ∧ a p < b p ∧ ∀ j, 0 ≤ j → j < p → a j = b j
def agr (n : Int) (a b : Int → Int) : Prop := ∀ j, 0 ≤ j → j < n → a j = b j
def Fst (n : Int) (ok C : (Int → Int) → Prop) (l : Int) (b : Int → Int) (l' : Int) (b' : Int → Int) : Prop :=
  (l' = l ∧ agr n b' b ∧ ∀ v, C v → ok v → l ≤ sumA v n) ∨ (∃ v, C v ∧ ok v ∧ sumA v n < l ∧ l' = sumA v n ∧ agr n b' v ∧ ∀ v', C v' → ok v' → sumA v n ≤ sumA v' n ∧ (lexlt n v' v → sumA v n < sumA v' n))
theorem Fst_seq {n : Int} {ok C1 C2 C : (Int → Int) → Prop} {l l1 l2 : Int} {b b1 b2 : Int → Int} (h1 : Fst n ok C1 l b l1 b1) (h2 : Fst n ok C2 l1 b1 l2 b2) (hC : ∀ v, C v ↔ C1 v ∨ C2 v) (ho : ∀ v1 v2, C1 v1 → C2 v2 → ¬ lexlt n v2 v1) : Fst n ok C l b l2 b2 := by
  rcases h1 with ⟨e1, g1, a1⟩ | ⟨v1, c1, o1, s1, e1, g1, a1⟩ <;> rcases h2 with ⟨e2, g2, a2⟩ | ⟨v2, c2, o2, s2, e2, g2, a2⟩
  · refine Or.inl ⟨e2.trans e1, fun j p q => (g2 j p q).trans (g1 j p q), fun v c o => ?_⟩
    rcases (hC v).mp c with c | c
    · exact a1 v c o
    · have := a2 v c o; omega
  · refine Or.inr ⟨v2, (hC v2).mpr (Or.inr c2), o2, by omega, e2, g2, fun v c o => ?_⟩
    rcases (hC v).mp c with c | c
    · have := a1 v c o
      exact ⟨by omega, fun _ => by omega⟩
    · exact a2 v c o
  · refine Or.inr ⟨v1, (hC v1).mpr (Or.inl c1), o1, s1, e2.trans e1, fun j p q => (g2 j p q).trans (g1 j p q), fun v c o => ?_⟩
    rcases (hC v).mp c with c | c
    · exact a1 v c o
    · have := a2 v c o
      exact ⟨by omega, fun z => absurd z (ho v1 v c1 c)⟩
  · refine Or.inr ⟨v2, (hC v2).mpr (Or.inr c2), o2, by omega, e2, g2, fun v c o => ?_⟩
    rcases (hC v).mp c with c | c
    · have := (a1 v c o).1
      exact ⟨by omega, fun _ => by omega⟩
    · exact a2 v c o
theorem Fst_no {n : Int} {ok C : (Int → Int) → Prop} {l : Int} {b : Int → Int} (h : ∀ v, C v → ok v → l ≤ sumA v n) : Fst n ok C l b l b := Or.inl ⟨rfl, fun _ _ _ => rfl, h⟩
theorem Fst_c {n : Int} {ok C C' : (Int → Int) → Prop} {l l' : Int} {b b' : Int → Int} (h : Fst n ok C l b l' b') (hC : ∀ v, ok v → (C v ↔ C' v)) : Fst n ok C' l b l' b' := by
  rcases h with ⟨e, g, a⟩ | ⟨v, c, o, s, e, g, a⟩
  · exact Or.inl ⟨e, g, fun v c o => a v ((hC v o).mpr c) o⟩
  · exact Or.inr ⟨v, (hC v o).mp c, o, s, e, g, fun v' c' o' => a v' ((hC v' o').mpr c') o'⟩
theorem sumA_c {a b : Int → Int} {n : Int} (h : agr n a b) : sumA a n = sumA b n := sumZ_c (fun j p q => by rw [h j p q])
theorem Fst_leaf {n : Int} {ok C : (Int → Int) → Prop} {l : Int} {b t t' : Int → Int} (hC : ∀ v, C v → agr n v t) (ht : C t) (ho : ok t) (hl : sumA t n < l) (h' : agr n t' t) : Fst n ok C l b (sumA t n) t' := by
  refine Or.inr ⟨t, ht, ho, hl, rfl, h', fun v c _ => ?_⟩
  have e := sumA_c (hC v c)
  refine ⟨by omega, fun z => ?_⟩
  obtain ⟨p, p0, p1, p2, _⟩ := z
  have := hC v c p p0 p1
  omega
theorem lex_tot (a b : Int → Int) (m : Nat) : agr m a b ∨ lexlt m a b ∨ lexlt m b a := by
  induction m with
  | zero => exact Or.inl (fun j p q => by omega)
  | succ m ih =>
    rcases ih with h | h | h
    · rcases Int.lt_trichotomy (a m) (b m) with z | z | z
      · exact Or.inr (Or.inl ⟨m, by omega, by omega, z, h⟩)
      · refine Or.inl (fun j p q => ?_)
        by_cases e : j = m
        · rw [e]; exact z
        · exact h j p (by omega)
      · exact Or.inr (Or.inr ⟨m, by omega, by omega, z, fun j p q => (h j p q).symm⟩)
    · obtain ⟨p, p0, p1, p2, p3⟩ := h
      exact Or.inr (Or.inl ⟨p, p0, by omega, p2, p3⟩)
    · obtain ⟨p, p0, p1, p2, p3⟩ := h
      exact Or.inr (Or.inr ⟨p, p0, by omega, p2, p3⟩)
/-- there is only one result -/
theorem Fst_one {n : Int} (n0 : 0 ≤ n) {ok C : (Int → Int) → Prop} {l l1 l2 : Int} {b b' b1 b2 : Int → Int} (h1 : Fst n ok C l b l1 b1) (h2 : Fst n ok C l b' l2 b2) : l1 = l2 ∧ (l1 < l → agr n b1 b2) := by
  rcases h1 with ⟨e1, g1, a1⟩ | ⟨v1, c1, o1, s1, e1, g1, a1⟩ <;> rcases h2 with ⟨e2, g2, a2⟩ | ⟨v2, c2, o2, s2, e2, g2, a2⟩
  · exact ⟨by omega, fun z => by omega⟩
  · have := a1 v2 c2 o2
    omega
  · have := a2 v1 c1 o1
    omega
  · have x := a1 v2 c2 o2
    have y := a2 v1 c1 o1
    refine ⟨by omega, fun _ => ?_⟩
    have t := lex_tot v1 v2 n.toNat
    rw [toN n0] at t
    rcases t with t | t | t
    · exact fun j p q => (g1 j p q).trans ((t j p q).trans (g2 j p q).symm)
    · have := y.2 t; omega
    · have := x.2 t; omega
/-- the vectors that go on from t's first s steps -/
def cmpl (n s : Int) (t v : Int → Int) : Prop := agr s v t ∧ ∀ j, s ≤ j → j < n → -9 ≤ v j ∧ v j ≤ 9
/-- those among them with a to x - 1 steps next -/
def cmplB (n s a x : Int) (t v : Int → Int) : Prop := cmpl n s t v ∧ a ≤ v s ∧ v s < x
theorem cmpl_next {n s x : Int} {t v : Int → Int} (s0 : 0 ≤ s) (s1 : s < n) (hx : -9 ≤ x ∧ x ≤ 9) : cmpl n (s + 1) (updI t s x) v ↔ cmpl n s t v ∧ v s = x := by
  constructor
  · rintro ⟨h1, h2⟩
    have e : v s = x := by rw [h1 s s0 (by omega), updI_s]
    refine ⟨⟨fun j p q => by rw [h1 j p (by omega), updI_n (by omega)], fun j p q => ?_⟩, e⟩
    by_cases z : j = s
    · rw [z, e]; exact hx
    · exact h2 j (by omega) q
  · rintro ⟨⟨h1, h2⟩, e⟩
    refine ⟨fun j p q => ?_, fun j p q => h2 j (by omega) q⟩
    by_cases z : j = s
    · rw [z, updI_s, e]
    · rw [updI_n z, h1 j p (by omega)]
theorem Fst_step {n s a x : Int} {ok : (Int → Int) → Prop} {t : Int → Int} {l l1 l2 : Int} {b b1 b2 : Int → Int} (s0 : 0 ≤ s) (s1 : s < n) (ha : a ≤ x) (hx : -9 ≤ x ∧ x ≤ 9) (h1 : Fst n ok (cmplB n s a x t) l b l1 b1) (h2 : Fst n ok (cmpl n (s + 1) (updI t s x)) l1 b1 l2 b2) : Fst n ok (cmplB n s a (x + 1) t) l b l2 b2 := by
  refine Fst_seq h1 h2 (fun v => ?_) (fun v1 v2 c1 c2 z => ?_)
  · rw [cmpl_next s0 s1 hx]
    unfold cmplB
    constructor
    · rintro ⟨a, c⟩
      by_cases e : v s = x
      · exact Or.inr ⟨a, e⟩
      · exact Or.inl ⟨a, by omega⟩
    · rintro (⟨a, c⟩ | ⟨a, c⟩)
      · exact ⟨a, by omega⟩
      · exact ⟨a, by omega⟩
  · rw [cmpl_next s0 s1 hx] at c2
    obtain ⟨⟨a1, _⟩, c1⟩ := c1
    obtain ⟨⟨a2, _⟩, c2⟩ := c2
    obtain ⟨p, p0, p1, p2, p3⟩ := z
    rcases Int.lt_trichotomy p s with q | q | q
    · have := a1 p p0 q; have := a2 p p0 q; omega
    · subst q; omega
    · have := p3 s s0 q; omega
theorem sumA_s (v : Int → Int) {n : Int} (h : 0 ≤ n) : sumA v (n + 1) = sumA v n + ((v n).natAbs : Int) := sumZ_s _ h
theorem sumA_0 {v : Int → Int} {s : Int} (s0 : 0 ≤ s) : ∀ n, 0 ≤ n → (n ≤ s → sumA (updI v s 0) n = sumA v n) ∧ (s < n → sumA (updI v s 0) n = sumA v n - ((v s).natAbs : Int)) := by
  have H : ∀ m : Nat, ((m : Int) ≤ s → sumA (updI v s 0) m = sumA v m) ∧ (s < (m : Int) → sumA (updI v s 0) m = sumA v m - ((v s).natAbs : Int)) := by
    intro m
    induction m with
    | zero => exact ⟨fun _ => rfl, fun h => by omega⟩
    | succ m ih =>
      have e1 := sumA_s v (n := (m : Int)) (by omega)
      have e2 := sumA_s (updI v s 0) (n := (m : Int)) (by omega)
      rw [show (((m + 1 : Nat) : Int)) = (m : Int) + 1 by omega]
      by_cases z : (m : Int) = s
      · rw [show updI v s 0 (m : Int) = 0 by rw [z, updI_s]] at e2
        rw [z] at e1 e2 ih ⊢
        have := ih.1 (Int.le_refl s)
        exact ⟨fun h => by omega, fun h => by omega⟩
      · rw [updI_n z] at e2
        exact ⟨fun h => by have := ih.1 (by omega); omega, fun h => by have := ih.2 (by omega); omega⟩
  intro n n0
  have := H n.toNat
  rw [toN n0] at this
  exact this
/-- a string that has no effect need not move -/
theorem Fst_zero {n s : Int} {ok : (Int → Int) → Prop} {t : Int → Int} {l l1 : Int} {b b1 : Int → Int} (s0 : 0 ≤ s) (s1 : s < n) (hz : ∀ v, ok v → ok (updI v s 0)) (h : Fst n ok (cmplB n s 0 1 t) l b l1 b1) : Fst n ok (cmpl n s t) l b l1 b1 := by
  have hv : ∀ v, cmpl n s t v → cmplB n s 0 1 t (updI v s 0) ∧ sumA (updI v s 0) n = sumA v n - ((v s).natAbs : Int) := by
    rintro v ⟨h1, h2⟩
    refine ⟨⟨⟨fun j p q => by rw [updI_n (by omega)]; exact h1 j p q, fun j p q => ?_⟩, by rw [updI_s]; omega⟩, (sumA_0 s0 n (by omega)).2 s1⟩
    by_cases z : j = s
    · rw [z, updI_s]; omega
    · rw [updI_n z]; exact h2 j p q
  rcases h with ⟨e, g, a⟩ | ⟨u, c, o, sl, e, g, a⟩
  · refine Or.inl ⟨e, g, fun v cv ov => ?_⟩
    have q := hv v cv
    have := a _ q.1 (hz v ov)
    omega
  · refine Or.inr ⟨u, c.1, o, sl, e, g, fun v cv ov => ?_⟩
    have q := hv v cv
    have r := a _ q.1 (hz v ov)
    refine ⟨by omega, fun z => ?_⟩
    by_cases y : v s = 0
    · exact (a v ⟨cv, by omega⟩ ov).2 z
    · omega
