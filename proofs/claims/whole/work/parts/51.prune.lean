/-! what the equations leave -/
def effS (eff : Int → Int → Int) (v : Int → Int) (e i : Int) : Int := sumZ (fun j => eff j e * v j) i
def okE (n E : Int) (need : Int → Int) (eff : Int → Int → Int) (v : Int → Int) : Prop := ∀ e, 0 ≤ e → e < E → need e = effS eff v e n
theorem effS_s (eff : Int → Int → Int) (v : Int → Int) (e : Int) {i : Int} (h : 0 ≤ i) : effS eff v e (i + 1) = effS eff v e i + eff i e * v i := sumZ_s _ h
theorem effS_c {eff : Int → Int → Int} {a b : Int → Int} {e i : Int} (h : agr i a b) : effS eff a e i = effS eff b e i := sumZ_c (fun j p q => by rw [h j p q])
theorem okE_c {n E : Int} {need : Int → Int} {eff : Int → Int → Int} {a b : Int → Int} (h : agr n a b) (o : okE n E need eff a) : okE n E need eff b := fun e p q => by rw [o e p q, effS_c h]
theorem mul_01 {a b : Int} (h : a = -1 ∨ a = 0 ∨ a = 1) : -((b.natAbs : Int)) ≤ a * b ∧ a * b ≤ (b.natAbs : Int) ∧ (a = 0 → a * b = 0) ∧ (a = 1 → a * b = b) ∧ (a = -1 → a * b = -b) := by
  rcases h with rfl | rfl | rfl <;> omega
theorem tail_b {eff : Int → Int → Int} {v : Int → Int} {e s n : Int} (s0 : 0 ≤ s) (hs : s ≤ n) (h : ∀ j, 0 ≤ j → j < n → eff j e = -1 ∨ eff j e = 0 ∨ eff j e = 1) : ((effS eff v e n - effS eff v e s).natAbs : Int) ≤ sumA v n - sumA v s := by
  have H : ∀ m : Nat, s + (m : Int) ≤ n → ((effS eff v e (s + m) - effS eff v e s).natAbs : Int) ≤ sumA v (s + m) - sumA v s := by
    intro m
    induction m with
    | zero =>
      intro _
      rw [show s + ((0 : Nat) : Int) = s by omega]
      omega
    | succ m ih =>
      intro hm
      have a := ih (by omega)
      have e1 := effS_s eff v e (i := s + (m : Int)) (by omega)
      have e2 := sumA_s v (n := s + (m : Int)) (by omega)
      have e3 := mul_01 (b := v (s + (m : Int))) (h (s + (m : Int)) (by omega) (by omega))
      rw [show s + (((m + 1 : Nat) : Int)) = s + (m : Int) + 1 by omega]
      omega
  have := H (n - s).toNat (by omega)
  rw [show s + (((n - s).toNat : Nat) : Int) = n by omega] at this
  exact this
/-- the greatest need -/
def grN (f : Int → Int) : Nat → Int
  | 0 => 0
  | m + 1 => max (grN f m) ((f m).natAbs : Int)
def grZ (f : Int → Int) (i : Int) : Int := grN f i.toNat
theorem grZ_s (f : Int → Int) {i : Int} (h : 0 ≤ i) : grZ f (i + 1) = max (grZ f i) ((f i).natAbs : Int) := by
  unfold grZ
  rw [show (i + 1).toNat = i.toNat + 1 by omega]
  show max _ ((f ((i.toNat : Nat) : Int)).natAbs : Int) = _
  rw [toN h]
theorem grN_le {f : Int → Int} {X : Int} (m : Nat) (h0 : 0 ≤ X) (h : ∀ e, 0 ≤ e → e < (m : Int) → ((f e).natAbs : Int) ≤ X) : grN f m ≤ X := by
  induction m with
  | zero => exact h0
  | succ m ih =>
    have a := ih (fun e p q => h e p (by omega))
    have b := h m (by omega) (by omega)
    show max (grN f m) ((f m).natAbs : Int) ≤ X
    omega
theorem grN_ge {f : Int → Int} (m : Nat) : 0 ≤ grN f m ∧ ∀ e, 0 ≤ e → e < (m : Int) → ((f e).natAbs : Int) ≤ grN f m := by
  induction m with
  | zero => exact ⟨Int.le_refl 0, fun e p q => by omega⟩
  | succ m ih =>
    show 0 ≤ max (grN f m) ((f m).natAbs : Int) ∧ ∀ e, 0 ≤ e → e < ((m + 1 : Nat) : Int) → ((f e).natAbs : Int) ≤ max (grN f m) ((f m).natAbs : Int)
    refine ⟨by omega, fun e p q => ?_⟩
    by_cases z : e = m
    · rw [z]; omega
    · have := ih.2 e p (by omega)
      omega
theorem grZ_le {f : Int → Int} {X E : Int} (h0 : 0 ≤ X) (h : ∀ e, 0 ≤ e → e < E → ((f e).natAbs : Int) ≤ X) : grZ f E ≤ X := grN_le _ h0 (fun e p q => h e p (by omega))
theorem grZ_ge (f : Int → Int) (E : Int) : 0 ≤ grZ f E ∧ ∀ e, 0 ≤ e → e < E → ((f e).natAbs : Int) ≤ grZ f E := ⟨(grN_ge _).1, fun e p q => (grN_ge (f := f) E.toNat).2 e p (by omega)⟩
theorem sumA_mono {v : Int → Int} {s n : Int} (s0 : 0 ≤ s) (hs : s ≤ n) : 0 ≤ sumA v n - sumA v s := by
  have := tail_b (eff := fun _ _ => 0) (v := v) (e := 0) s0 hs (fun _ _ _ => Or.inr (Or.inl rfl))
  omega
/-- a step brings an equation nearer by 1 at most -/
theorem prune1 {n E s : Int} {need nd : Int → Int} {eff : Int → Int → Int} {t v : Int → Int} (s0 : 0 ≤ s) (hs : s ≤ n) (hf : ∀ j e, 0 ≤ j → j < n → 0 ≤ e → e < E → eff j e = -1 ∨ eff j e = 0 ∨ eff j e = 1) (hn : ∀ e, 0 ≤ e → e < E → nd e = need e - effS eff t e s) (hc : cmpl n s t v) (ho : okE n E need eff v) : sumA t s + grZ nd E ≤ sumA v n := by
  have e1 := sumA_c hc.1
  have e2 := sumA_mono (v := v) s0 hs
  have := grZ_le (f := nd) (X := sumA v n - sumA v s) (E := E) e2 (fun e p q => by
    have a := tail_b (v := v) (e := e) s0 hs (fun j x y => hf j e x y p q)
    have b := ho e p q
    have c := hn e p q
    have d := effS_c (eff := eff) (e := e) hc.1
    omega)
  omega
/-- the most steps that way -/
def mN (nd ef rc : Int → Int) (way : Int) : Nat → Int → Int → Int → Int
  | 0, _, most, has => if has = 0 then 0 else most
  | m + 1, i, most, has => if ef i = 0 then (if ((nd i).natAbs : Int) ≤ rc i then mN nd ef rc way m (i + 1) most has else -10) else mN nd ef rc way m (i + 1) (min most (way * ef i * nd i + rc i)) 1
theorem mN_b {nd ef rc : Int → Int} {way : Int} (hw : way = 1 ∨ way = -1) : ∀ (m : Nat) (i most has : Int), -45 ≤ most → most ≤ 9 → (∀ e, i ≤ e → e < i + (m : Int) → (-45 ≤ nd e ∧ nd e ≤ 45) ∧ (ef e = -1 ∨ ef e = 0 ∨ ef e = 1) ∧ 0 ≤ rc e ∧ rc e ≤ 72) → -45 ≤ mN nd ef rc way m i most has ∧ mN nd ef rc way m i most has ≤ 9 := by
  intro m
  induction m with
  | zero =>
    intro i most has h0 h1 _
    show -45 ≤ (if has = 0 then 0 else most) ∧ (if has = 0 then 0 else most) ≤ 9
    split <;> omega
  | succ m ih =>
    intro i most has h0 h1 h
    have hi := h i (Int.le_refl i) (by omega)
    have hr : ∀ most has, -45 ≤ most → most ≤ 9 → _ := fun most has a b => ih (i + 1) most has a b (fun e p q => h e (by omega) (by omega))
    unfold mN
    split
    · split
      · exact hr _ _ h0 h1
      · omega
    · refine hr _ _ ?_ ?_
      · have : -45 ≤ way * ef i * nd i := by
          rcases hw with rfl | rfl <;> rcases hi.2.1 with z | z | z <;> rw [z] <;> omega
        omega
      · omega
theorem mN_c {nd ef rc : Int → Int} {way y : Int} (hw : way = 1 ∨ way = -1) : ∀ (m : Nat) (i most has : Int), y ≤ most → (∀ e, i ≤ e → e < i + (m : Int) → (ef e = -1 ∨ ef e = 0 ∨ ef e = 1) ∧ ((nd e - ef e * (way * y)).natAbs : Int) ≤ rc e) → y ≤ mN nd ef rc way m i most has ∨ (has = 0 ∧ (∀ e, i ≤ e → e < i + (m : Int) → ef e = 0) ∧ mN nd ef rc way m i most has = 0) := by
  intro m
  induction m with
  | zero =>
    intro i most has h0 _
    show y ≤ (if has = 0 then 0 else most) ∨ _
    by_cases z : has = 0
    · exact Or.inr ⟨z, fun e p q => by omega, if_pos z⟩
    · rw [if_neg z]
      exact Or.inl h0
  | succ m ih =>
    intro i most has h0 h
    have hi := h i (Int.le_refl i) (by omega)
    unfold mN
    by_cases z : ef i = 0
    · rw [if_pos z, if_pos (by rw [z] at hi; omega)]
      rcases ih (i + 1) most has h0 (fun e p q => h e (by omega) (by omega)) with a | ⟨a, b, c⟩
      · exact Or.inl a
      · refine Or.inr ⟨a, fun e p q => ?_, c⟩
        by_cases w : e = i
        · rw [w]; exact z
        · exact b e (by omega) (by omega)
    · rw [if_neg z]
      have : y ≤ way * ef i * nd i + rc i := by
        rcases hw with rfl | rfl <;> rcases hi.1 with q | q | q <;> rw [q] at hi ⊢ <;> omega
      rcases ih (i + 1) (min most (way * ef i * nd i + rc i)) 1 (by omega) (fun e p q => h e (by omega) (by omega)) with a | ⟨a, _, _⟩
      · exact Or.inl a
      · omega
