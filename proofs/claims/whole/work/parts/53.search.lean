/-! the class: the search -/
def effM (g : Int → Int) : Int → Int → Int := fun j e => g (j * 8 + e)
def EqR (n E : Int) (f12 f13 need : Int → Int) : Prop :=
  (0 ≤ E ∧ E ≤ 8) ∧
  (0 ≤ n ∧ n ≤ 4) ∧
  (∀ j e, 0 ≤ j → j < n → 0 ≤ e → e < E → effM f12 j e = -1 ∨ effM f12 j e = 0 ∨ effM f12 j e = 1) ∧
  (∀ j e, 0 ≤ j → j < n → 0 ≤ e → e < E → 0 ≤ effM f13 j e ∧ effM f13 j e ≤ 72) ∧
  (∀ s e v, 0 ≤ s → s < n → 0 ≤ e → e < E → (∀ j, s < j → j < n → -9 ≤ v j ∧ v j ≤ 9) → ((effS (effM f12) v e n - effS (effM f12) v e (s + 1)).natAbs : Int) ≤ effM f13 s e) ∧
  (∀ e, 0 ≤ e → e < E → -9 ≤ need e ∧ need e ≤ 9)
theorem EqR.e8 {n E : Int} {f12 f13 need : Int → Int} (h : EqR n E f12 f13 need) : 0 ≤ E ∧ E ≤ 8 := h.1
theorem EqR.n4 {n E : Int} {f12 f13 need : Int → Int} (h : EqR n E f12 f13 need) : 0 ≤ n ∧ n ≤ 4 := h.2.1
theorem EqR.ef {n E : Int} {f12 f13 need : Int → Int} (h : EqR n E f12 f13 need) : ∀ j e, 0 ≤ j → j < n → 0 ≤ e → e < E → effM f12 j e = -1 ∨ effM f12 j e = 0 ∨ effM f12 j e = 1 := h.2.2.1
theorem EqR.rc {n E : Int} {f12 f13 need : Int → Int} (h : EqR n E f12 f13 need) : ∀ j e, 0 ≤ j → j < n → 0 ≤ e → e < E → 0 ≤ effM f13 j e ∧ effM f13 j e ≤ 72 := h.2.2.2.1
theorem EqR.rr {n E : Int} {f12 f13 need : Int → Int} (h : EqR n E f12 f13 need) : ∀ s e v, 0 ≤ s → s < n → 0 ≤ e → e < E → (∀ j, s < j → j < n → -9 ≤ v j ∧ v j ≤ 9) → ((effS (effM f12) v e n - effS (effM f12) v e (s + 1)).natAbs : Int) ≤ effM f13 s e := h.2.2.2.2.1
theorem EqR.nb {n E : Int} {f12 f13 need : Int → Int} (h : EqR n E f12 f13 need) : ∀ e, 0 ≤ e → e < E → -9 ≤ need e ∧ need e ≤ 9 := h.2.2.2.2.2
def SI (need : Int → Int) (M : gMem) (s : Int) : Prop :=
  (EqR (M 10 6) (M 10 5) (M 12) (M 13) need) ∧
  (0 ≤ s ∧ s ≤ M 10 6) ∧
  (0 ≤ M 10 7 ∧ M 10 7 ≤ 37) ∧
  (∀ j, 0 ≤ j → j < s → -9 ≤ M 14 j ∧ M 14 j ≤ 9) ∧
  (∀ e, 0 ≤ e → e < M 10 5 → M 11 e = need e - effS (effM (M 12)) (M 14) e s)
theorem SI.q {need : Int → Int} {M : gMem} {s : Int} (h : SI need M s) : EqR (M 10 6) (M 10 5) (M 12) (M 13) need := h.1
theorem SI.s4 {need : Int → Int} {M : gMem} {s : Int} (h : SI need M s) : 0 ≤ s ∧ s ≤ M 10 6 := h.2.1
theorem SI.ls {need : Int → Int} {M : gMem} {s : Int} (h : SI need M s) : 0 ≤ M 10 7 ∧ M 10 7 ≤ 37 := h.2.2.1
theorem SI.tr {need : Int → Int} {M : gMem} {s : Int} (h : SI need M s) : ∀ j, 0 ≤ j → j < s → -9 ≤ M 14 j ∧ M 14 j ≤ 9 := h.2.2.2.1
theorem SI.nd {need : Int → Int} {M : gMem} {s : Int} (h : SI need M s) : ∀ e, 0 ≤ e → e < M 10 5 → M 11 e = need e - effS (effM (M 12)) (M 14) e s := h.2.2.2.2
def Inv (need : Int → Int) (C : (Int → Int) → Prop) (M M' : gMem) (s : Int) : Prop :=
  (∀ k, k ≠ 10 → k ≠ 14 → k ≠ 15 → M' k = M k) ∧
  (∀ i, i ≠ 7 → M' 10 i = M 10 i) ∧
  (agr s (M' 14) (M 14)) ∧
  (0 ≤ M' 10 7 ∧ M' 10 7 ≤ 37) ∧
  (Fst (M 10 6) (okE (M 10 6) (M 10 5) need (effM (M 12))) C (M 10 7) (M 15) (M' 10 7) (M' 15))
theorem Inv.fr {need : Int → Int} {C : (Int → Int) → Prop} {M M' : gMem} {s : Int} (h : Inv need C M M' s) : ∀ k, k ≠ 10 → k ≠ 14 → k ≠ 15 → M' k = M k := h.1
theorem Inv.ff {need : Int → Int} {C : (Int → Int) → Prop} {M M' : gMem} {s : Int} (h : Inv need C M M' s) : ∀ i, i ≠ 7 → M' 10 i = M 10 i := h.2.1
theorem Inv.tr {need : Int → Int} {C : (Int → Int) → Prop} {M M' : gMem} {s : Int} (h : Inv need C M M' s) : agr s (M' 14) (M 14) := h.2.2.1
theorem Inv.ls {need : Int → Int} {C : (Int → Int) → Prop} {M M' : gMem} {s : Int} (h : Inv need C M M' s) : 0 ≤ M' 10 7 ∧ M' 10 7 ≤ 37 := h.2.2.2.1
theorem Inv.fs {need : Int → Int} {C : (Int → Int) → Prop} {M M' : gMem} {s : Int} (h : Inv need C M M' s) : Fst (M 10 6) (okE (M 10 6) (M 10 5) need (effM (M 12))) C (M 10 7) (M 15) (M' 10 7) (M' 15) := h.2.2.2.2
theorem sumA_b9 {t : Int → Int} {s : Int} (s0 : 0 ≤ s) (h : ∀ j, 0 ≤ j → j < s → -9 ≤ t j ∧ t j ≤ 9) : 0 ≤ sumA t s ∧ sumA t s ≤ 9 * s := by
  have := sumZ_b (g := fun j => ((t j).natAbs : Int)) (a := 0) (b := 9) s0 (fun i p q => by have := h i p q; show 0 ≤ ((t i).natAbs : Int) ∧ ((t i).natAbs : Int) ≤ 9; omega)
  unfold sumA
  omega
theorem SI.ndb {need : Int → Int} {M : gMem} {s : Int} (h : SI need M s) : ∀ e, 0 ≤ e → e < M 10 5 → -45 ≤ M 11 e ∧ M 11 e ≤ 45 := by
  intro e p q
  have a := h.nd e p q
  have b := h.q.nb e p q
  have s4 := h.s4
  have n4 := h.q.n4
  have c := tail_b (eff := effM (M 12)) (v := M 14) (e := e) (s := 0) (n := s) (Int.le_refl 0) s4.1 (fun j x y => h.q.ef j e x (by omega) p q)
  have d := sumA_b9 s4.1 h.tr
  have z : effS (effM (M 12)) (M 14) e 0 = 0 := rfl
  have z2 : sumA (M 14) 0 = 0 := rfl
  omega
theorem cmpl_c {n s : Int} {t t' v : Int → Int} (h : agr s t t') : cmpl n s t v ↔ cmpl n s t' v := by
  constructor
  · rintro ⟨a, b⟩
    exact ⟨fun j p q => (a j p q).trans (h j p q), b⟩
  · rintro ⟨a, b⟩
    exact ⟨fun j p q => (a j p q).trans (h j p q).symm, b⟩
theorem agr_u {n : Int} {a b : Int → Int} (h : agr n a b) (x : Int) : agr (n + 1) (updI a n x) (updI b n x) := by
  intro j p q
  by_cases z : j = n
  · rw [z, updI_s, updI_s]
  · rw [updI_n z, updI_n z]
    exact h j p (by omega)
theorem Inv.rf {need : Int → Int} {C : (Int → Int) → Prop} {M : gMem} {s : Int} (ls : 0 ≤ M 10 7 ∧ M 10 7 ≤ 37) (h : ∀ v, C v → okE (M 10 6) (M 10 5) need (effM (M 12)) v → M 10 7 ≤ sumA v (M 10 6)) : Inv need C M M s :=
  ⟨fun _ _ _ _ => rfl, fun _ _ => rfl, fun _ _ _ => rfl, ls, Fst_no h⟩
/-- what the most steps leave out -/
theorem prune2 {need : Int → Int} {M : gMem} {s w : Int} (h : SI need M s) (hs : s < M 10 6) (hw : w = 1 ∨ w = -1) {v : Int → Int} (hc : cmpl (M 10 6) s (M 14) v) (ho : okE (M 10 6) (M 10 5) need (effM (M 12)) v) : w * v s ≤ mN (M 11) (fun e => M 12 (s * 8 + e)) (fun e => M 13 (s * 8 + e)) w (M 10 5).toNat 0 9 0 ∨ ((∀ e, 0 ≤ e → e < M 10 5 → M 12 (s * 8 + e) = 0) ∧ mN (M 11) (fun e => M 12 (s * 8 + e)) (fun e => M 13 (s * 8 + e)) w (M 10 5).toNat 0 9 0 = 0) := by
  have s4 := h.s4
  have hv := hc.2 s (Int.le_refl s) hs
  have r := mN_c (nd := M 11) (ef := fun e => M 12 (s * 8 + e)) (rc := fun e => M 13 (s * 8 + e)) (way := w) (y := w * v s) hw (M 10 5).toNat 0 9 0 (by rcases hw with rfl | rfl <;> omega) (fun e p q => by
    have q2 : e < M 10 5 := by omega
    refine ⟨h.q.ef s e s4.1 hs p q2, ?_⟩
    have a := ho e p q2
    have b := h.nd e p q2
    have c := h.q.rr s e v s4.1 hs p q2 (fun j x y => hc.2 j (by omega) y)
    have d := effS_s (effM (M 12)) v e s4.1
    have g := effS_c (eff := effM (M 12)) (e := e) hc.1
    have ww : w * (w * v s) = v s := by rcases hw with rfl | rfl <;> omega
    rw [ww]
    have e1 : effM (M 12) s e = M 12 (s * 8 + e) := rfl
    have e2 : effM (M 13) s e = M 13 (s * 8 + e) := rfl
    rw [e1] at d
    rw [e2] at c
    show ((M 11 e - M 12 (s * 8 + e) * v s).natAbs : Int) ≤ M 13 (s * 8 + e)
    omega)
  rcases r with r | ⟨_, r, z⟩
  · exact Or.inl r
  · exact Or.inr ⟨fun e p q => r e p (by omega), z⟩
theorem SI.mb {need : Int → Int} {M : gMem} {s : Int} (h : SI need M s) (hs : s < M 10 6) : ∀ e, 0 ≤ e → e < M 10 5 → (-45 ≤ M 11 e ∧ M 11 e ≤ 45) ∧ (M 12 (s * 8 + e) = -1 ∨ M 12 (s * 8 + e) = 0 ∨ M 12 (s * 8 + e) = 1) ∧ 0 ≤ M 13 (s * 8 + e) ∧ M 13 (s * 8 + e) ≤ 72 :=
  fun e p q => ⟨h.ndb e p q, h.q.ef s e h.s4.1 hs p q, h.q.rc s e h.s4.1 hs p q⟩
theorem okE_0 {need : Int → Int} {M : gMem} {s : Int} (s0 : 0 ≤ s) (h : ∀ e, 0 ≤ e → e < M 10 5 → M 12 (s * 8 + e) = 0) (v : Int → Int) (ho : okE (M 10 6) (M 10 5) need (effM (M 12)) v) : okE (M 10 6) (M 10 5) need (effM (M 12)) (updI v s 0) := by
  intro e p q
  rw [ho e p q]
  refine sumZ_c (fun j _ _ => ?_)
  by_cases z : j = s
  · show effM (M 12) j e * v j = effM (M 12) j e * updI v s 0 j
    rw [z, show effM (M 12) s e = 0 from h e p q, Int.zero_mul, Int.zero_mul]
  · rw [updI_n z]
