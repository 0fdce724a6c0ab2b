/-! more rows of the little machine; sums, rows of cells -/
def b2i (P : Prop) [Decidable P] : Int := if P then 1 else 0
theorem b2i_t {P : Prop} [Decidable P] (h : P) : b2i P = 1 := if_pos h
theorem b2i_f {P : Prop} [Decidable P] (h : ¬ P) : b2i P = 0 := if_neg h
theorem b2i_01 (P : Prop) [Decidable P] : b2i P = 0 ∨ b2i P = 1 := by
  by_cases h : P
  · exact Or.inr (b2i_t h)
  · exact Or.inl (b2i_f h)
theorem inR_b2i (P : Prop) [Decidable P] : inR (b2i P) := by
  rcases b2i_01 P with h | h <;> rw [h] <;> decide
theorem b2i_c {P Q : Prop} [Decidable P] [Decidable Q] (h : P ↔ Q) : b2i P = b2i Q := by
  by_cases p : P
  · rw [b2i_t p, b2i_t (h.mp p)]
  · rw [b2i_f p, b2i_f (fun q => p (h.mpr q))]
theorem setR_top (M : gMem) (k : Nat) (r : Int → Int) (i z : Int) : setR (setR M k r) k (updI (setR M k r k) i z) = setR M k (updI r i z) := by
  funext q
  by_cases h : q = k
  · subst h; rw [setR_s, setR_s, setR_s]
  · rw [setR_n h, setR_n h, setR_n h]
theorem setR_tw (M : gMem) (k : Nat) (r r2 : Int → Int) : setR (setR M k r) k r2 = setR M k r2 := by
  funext q
  by_cases h : q = k
  · subst h; rw [setR_s, setR_s]
  · rw [setR_n h, setR_n h, setR_n h]
theorem setR_id (M : gMem) (k : Nat) : setR M k (M k) = M := by
  funext q
  by_cases h : q = k
  · subst h; rw [setR_s]
  · rw [setR_n h]
theorem setR_cm (M : gMem) {k k2 : Nat} (h : k ≠ k2) (r r2 : Int → Int) : setR (setR M k r) k2 r2 = setR (setR M k2 r2) k r := by
  funext q
  by_cases e : q = k
  · subst e; rw [setR_n h, setR_s, setR_s]
  · by_cases e2 : q = k2
    · subst e2; rw [setR_s, setR_n e, setR_s]
    · rw [setR_n e2, setR_n e, setR_n e, setR_n e2]
theorem updI_id (f : Int → Int) (j : Int) : updI f j (f j) = f := by
  funext q
  unfold updI
  split
  · next h => rw [h]
  · rfl
theorem updI_tw (f : Int → Int) (j a b : Int) : updI (updI f j a) j b = updI f j b := by
  funext q
  unfold updI
  split <;> rfl
theorem updI_cm (f : Int → Int) {i j : Int} (h : i ≠ j) (a b : Int) : updI (updI f i a) j b = updI (updI f j b) i a := by
  funext q
  unfold updI
  split
  · next e => rw [if_neg (by omega)]
  · rfl
section GO4
variable {d : Nat} {own : String} {cc : ByteArray} {nL : Nat} {ret : Option FieldType} {pc : Nat} {L : List (Option MV)} {st : List MV} {M M' : gMem} {v : Option MV}
theorem Go_M {M1 : gMem} (h : M = M1) (k : Go d own cc nL ret pc L st M1 v M') : Go d own cc nL ret pc L st M v M' := h ▸ k
theorem Go_v {v1 : Option MV} {M1 : gMem} (h : v1 = v) (h2 : M1 = M') (k : Go d own cc nL ret pc L st M v1 M1) : Go d own cc nL ret pc L st M v M' := by subst h; subst h2; exact k
theorem Go_LS {L1 : List (Option MV)} {st1 : List MV} (h : L = L1) (h2 : st = st1) (k : Go d own cc nL ret pc L1 st1 M v M') : Go d own cc nL ret pc L st M v M' := by subst h; subst h2; exact k
theorem Go_ifeqB {P : Prop} [Decidable P] {off : Int} {tgt : Nat} (hd : decode cc pc = .ok (.ifCond .eq off, 3)) (ht : (pc : Int) + off = (tgt : Int)) (kt : ¬ P → Go d own cc nL ret tgt L st M v M') (kf : P → Go d own cc nL ret (pc + 3) L st M v M') : Go d own cc nL ret pc L (.inl (b2i P) :: st) M v M' :=
  Go_if_eq hd ht (inR_b2i P) (fun h => kt (fun p => by rw [b2i_t p] at h; cases h)) (fun h => kf (by
    by_cases p : P
    · exact p
    · exact absurd (b2i_f p) h))
theorem Go_ifneB {P : Prop} [Decidable P] {off : Int} {tgt : Nat} (hd : decode cc pc = .ok (.ifCond .ne off, 3)) (ht : (pc : Int) + off = (tgt : Int)) (kt : P → Go d own cc nL ret tgt L st M v M') (kf : ¬ P → Go d own cc nL ret (pc + 3) L st M v M') : Go d own cc nL ret pc L (.inl (b2i P) :: st) M v M' :=
  Go_if_ne hd ht (inR_b2i P) (fun h => kt (by
    by_cases p : P
    · exact p
    · exact absurd (b2i_f p) h)) (fun h => kf (fun p => by rw [b2i_t p] at h; cases h))
end GO4
theorem rc_0 : rcv 0 RX7 := Or.inl ⟨5, _, _, _, by decide, rfl, rfl⟩
theorem rc_1 : rcv 1 RX1 := Or.inl ⟨1, _, _, _, by decide, rfl, rfl⟩
theorem rc_3 : rcv 3 RX1 := Or.inl ⟨1, _, _, _, by decide, rfl, rfl⟩
theorem rc_5 : rcv 5 RX0 := Or.inl ⟨0, _, _, _, by decide, rfl, rfl⟩
theorem rc_7 : rcv 7 RX5 := Or.inl ⟨4, _, _, _, by decide, rfl, rfl⟩
theorem rc_9 : rcv 9 RX3 := Or.inl ⟨3, _, _, _, by decide, rfl, rfl⟩
theorem rc_10 : rcv 10 RX2 := Or.inl ⟨2, _, _, _, by decide, rfl, rfl⟩
theorem rc_16 : rcv 16 RX8 := Or.inl ⟨6, _, _, _, by decide, rfl, rfl⟩
theorem rc_s {i : Nat} (h : i < 6) : rcv (100 + i) "java/lang/String" := Or.inr ⟨i, h, rfl, rfl⟩
/-- going up: what holds at the end holds at each place before -/
theorem up_ind (a n : Int) (P : Int → Prop) (h : ∀ i, a ≤ i → i ≤ n → (i < n → P (i + 1)) → P i) : ∀ i, a ≤ i → i ≤ n → P i := by
  have H : ∀ (m : Nat) (i : Int), a ≤ i → i ≤ n → (n - i).toNat = m → P i := by
    intro m
    induction m with
    | zero => intro i h0 h1 e; exact h i h0 h1 (fun q => by omega)
    | succ m ih => intro i h0 h1 e; exact h i h0 h1 (fun q => ih (i + 1) (by omega) (by omega) (by omega))
  intro i h0 h1
  exact H _ i h0 h1 rfl
/-- going down -/
theorem dn_ind (a n : Int) (P : Int → Prop) (h : ∀ i, a ≤ i → i ≤ n → (a < i → P (i - 1)) → P i) : ∀ i, a ≤ i → i ≤ n → P i := by
  have H : ∀ (m : Nat) (i : Int), a ≤ i → i ≤ n → (i - a).toNat = m → P i := by
    intro m
    induction m with
    | zero => intro i h0 h1 e; exact h i h0 h1 (fun q => by omega)
    | succ m ih => intro i h0 h1 e; exact h i h0 h1 (fun q => ih (i - 1) (by omega) (by omega) (by omega))
  intro i h0 h1
  exact H _ i h0 h1 rfl
def sumN (g : Int → Int) : Nat → Int
  | 0 => 0
  | n + 1 => sumN g n + g n
def sumZ (g : Int → Int) (i : Int) : Int := sumN g i.toNat
theorem sumZ_0 (g : Int → Int) : sumZ g 0 = 0 := rfl
theorem sumZ_s (g : Int → Int) {i : Int} (h : 0 ≤ i) : sumZ g (i + 1) = sumZ g i + g i := by
  unfold sumZ
  rw [show (i + 1).toNat = i.toNat + 1 by omega]
  show sumN g i.toNat + g (i.toNat : Int) = _
  rw [toN h]
theorem sumN_c {g h : Int → Int} (n : Nat) (e : ∀ i : Int, 0 ≤ i → i < n → g i = h i) : sumN g n = sumN h n := by
  induction n with
  | zero => rfl
  | succ m ih =>
    show sumN g m + g m = sumN h m + h m
    rw [ih (fun i h0 h1 => e i h0 (by omega)), e m (by omega) (by omega)]
theorem sumZ_c {g h : Int → Int} {n : Int} (e : ∀ i : Int, 0 ≤ i → i < n → g i = h i) : sumZ g n = sumZ h n := sumN_c _ (fun i h0 h1 => e i h0 (by omega))
theorem sumN_b {g : Int → Int} {a b : Int} (n : Nat) (e : ∀ i : Int, 0 ≤ i → i < n → a ≤ g i ∧ g i ≤ b) : a * n ≤ sumN g n ∧ sumN g n ≤ b * n := by
  induction n with
  | zero => exact ⟨by simp [sumN], by simp [sumN]⟩
  | succ m ih =>
    have h1 := ih (fun i h0 h1 => e i h0 (by omega))
    have h2 := e m (by omega) (by omega)
    have e1 : a * ((m + 1 : Nat) : Int) = a * m + a := by rw [Int.natCast_succ, Int.mul_add, Int.mul_one]
    have e2 : b * ((m + 1 : Nat) : Int) = b * m + b := by rw [Int.natCast_succ, Int.mul_add, Int.mul_one]
    show a * ((m + 1 : Nat) : Int) ≤ sumN g m + g m ∧ sumN g m + g m ≤ b * ((m + 1 : Nat) : Int)
    rw [e1, e2]
    omega
theorem sumZ_b {g : Int → Int} {a b n : Int} (h0 : 0 ≤ n) (e : ∀ i : Int, 0 ≤ i → i < n → a ≤ g i ∧ g i ≤ b) : a * n ≤ sumZ g n ∧ sumZ g n ≤ b * n := by
  have h := sumN_b (g := g) (a := a) (b := b) n.toNat (fun i h1 h2 => e i h1 (by omega))
  rw [toN h0] at h
  exact h
theorem sumZ_b01 {g : Int → Int} {n : Int} (h0 : 0 ≤ n) (e : ∀ i : Int, 0 ≤ i → i < n → 0 ≤ g i ∧ g i ≤ 1) : 0 ≤ sumZ g n ∧ sumZ g n ≤ n := by
  have h := sumZ_b (g := g) (a := 0) (b := 1) h0 e
  rw [Int.zero_mul, Int.one_mul] at h
  exact h
theorem b2i_b (P : Prop) [Decidable P] : 0 ≤ b2i P ∧ b2i P ≤ 1 := by
  rcases b2i_01 P with h | h <;> rw [h] <;> decide
/-- a cell of a shade, and of a string, in the row of numbers -/
def sc (f : Int → Int) (k c : Int) : Int := if 0 ≤ k ∧ k < 8 then f (7 + 7 * k + c) else 0
def tc (f : Int → Int) (j c : Int) : Int := if 0 ≤ j ∧ j < 4 then f (63 + 4 * j + c) else 0
theorem sc_in (f : Int → Int) {k : Int} (c : Int) (h0 : 0 ≤ k) (h1 : k < 8) : sc f k c = f (7 + 7 * k + c) := if_pos ⟨h0, h1⟩
theorem sc_out (f : Int → Int) {k : Int} (c : Int) (h : ¬ (0 ≤ k ∧ k < 8)) : sc f k c = 0 := if_neg h
theorem tc_in (f : Int → Int) {j : Int} (c : Int) (h0 : 0 ≤ j) (h1 : j < 4) : tc f j c = f (63 + 4 * j + c) := if_pos ⟨h0, h1⟩
theorem tc_out (f : Int → Int) {j : Int} (c : Int) (h : ¬ (0 ≤ j ∧ j < 4)) : tc f j c = 0 := if_neg h
/-- what holds of every row of numbers that the runs come to -/
def Wf (f : Int → Int) : Prop :=
  (0 ≤ f 0 ∧ f 0 ≤ 8) ∧ (0 ≤ f 1 ∧ f 1 ≤ 4) ∧ (0 ≤ f 2 ∧ f 2 ≤ 23) ∧ (0 ≤ f 3 ∧ f 3 ≤ 20000) ∧ (1 ≤ f 5 ∧ f 5 ≤ 9) ∧ (0 ≤ f 6 ∧ f 6 ≤ 36) ∧
  (∀ k, 0 ≤ k → k < 8 → (0 ≤ f (7 + 7 * k + 0) ∧ f (7 + 7 * k + 0) ≤ 9) ∧ (0 ≤ f (7 + 7 * k + 1) ∧ f (7 + 7 * k + 1) ≤ 23) ∧ (0 ≤ f (7 + 7 * k + 2) ∧ f (7 + 7 * k + 2) ≤ 36) ∧ (0 ≤ f (7 + 7 * k + 3) ∧ f (7 + 7 * k + 3) ≤ 3) ∧ (-1 ≤ f (7 + 7 * k + 6) ∧ f (7 + 7 * k + 6) ≤ 9)) ∧
  (∀ j, 0 ≤ j → j < 4 → (0 ≤ f (63 + 4 * j + 0) ∧ f (63 + 4 * j + 0) ≤ 255) ∧ (0 ≤ f (63 + 4 * j + 1) ∧ f (63 + 4 * j + 1) ≤ 255)) ∧
  (∀ k, f 0 - 1 ≤ k → 0 ≤ k → k < 8 → f (7 + 7 * k + 3) = 0) ∧
  (∀ k c, f 0 ≤ k → k < 8 → 0 ≤ c → c < 7 → f (7 + 7 * k + c) = 0) ∧ (∀ j c, f 1 ≤ j → j < 4 → 0 ≤ c → c < 4 → f (63 + 4 * j + c) = 0) ∧ (∀ q, q < 0 ∨ 79 ≤ q → f q = 0)
theorem Wf.n {f : Int → Int} (h : Wf f) : 0 ≤ f 0 ∧ f 0 ≤ 8 := h.1
theorem Wf.t {f : Int → Int} (h : Wf f) : 0 ≤ f 1 ∧ f 1 ≤ 4 := h.2.1
theorem Wf.hr {f : Int → Int} (h : Wf f) : 0 ≤ f 2 ∧ f 2 ≤ 23 := h.2.2.1
theorem Wf.hs {f : Int → Int} (h : Wf f) : 0 ≤ f 3 ∧ f 3 ≤ 20000 := h.2.2.2.1
theorem Wf.df {f : Int → Int} (h : Wf f) : 1 ≤ f 5 ∧ f 5 ≤ 9 := h.2.2.2.2.1
theorem Wf.lw {f : Int → Int} (h : Wf f) : 0 ≤ f 6 ∧ f 6 ≤ 36 := h.2.2.2.2.2.1
theorem Wf.ht {f : Int → Int} (h : Wf f) (k : Int) : 0 ≤ sc f k 0 ∧ sc f k 0 ≤ 9 := by
  by_cases q : 0 ≤ k ∧ k < 8
  · rw [sc_in f 0 q.1 q.2]; exact (h.2.2.2.2.2.2.1 k q.1 q.2).1
  · rw [sc_out f 0 q]; decide
theorem Wf.ah {f : Int → Int} (h : Wf f) (k : Int) : 0 ≤ sc f k 1 ∧ sc f k 1 ≤ 23 := by
  by_cases q : 0 ≤ k ∧ k < 8
  · rw [sc_in f 1 q.1 q.2]; exact (h.2.2.2.2.2.2.1 k q.1 q.2).2.1
  · rw [sc_out f 1 q]; decide
theorem Wf.wa {f : Int → Int} (h : Wf f) (k : Int) : 0 ≤ sc f k 2 ∧ sc f k 2 ≤ 36 := by
  by_cases q : 0 ≤ k ∧ k < 8
  · rw [sc_in f 2 q.1 q.2]; exact (h.2.2.2.2.2.2.1 k q.1 q.2).2.2.1
  · rw [sc_out f 2 q]; decide
theorem Wf.kn {f : Int → Int} (h : Wf f) (k : Int) : 0 ≤ sc f k 3 ∧ sc f k 3 ≤ 3 := by
  by_cases q : 0 ≤ k ∧ k < 8
  · rw [sc_in f 3 q.1 q.2]; exact (h.2.2.2.2.2.2.1 k q.1 q.2).2.2.2.1
  · rw [sc_out f 3 q]; decide
theorem Wf.to {f : Int → Int} (h : Wf f) (k : Int) : -1 ≤ sc f k 6 ∧ sc f k 6 ≤ 9 := by
  by_cases q : 0 ≤ k ∧ k < 8
  · rw [sc_in f 6 q.1 q.2]; exact (h.2.2.2.2.2.2.1 k q.1 q.2).2.2.2.2
  · rw [sc_out f 6 q]; decide
theorem Wf.up {f : Int → Int} (h : Wf f) (j : Int) : 0 ≤ tc f j 0 ∧ tc f j 0 ≤ 255 := by
  by_cases q : 0 ≤ j ∧ j < 4
  · rw [tc_in f 0 q.1 q.2]; exact (h.2.2.2.2.2.2.2.1 j q.1 q.2).1
  · rw [tc_out f 0 q]; decide
theorem Wf.dn {f : Int → Int} (h : Wf f) (j : Int) : 0 ≤ tc f j 1 ∧ tc f j 1 ≤ 255 := by
  by_cases q : 0 ≤ j ∧ j < 4
  · rw [tc_in f 1 q.1 q.2]; exact (h.2.2.2.2.2.2.2.1 j q.1 q.2).2
  · rw [tc_out f 1 q]; decide
theorem Wf.kz {f : Int → Int} (h : Wf f) {k : Int} (hk : f 0 - 1 ≤ k) : sc f k 3 = 0 := by
  by_cases q : 0 ≤ k ∧ k < 8
  · rw [sc_in f 3 q.1 q.2]; exact h.2.2.2.2.2.2.2.2.1 k hk q.1 q.2
  · rw [sc_out f 3 q]
theorem Wf.sz {f : Int → Int} (h : Wf f) {k c : Int} (hk : f 0 ≤ k) (h0 : 0 ≤ c) (h1 : c < 7) : sc f k c = 0 := by
  by_cases q : 0 ≤ k ∧ k < 8
  · rw [sc_in f c q.1 q.2]; exact h.2.2.2.2.2.2.2.2.2.1 k c hk q.2 h0 h1
  · rw [sc_out f c q]
theorem Wf.tz {f : Int → Int} (h : Wf f) {j c : Int} (hk : f 1 ≤ j) (h0 : 0 ≤ c) (h1 : c < 4) : tc f j c = 0 := by
  by_cases q : 0 ≤ j ∧ j < 4
  · rw [tc_in f c q.1 q.2]; exact h.2.2.2.2.2.2.2.2.2.2.1 j c hk q.2 h0 h1
  · rw [tc_out f c q]
theorem Wf.oz {f : Int → Int} (h : Wf f) {q : Int} (hq : q < 0 ∨ 79 ≤ q) : f q = 0 := h.2.2.2.2.2.2.2.2.2.2.2 q hq
