/-! bits of small masks -/
theorem iI_n (n : Nat) : iI (n : Int) = nI n := Int32.ofInt_eq_ofNat
theorem nI_or (a b : Nat) : nI a ||| nI b = nI (a ||| b) := by
  apply Int32.toBitVec_inj.mp
  simp [nI]
theorem nI_and (a b : Nat) : nI a &&& nI b = nI (a &&& b) := by
  apply Int32.toBitVec_inj.mp
  simp [nI]
theorem gor_n {a b : Nat} (ha : a < 2147483648) (hb : b < 2147483648) : gor (a : Int) (b : Int) = ((a ||| b : Nat) : Int) := by
  unfold gor
  rw [iI_n, iI_n, nI_or, nI_toInt (Nat.or_lt_two_pow ha hb)]
theorem gand_n {a b : Nat} (ha : a < 2147483648) : gand (a : Int) (b : Int) = ((a &&& b : Nat) : Int) := by
  unfold gand
  rw [iI_n, iI_n, nI_and, nI_toInt (Nat.lt_of_le_of_lt Nat.and_le_left ha)]
theorem gor_b {a b : Int} (ha : 0 ≤ a ∧ a < 256) (hb : 0 ≤ b ∧ b < 256) : 0 ≤ gor a b ∧ gor a b < 256 := by
  obtain ⟨m, rfl⟩ := Int.eq_ofNat_of_zero_le ha.1
  obtain ⟨n, rfl⟩ := Int.eq_ofNat_of_zero_le hb.1
  rw [gor_n (by omega) (by omega)]
  have : m ||| n < 2 ^ 8 := Nat.or_lt_two_pow (by omega) (by omega)
  omega
theorem gor_0 {a : Int} (ha : inR a) : gor a 0 = a := by
  unfold gor
  rw [iI_0]
  have : iI a ||| 0 = iI a := by
    apply Int32.toBitVec_inj.mp
    simp
  rw [this, iI_toInt ha]
theorem gand_cm (a b : Int) : gand a b = gand b a := by
  unfold gand
  rw [Int32.and_comm]
/-- the bits of the shades b to e -/
def gm (b e : Int) : Int := gshl 2 e - gshl 1 b
theorem nat_of {k n : Int} (h0 : 0 ≤ k) (h1 : k < n) : ∃ m : Nat, (m : Int) < n ∧ k = (m : Int) := by
  obtain ⟨m, rfl⟩ := Int.eq_ofNat_of_zero_le h0
  exact ⟨m, h1, rfl⟩
theorem gm_self0 : ∀ s : Nat, s < 8 → gm (s : Int) (s : Int) = gshl 1 (s : Int) := by decide +kernel
theorem gm_dn0 : ∀ l : Nat, l < 8 → ∀ u : Nat, u < 8 → l + 1 ≤ u → gor (gm ((l : Int) + 1) (u : Int)) (gshl 1 (l : Int)) = gm (l : Int) (u : Int) := by decide +kernel
theorem gm_up0 : ∀ l : Nat, l < 8 → ∀ u : Nat, u < 7 → l ≤ u → gor (gm (l : Int) (u : Int)) (gshl 1 ((u : Int) + 1)) = gm (l : Int) ((u : Int) + 1) := by decide +kernel
theorem gm_mem0 : ∀ b : Nat, b < 8 → ∀ e : Nat, e < 8 → ∀ k : Nat, k < 8 → b ≤ e → decide (¬ gand (gm (b : Int) (e : Int)) (gshl 1 (k : Int)) = 0) = decide (b ≤ k ∧ k ≤ e) := by decide +kernel
theorem gm_b0 : ∀ b : Nat, b < 8 → ∀ e : Nat, e < 8 → b ≤ e → 0 ≤ gm (b : Int) (e : Int) ∧ gm (b : Int) (e : Int) < 256 := by decide +kernel
theorem gbit0 : ∀ k : Nat, k < 8 → 0 ≤ gshl 1 (k : Int) ∧ gshl 1 (k : Int) < 256 := by decide +kernel
theorem gm_self {s : Int} (h0 : 0 ≤ s) (h1 : s < 8) : gm s s = gshl 1 s := by
  obtain ⟨m, hm, rfl⟩ := nat_of h0 h1
  exact gm_self0 m (by omega)
theorem gm_dn {l u : Int} (h0 : 0 ≤ l) (h1 : l + 1 ≤ u) (h2 : u < 8) : gor (gm (l + 1) u) (gshl 1 l) = gm l u := by
  obtain ⟨m, hm, rfl⟩ := nat_of h0 (show l < 8 by omega)
  obtain ⟨n, hn, rfl⟩ := nat_of (show 0 ≤ u by omega) h2
  exact gm_dn0 m (by omega) n (by omega) (by omega)
theorem gm_dn2 {l u : Int} (h0 : 0 < l) (h1 : l ≤ u) (h2 : u < 8) : gor (gm l u) (gshl 1 (l - 1)) = gm (l - 1) u := by
  have h := gm_dn (l := l - 1) (u := u) (by omega) (by omega) h2
  rw [show l - 1 + 1 = l by omega] at h
  exact h
theorem gm_up {l u : Int} (h0 : 0 ≤ l) (h1 : l ≤ u) (h2 : u < 7) : gor (gm l u) (gshl 1 (u + 1)) = gm l (u + 1) := by
  obtain ⟨m, hm, rfl⟩ := nat_of h0 (show l < 8 by omega)
  obtain ⟨n, hn, rfl⟩ := nat_of (show 0 ≤ u by omega) h2
  exact gm_up0 m (by omega) n (by omega) (by omega)
theorem gm_mem {b e k : Int} (h0 : 0 ≤ b) (h1 : b ≤ e) (h2 : e < 8) (k0 : 0 ≤ k) (k1 : k < 8) : (¬ gand (gm b e) (gshl 1 k) = 0) ↔ (b ≤ k ∧ k ≤ e) := by
  obtain ⟨m, hm, rfl⟩ := nat_of h0 (show b < 8 by omega)
  obtain ⟨n, hn, rfl⟩ := nat_of (show 0 ≤ e by omega) h2
  obtain ⟨j, hj, rfl⟩ := nat_of k0 k1
  rw [decide_eq_decide.mp (gm_mem0 m (by omega) n (by omega) j (by omega) (by omega))]
  omega
theorem gm_b {b e : Int} (h0 : 0 ≤ b) (h1 : b ≤ e) (h2 : e < 8) : 0 ≤ gm b e ∧ gm b e < 256 := by
  obtain ⟨m, hm, rfl⟩ := nat_of h0 (show b < 8 by omega)
  obtain ⟨n, hn, rfl⟩ := nat_of (show 0 ≤ e by omega) h2
  exact gm_b0 m (by omega) n (by omega) (by omega)
theorem gbit {k : Int} (h0 : 0 ≤ k) (h1 : k < 8) : 0 ≤ gshl 1 k ∧ gshl 1 k < 256 := by
  obtain ⟨m, hm, rfl⟩ := nat_of h0 h1
  exact gbit0 m (by omega)
/-- the set of the shades below n for which P holds -/
def orN (P : Int → Int) : Nat → Int
  | 0 => 0
  | n + 1 => if P n = 0 then orN P n else gor (orN P n) (gshl 1 n)
def orZ (P : Int → Int) (i : Int) : Int := orN P i.toNat
theorem orZ_0 (P : Int → Int) : orZ P 0 = 0 := rfl
theorem orZ_s (P : Int → Int) {i : Int} (h : 0 ≤ i) : orZ P (i + 1) = if P i = 0 then orZ P i else gor (orZ P i) (gshl 1 i) := by
  unfold orZ
  rw [show (i + 1).toNat = i.toNat + 1 by omega]
  show (if P (i.toNat : Int) = 0 then _ else _) = _
  rw [toN h]
theorem orN_b (P : Int → Int) (n : Nat) (hn : n ≤ 8) : 0 ≤ orN P n ∧ orN P n < 256 := by
  induction n with
  | zero => exact ⟨Int.le_refl 0, (by decide : (0 : Int) < 256)⟩
  | succ m ih =>
    have h := ih (by omega)
    unfold orN
    split
    · exact h
    · exact gor_b h (gbit (by omega) (by omega))
theorem orZ_b (P : Int → Int) {i : Int} (h1 : i ≤ 8) : 0 ≤ orZ P i ∧ orZ P i < 256 := orN_b P _ (by omega)
theorem orN_c {P Q : Int → Int} (n : Nat) (e : ∀ i : Int, 0 ≤ i → i < n → (P i = 0 ↔ Q i = 0)) : orN P n = orN Q n := by
  induction n with
  | zero => rfl
  | succ m ih =>
    have h := ih (fun i h0 h1 => e i h0 (by omega))
    have h2 := e m (by omega) (by omega)
    unfold orN
    rw [h]
    by_cases q : P m = 0
    · rw [if_pos q, if_pos (h2.mp q)]
    · rw [if_neg q, if_neg (fun z => q (h2.mpr z))]
theorem orZ_c {P Q : Int → Int} {n : Int} (e : ∀ i : Int, 0 ≤ i → i < n → (P i = 0 ↔ Q i = 0)) : orZ P n = orZ Q n := orN_c _ (fun i h0 h1 => e i h0 (by omega))
/-- the last and the first shade of the group of a shade -/
def endN (f : Int → Int) : Nat → Int → Int
  | 0, k => k
  | m + 1, k => if k + 1 < f 0 ∧ 0 < sc f k 3 then endN f m (k + 1) else k
def endG (f : Int → Int) (k : Int) : Int := endN f (f 0 - k).toNat k
theorem endG_go {f : Int → Int} {k : Int} (h1 : k + 1 < f 0) (h2 : 0 < sc f k 3) : endG f k = endG f (k + 1) := by
  unfold endG
  rw [show (f 0 - k).toNat = (f 0 - (k + 1)).toNat + 1 by omega]
  show (if _ then _ else _) = _
  rw [if_pos ⟨h1, h2⟩]
theorem endG_st {f : Int → Int} {k : Int} (h : ¬ (k + 1 < f 0 ∧ 0 < sc f k 3)) : endG f k = k := by
  unfold endG
  cases (f 0 - k).toNat with
  | zero => rfl
  | succ m =>
    show (if _ then _ else _) = _
    rw [if_neg h]
def begN (f : Int → Int) : Nat → Int → Int
  | 0, k => k
  | m + 1, k => if 0 < k ∧ 0 < sc f (k - 1) 3 then begN f m (k - 1) else k
def begG (f : Int → Int) (k : Int) : Int := begN f k.toNat k
theorem begG_go {f : Int → Int} {k : Int} (h1 : 0 < k) (h2 : 0 < sc f (k - 1) 3) : begG f k = begG f (k - 1) := by
  unfold begG
  rw [show k.toNat = (k - 1).toNat + 1 by omega]
  show (if _ then _ else _) = _
  rw [if_pos ⟨h1, h2⟩]
theorem begG_st {f : Int → Int} {k : Int} (h : ¬ (0 < k ∧ 0 < sc f (k - 1) 3)) : begG f k = k := by
  unfold begG
  cases k.toNat with
  | zero => rfl
  | succ m =>
    show (if _ then _ else _) = _
    rw [if_neg h]
theorem endG_b {f : Int → Int} {k : Int} (hk : k < f 0) : k ≤ endG f k ∧ endG f k < f 0 := by
  have H : ∀ i : Int, k ≤ i → i ≤ f 0 - 1 → (i ≤ endG f i ∧ endG f i < f 0) := by
    refine up_ind k (f 0 - 1) _ (fun i h0 h1 ih => ?_)
    by_cases h : i + 1 < f 0 ∧ 0 < sc f i 3
    · rw [endG_go h.1 h.2]
      have := ih (by omega)
      omega
    · rw [endG_st h]; omega
  exact H k (by omega) (by omega)
theorem begG_b {f : Int → Int} {k : Int} (hk : 0 ≤ k) : 0 ≤ begG f k ∧ begG f k ≤ k := by
  have H : ∀ i : Int, 0 ≤ i → i ≤ k → (0 ≤ begG f i ∧ begG f i ≤ i) := by
    refine dn_ind 0 k _ (fun i h0 h1 ih => ?_)
    by_cases h : 0 < i ∧ 0 < sc f (i - 1) 3
    · rw [begG_go h.1 h.2]
      have := ih (by omega)
      omega
    · rw [begG_st h]; omega
  exact H k hk (Int.le_refl k)
