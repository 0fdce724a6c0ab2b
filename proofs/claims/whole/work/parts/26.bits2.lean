/-! which sets have no bit for no shade -/
theorem gall0 : ∀ n : Nat, n < 9 → gshl 1 (n : Int) - 1 = 2 ^ n - 1 ∧ (iI (gshl 1 (n : Int) - 1)).toBitVec.toNat = 2 ^ n - 1 := by decide +kernel
theorem and_in {u : Int} (hu : inR u) {n : Nat} (hn : n < 9) : iI u &&& iI (gshl 1 (n : Int) - 1) = iI u ↔ (0 ≤ u ∧ u ≤ gshl 1 (n : Int) - 1) := by
  obtain ⟨h1, h2⟩ := gall0 n hn
  have hp : (2 : Nat) ^ n ≤ 256 := Nat.le_trans (Nat.pow_le_pow_right (by decide) (show n ≤ 8 by omega)) (by decide)
  have hq : ((2 ^ n : Nat) : Int) = (2 : Int) ^ n := by rw [Int.natCast_pow]; rfl
  have h0 : 0 < 2 ^ n := Nat.two_pow_pos n
  rw [pk_and (iI u) n h2, h1]
  constructor
  · intro h
    have e := congrArg Int32.toInt h
    have hm : (iI u).toBitVec.toNat % 2 ^ n < 2 ^ n := Nat.mod_lt _ h0
    rw [nI_toInt (by omega), iI_toInt hu] at e
    omega
  · intro h
    obtain ⟨m, rfl⟩ := Int.eq_ofNat_of_zero_le h.1
    rw [iI_n, pk_tn (by omega), Nat.mod_eq_of_lt (by omega)]
theorem bits_or (x y m : Int32) : (x ||| y) &&& (m ^^^ (-1)) = 0 ↔ (x &&& m = x ∧ y &&& m = y) := by
  have hb : ∀ (z : Int32), z &&& (m ^^^ (-1)) = 0 ↔ z &&& m = z := by
    intro z
    rw [← Int32.toBitVec_inj, ← Int32.toBitVec_inj]
    constructor
    · intro h
      apply BitVec.eq_of_getLsbD_eq
      intro i hi
      have e := congrArg (fun b : BitVec 32 => b.getLsbD i) h
      simp [hi] at e ⊢
      intro hz
      by_cases q : m.toBitVec.getLsbD i
      · exact q
      · simp_all
    · intro h
      apply BitVec.eq_of_getLsbD_eq
      intro i hi
      have e := congrArg (fun b : BitVec 32 => b.getLsbD i) h
      simp [hi] at e ⊢
      intro hz
      simp_all
  rw [hb]
  rw [← Int32.toBitVec_inj, ← Int32.toBitVec_inj, ← Int32.toBitVec_inj]
  constructor
  · intro h
    constructor
    · apply BitVec.eq_of_getLsbD_eq
      intro i hi
      have e := congrArg (fun b : BitVec 32 => b.getLsbD i) h
      simp [hi] at e ⊢
      intro hz
      exact e (Or.inl hz)
    · apply BitVec.eq_of_getLsbD_eq
      intro i hi
      have e := congrArg (fun b : BitVec 32 => b.getLsbD i) h
      simp [hi] at e ⊢
      intro hz
      exact e (Or.inr hz)
  · intro h
    apply BitVec.eq_of_getLsbD_eq
    intro i hi
    have e1 := congrArg (fun b : BitVec 32 => b.getLsbD i) h.1
    have e2 := congrArg (fun b : BitVec 32 => b.getLsbD i) h.2
    simp [hi] at e1 e2 ⊢
    intro hz
    rcases hz with q | q
    · exact e1 q
    · exact e2 q
theorem str_bits {u w n : Int} (hu : inR u) (hw : inR w) (n0 : 0 ≤ n) (n1 : n ≤ 8) : gand (gor u w) (gxor (gshl 1 n - 1) (-1)) = 0 ↔ ((0 ≤ u ∧ u ≤ gshl 1 n - 1) ∧ (0 ≤ w ∧ w ≤ gshl 1 n - 1)) := by
  obtain ⟨m, hm, rfl⟩ := nat_of n0 (show n < 9 by omega)
  rw [← and_in hu (show m < 9 by omega), ← and_in hw (show m < 9 by omega), ← bits_or]
  unfold gand gor gxor
  rw [iI_of, iI_of, show iI (-1) = -1 from rfl]
  constructor
  · intro h
    have e := congrArg iI h
    rw [iI_of] at e
    exact e
  · intro h
    rw [h]
    rfl
