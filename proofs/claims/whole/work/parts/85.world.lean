/-! the law: what the start gives -/
def row0 : Int → Int := fun j => if j = 2 then 6 else if j = 5 then 4 else if j = 6 then 4 else 0
def M0 : gMem := fun k => match k with
  | 2 => row0
  | 4 => row0
  | 17 => row0
  | 10 => fun j => if j = 7 then 37 else 0
  | _ => fun _ => 0
theorem row0_e : (fun j : Nat => iI (row0 j)) = upd (upd (upd (fun _ => 0) 2 6) 5 4) 6 4 := by
  funext j
  by_cases h6 : j = 6
  · subst h6; rfl
  by_cases h5 : j = 5
  · subst h5; rfl
  by_cases h2 : j = 2
  · subst h2; rfl
  unfold row0 upd
  rw [if_neg (by omega), if_neg (by omega), if_neg (by omega), if_neg h6, if_neg h5, if_neg h2]
  rfl
theorem row0_z {q : Int} (h2 : q ≠ 2) (h5 : q ≠ 5) (h6 : q ≠ 6) : row0 q = 0 := by
  unfold row0
  rw [if_neg h2, if_neg h5, if_neg h6]
theorem row0_W : Wf row0 := by
  refine ⟨by decide, by decide, by decide, by decide, by decide, by decide, fun k k0 k1 => ?_, fun j j0 j1 => ?_, fun k _ k0 k1 => row0_z (by omega) (by omega) (by omega), fun k c k0 k1 c0 c1 => ?_, fun j c j0 j1 c0 c1 => ?_, fun q hq => row0_z (by omega) (by omega) (by omega)⟩
  · rw [row0_z (q := 7 + 7 * k + 0) (by omega) (by omega) (by omega), row0_z (q := 7 + 7 * k + 1) (by omega) (by omega) (by omega), row0_z (q := 7 + 7 * k + 2) (by omega) (by omega) (by omega), row0_z (q := 7 + 7 * k + 3) (by omega) (by omega) (by omega), row0_z (q := 7 + 7 * k + 6) (by omega) (by omega) (by omega)]
    decide
  · rw [row0_z (q := 63 + 4 * j + 0) (by omega) (by omega) (by omega), row0_z (q := 63 + 4 * j + 1) (by omega) (by omega) (by omega)]
    decide
  · have k2 : 0 ≤ k := k0
    exact row0_z (by omega) (by omega) (by omega)
  · have j2 : 0 ≤ j := j0
    exact row0_z (by omega) (by omega) (by omega)
theorem INV_0 : INV M0 := by
  refine ⟨⟨row0_W, ⟨Int.le_refl 0, by decide⟩, fun j j0 j1 => ?_, ⟨⟨Int.le_refl 0, by decide⟩, fun p p0 p1 => ?_⟩⟩, rfl, row0_W.o, fun _ _ => rfl, fun _ _ => rfl, fun _ _ => rfl⟩
  · replace j1 : j < 0 := j1
    omega
  · replace p1 : p < 0 := p1
    omega
theorem en0_0 (ad : gAd) (cI cC : ClassId) : en ad cI cC M0 0 = .inr (5, [.ref (ad.1 1), .ref (ad.1 3), .ref (ad.1 5), .ref (ad.1 7), .ref (ad.1 9), .ref (ad.1 10)]) := by
  rfl
theorem en0_1 (ad : gAd) (cI cC : ClassId) : en ad cI cC M0 1 = .inr (1, [.ref (ad.1 2)]) := by
  rfl
theorem en0_2 (ad : gAd) (cI cC : ClassId) : en ad cI cC M0 2 = .inl (cI, 79, .inl (upd (upd (upd (fun _ => 0) 2 6) 5 4) 6 4)) := by
  show (.inl (cI, 79, .inl (fun j : Nat => iI (row0 j))) : va_E) = _
  rw [row0_e]
theorem en0_3 (ad : gAd) (cI cC : ClassId) : en ad cI cC M0 3 = .inr (1, [.ref (ad.1 4)]) := by
  rfl
theorem en0_4 (ad : gAd) (cI cC : ClassId) : en ad cI cC M0 4 = .inl (cI, 79, .inl (upd (upd (upd (fun _ => 0) 2 6) 5 4) 6 4)) := by
  show (.inl (cI, 79, .inl (fun j : Nat => iI (row0 j))) : va_E) = _
  rw [row0_e]
theorem en0_5 (ad : gAd) (cI cC : ClassId) : en ad cI cC M0 5 = .inr (0, [.ref (ad.1 6), .int 0]) := by
  rfl
theorem en0_6 (ad : gAd) (cI cC : ClassId) : en ad cI cC M0 6 = .inl (cI, 316, .inl (fun _ => 0)) := by
  rfl
theorem en0_7 (ad : gAd) (cI cC : ClassId) : en ad cI cC M0 7 = .inr (4, [.ref (ad.1 8), .int 0]) := by
  rfl
theorem en0_8 (ad : gAd) (cI cC : ClassId) : en ad cI cC M0 8 = .inl (cC, 60, .inl (fun _ => 0)) := by
  rfl
theorem en0_9 (ad : gAd) (cI cC : ClassId) : en ad cI cC M0 9 = .inr (3, [.int 0, .int 0, .int 0, .int 0]) := by
  rfl
theorem en0_10 (ad : gAd) (cI cC : ClassId) : en ad cI cC M0 10 = .inr (2, [.ref (ad.1 11), .ref (ad.1 12), .ref (ad.1 13), .ref (ad.1 14), .ref (ad.1 15), .int 0, .int 0, .int 37]) := by
  rfl
theorem en0_11 (ad : gAd) (cI cC : ClassId) : en ad cI cC M0 11 = .inl (cI, 8, .inl (fun _ => 0)) := by
  rfl
theorem en0_12 (ad : gAd) (cI cC : ClassId) : en ad cI cC M0 12 = .inl (cI, 32, .inl (fun _ => 0)) := by
  rfl
theorem en0_13 (ad : gAd) (cI cC : ClassId) : en ad cI cC M0 13 = .inl (cI, 32, .inl (fun _ => 0)) := by
  rfl
theorem en0_14 (ad : gAd) (cI cC : ClassId) : en ad cI cC M0 14 = .inl (cI, 4, .inl (fun _ => 0)) := by
  rfl
theorem en0_15 (ad : gAd) (cI cC : ClassId) : en ad cI cC M0 15 = .inl (cI, 4, .inl (fun _ => 0)) := by
  rfl
theorem en0_16 (ad : gAd) (cI cC : ClassId) : en ad cI cC M0 16 = .inr (6, [.ref (ad.1 17), .ref (ad.1 18), .ref (ad.1 19), .ref (ad.1 20), .int 0, .ref (ad.1 21), .int 0, .int 0, .int 0, .int 0, .int 0, .int 0, .int 0, .ref (ad.1 22), .ref (ad.1 23), .ref (ad.1 24), .ref (ad.1 25)]) := by
  rfl
theorem en0_17 (ad : gAd) (cI cC : ClassId) : en ad cI cC M0 17 = .inl (cI, 79, .inl (upd (upd (upd (fun _ => 0) 2 6) 5 4) 6 4)) := by
  show (.inl (cI, 79, .inl (fun j : Nat => iI (row0 j))) : va_E) = _
  rw [row0_e]
theorem en0_18 (ad : gAd) (cI cC : ClassId) : en ad cI cC M0 18 = .inl (cI, 316, .inl (fun _ => 0)) := by
  rfl
theorem en0_19 (ad : gAd) (cI cC : ClassId) : en ad cI cC M0 19 = .inl (cI, 79, .inl (fun _ => 0)) := by
  rfl
theorem en0_20 (ad : gAd) (cI cC : ClassId) : en ad cI cC M0 20 = .inl (cI, 79, .inl (fun _ => 0)) := by
  rfl
theorem en0_21 (ad : gAd) (cI cC : ClassId) : en ad cI cC M0 21 = .inl (cC, 60, .inl (fun _ => 0)) := by
  rfl
theorem en0_22 (ad : gAd) (cI cC : ClassId) : en ad cI cC M0 22 = .inl (cI, 8, .inl (fun _ => 0)) := by
  rfl
theorem en0_23 (ad : gAd) (cI cC : ClassId) : en ad cI cC M0 23 = .inl (cI, 8, .inl (fun _ => 0)) := by
  rfl
theorem en0_24 (ad : gAd) (cI cC : ClassId) : en ad cI cC M0 24 = .inl (cI, 4, .inl (fun _ => 0)) := by
  rfl
theorem en0_25 (ad : gAd) (cI cC : ClassId) : en ad cI cC M0 25 = .inl (cI, 4, .inl (fun _ => 0)) := by
  rfl
theorem wd_0 (ad : gAd) (cI cC : ClassId) : wd ad cI cC M0 = [(ad.1 0, .inr (5, [.ref (ad.1 1), .ref (ad.1 3), .ref (ad.1 5), .ref (ad.1 7), .ref (ad.1 9), .ref (ad.1 10)])), (ad.1 1, .inr (1, [.ref (ad.1 2)])), (ad.1 2, .inl (cI, 79, .inl (upd (upd (upd (fun _ => 0) 2 6) 5 4) 6 4))), (ad.1 3, .inr (1, [.ref (ad.1 4)])), (ad.1 4, .inl (cI, 79, .inl (upd (upd (upd (fun _ => 0) 2 6) 5 4) 6 4))), (ad.1 5, .inr (0, [.ref (ad.1 6), .int 0])), (ad.1 6, .inl (cI, 316, .inl (fun _ => 0))), (ad.1 7, .inr (4, [.ref (ad.1 8), .int 0])), (ad.1 8, .inl (cC, 60, .inl (fun _ => 0))), (ad.1 9, .inr (3, [.int 0, .int 0, .int 0, .int 0])), (ad.1 10, .inr (2, [.ref (ad.1 11), .ref (ad.1 12), .ref (ad.1 13), .ref (ad.1 14), .ref (ad.1 15), .int 0, .int 0, .int 37])), (ad.1 11, .inl (cI, 8, .inl (fun _ => 0))), (ad.1 12, .inl (cI, 32, .inl (fun _ => 0))), (ad.1 13, .inl (cI, 32, .inl (fun _ => 0))), (ad.1 14, .inl (cI, 4, .inl (fun _ => 0))), (ad.1 15, .inl (cI, 4, .inl (fun _ => 0))), (ad.1 16, .inr (6, [.ref (ad.1 17), .ref (ad.1 18), .ref (ad.1 19), .ref (ad.1 20), .int 0, .ref (ad.1 21), .int 0, .int 0, .int 0, .int 0, .int 0, .int 0, .int 0, .ref (ad.1 22), .ref (ad.1 23), .ref (ad.1 24), .ref (ad.1 25)])), (ad.1 17, .inl (cI, 79, .inl (upd (upd (upd (fun _ => 0) 2 6) 5 4) 6 4))), (ad.1 18, .inl (cI, 316, .inl (fun _ => 0))), (ad.1 19, .inl (cI, 79, .inl (fun _ => 0))), (ad.1 20, .inl (cI, 79, .inl (fun _ => 0))), (ad.1 21, .inl (cC, 60, .inl (fun _ => 0))), (ad.1 22, .inl (cI, 8, .inl (fun _ => 0))), (ad.1 23, .inl (cI, 8, .inl (fun _ => 0))), (ad.1 24, .inl (cI, 4, .inl (fun _ => 0))), (ad.1 25, .inl (cI, 4, .inl (fun _ => 0)))] := by
  show [(ad.1 0, en ad cI cC M0 0), (ad.1 1, en ad cI cC M0 1), (ad.1 2, en ad cI cC M0 2), (ad.1 3, en ad cI cC M0 3), (ad.1 4, en ad cI cC M0 4), (ad.1 5, en ad cI cC M0 5), (ad.1 6, en ad cI cC M0 6), (ad.1 7, en ad cI cC M0 7), (ad.1 8, en ad cI cC M0 8), (ad.1 9, en ad cI cC M0 9), (ad.1 10, en ad cI cC M0 10), (ad.1 11, en ad cI cC M0 11), (ad.1 12, en ad cI cC M0 12), (ad.1 13, en ad cI cC M0 13), (ad.1 14, en ad cI cC M0 14), (ad.1 15, en ad cI cC M0 15), (ad.1 16, en ad cI cC M0 16), (ad.1 17, en ad cI cC M0 17), (ad.1 18, en ad cI cC M0 18), (ad.1 19, en ad cI cC M0 19), (ad.1 20, en ad cI cC M0 20), (ad.1 21, en ad cI cC M0 21), (ad.1 22, en ad cI cC M0 22), (ad.1 23, en ad cI cC M0 23), (ad.1 24, en ad cI cC M0 24), (ad.1 25, en ad cI cC M0 25)] = _
  rw [en0_0, en0_1, en0_2, en0_3, en0_4, en0_5, en0_6, en0_7, en0_8, en0_9, en0_10, en0_11, en0_12, en0_13, en0_14, en0_15, en0_16, en0_17, en0_18, en0_19, en0_20, en0_21, en0_22, en0_23, en0_24, en0_25]
theorem lw_strings {s : State} {b : Nat} (hs : ∀ w ∈ flatC (Jvm.Cond.and given_1 narrow_1), w.before #[Value.ref b] s = true) : ∃ adK adV : Nat → Nat, vk_S 6 sLen sByt adK adV (lA s) s s.heap ∧ ∀ i : Nat, i < 6 → (Term.string RX3 (sIdx i)).eval #[Value.ref b] s none [] s = some (.ref (adK i)) := by
  refine vk_Sof (tm := fun i => Term.string RX3 (sIdx i)) (len := sLen) (byt := sByt) (A := lA s) ?_ ?_ ?_ ?_ ?_ ?_ ?_ (fun a h => Nat.not_le.mpr h)
  · intro i hi
    rcases (show i = 0 ∨ i = 1 ∨ i = 2 ∨ i = 3 ∨ i = 4 ∨ i = 5 by omega) with rfl | rfl | rfl | rfl | rfl | rfl <;> decide
  · intro i hi
    rcases (show i = 0 ∨ i = 1 ∨ i = 2 ∨ i = 3 ∨ i = 4 ∨ i = 5 by omega) with rfl | rfl | rfl | rfl | rfl | rfl <;> exact hs _ (by decide +kernel)
  · intro i hi
    rcases (show i = 0 ∨ i = 1 ∨ i = 2 ∨ i = 3 ∨ i = 4 ∨ i = 5 by omega) with rfl | rfl | rfl | rfl | rfl | rfl <;> exact hs _ (by decide +kernel)
  · intro i hi
    rcases (show i = 0 ∨ i = 1 ∨ i = 2 ∨ i = 3 ∨ i = 4 ∨ i = 5 by omega) with rfl | rfl | rfl | rfl | rfl | rfl <;> exact hs _ (by decide +kernel)
  · intro i hi
    rcases (show i = 0 ∨ i = 1 ∨ i = 2 ∨ i = 3 ∨ i = 4 ∨ i = 5 by omega) with rfl | rfl | rfl | rfl | rfl | rfl <;> exact hs _ (by decide +kernel)
  · intro i hi
    rcases (show i = 0 ∨ i = 1 ∨ i = 2 ∨ i = 3 ∨ i = 4 ∨ i = 5 by omega) with rfl | rfl | rfl | rfl | rfl | rfl
    · intro j hj
      replace hj : j < 4 := hj
      rcases (show j = 0 ∨ j = 1 ∨ j = 2 ∨ j = 3 by omega) with rfl | rfl | rfl | rfl <;> exact hs _ (by decide +kernel)
    · intro j hj
      replace hj : j < 4 := hj
      rcases (show j = 0 ∨ j = 1 ∨ j = 2 ∨ j = 3 by omega) with rfl | rfl | rfl | rfl <;> exact hs _ (by decide +kernel)
    · intro j hj
      replace hj : j < 5 := hj
      rcases (show j = 0 ∨ j = 1 ∨ j = 2 ∨ j = 3 ∨ j = 4 by omega) with rfl | rfl | rfl | rfl | rfl <;> exact hs _ (by decide +kernel)
    · intro j hj
      replace hj : j < 4 := hj
      rcases (show j = 0 ∨ j = 1 ∨ j = 2 ∨ j = 3 by omega) with rfl | rfl | rfl | rfl <;> exact hs _ (by decide +kernel)
    · intro j hj
      replace hj : j < 4 := hj
      rcases (show j = 0 ∨ j = 1 ∨ j = 2 ∨ j = 3 by omega) with rfl | rfl | rfl | rfl <;> exact hs _ (by decide +kernel)
    · intro j hj
      replace hj : j < 0 := hj
      omega
  · intro i j hi hj hij
    rcases (show i = 0 ∨ i = 1 ∨ i = 2 ∨ i = 3 ∨ i = 4 ∨ i = 5 by omega) with rfl | rfl | rfl | rfl | rfl | rfl
    · rcases (show j = 0 ∨ j = 1 ∨ j = 2 ∨ j = 3 ∨ j = 4 ∨ j = 5 by omega) with rfl | rfl | rfl | rfl | rfl | rfl
      · exact absurd rfl hij
      · exact Or.inl (hs _ (by decide +kernel))
      · exact Or.inl (hs _ (by decide +kernel))
      · exact Or.inl (hs _ (by decide +kernel))
      · exact Or.inl (hs _ (by decide +kernel))
      · exact Or.inl (hs _ (by decide +kernel))
    · rcases (show j = 0 ∨ j = 1 ∨ j = 2 ∨ j = 3 ∨ j = 4 ∨ j = 5 by omega) with rfl | rfl | rfl | rfl | rfl | rfl
      · exact Or.inr (hs _ (by decide +kernel))
      · exact absurd rfl hij
      · exact Or.inl (hs _ (by decide +kernel))
      · exact Or.inl (hs _ (by decide +kernel))
      · exact Or.inl (hs _ (by decide +kernel))
      · exact Or.inl (hs _ (by decide +kernel))
    · rcases (show j = 0 ∨ j = 1 ∨ j = 2 ∨ j = 3 ∨ j = 4 ∨ j = 5 by omega) with rfl | rfl | rfl | rfl | rfl | rfl
      · exact Or.inr (hs _ (by decide +kernel))
      · exact Or.inr (hs _ (by decide +kernel))
      · exact absurd rfl hij
      · exact Or.inl (hs _ (by decide +kernel))
      · exact Or.inl (hs _ (by decide +kernel))
      · exact Or.inl (hs _ (by decide +kernel))
    · rcases (show j = 0 ∨ j = 1 ∨ j = 2 ∨ j = 3 ∨ j = 4 ∨ j = 5 by omega) with rfl | rfl | rfl | rfl | rfl | rfl
      · exact Or.inr (hs _ (by decide +kernel))
      · exact Or.inr (hs _ (by decide +kernel))
      · exact Or.inr (hs _ (by decide +kernel))
      · exact absurd rfl hij
      · exact Or.inl (hs _ (by decide +kernel))
      · exact Or.inl (hs _ (by decide +kernel))
    · rcases (show j = 0 ∨ j = 1 ∨ j = 2 ∨ j = 3 ∨ j = 4 ∨ j = 5 by omega) with rfl | rfl | rfl | rfl | rfl | rfl
      · exact Or.inr (hs _ (by decide +kernel))
      · exact Or.inr (hs _ (by decide +kernel))
      · exact Or.inr (hs _ (by decide +kernel))
      · exact Or.inr (hs _ (by decide +kernel))
      · exact absurd rfl hij
      · exact Or.inl (hs _ (by decide +kernel))
    · rcases (show j = 0 ∨ j = 1 ∨ j = 2 ∨ j = 3 ∨ j = 4 ∨ j = 5 by omega) with rfl | rfl | rfl | rfl | rfl | rfl
      · exact Or.inr (hs _ (by decide +kernel))
      · exact Or.inr (hs _ (by decide +kernel))
      · exact Or.inr (hs _ (by decide +kernel))
      · exact Or.inr (hs _ (by decide +kernel))
      · exact Or.inr (hs _ (by decide +kernel))
      · exact absurd rfl hij
