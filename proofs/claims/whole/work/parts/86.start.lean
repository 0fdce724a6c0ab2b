/-! the law: classes, statics, texts, links at the start -/
theorem lw_arr {s : State} {args : Array Value} {ty : FieldType} (hh : (Cond.arrayClass ty).before args s = true) (ht : ty = .int ∨ ty = .char) : ∃ cA : ClassId, ArrOfT s cA ty ∧ va_RA s cA ty := by
  obtain ⟨cA, kA, comp, h1, h2, h3⟩ := Cond.arrayClass_spec hh
  refine ⟨cA, fun n z => ⟨fun k h => (by cases h), kA, h2, comp, h3⟩, ?_⟩
  rcases ht with h | h <;> subst h <;> exact h1
theorem lw_known {s : State} {b : Nat} (htb : ∀ w ∈ TB, w.before #[Value.ref b] s = true) : ∃ (G : va_G) (cI cC : ClassId), va_K G vwCl [(cI, .int), (cC, .char)] s := by
  obtain ⟨c0, i0, h0⟩ := u_known (C := RX0) (T := TX0) (N := 2) (n := 2) htb uin_X0 (htb _ is_X0)
  obtain ⟨c1, i1, h1⟩ := u_known (C := RX1) (T := TX1) (N := 1) (n := 1) htb uin_X1 (htb _ is_X1)
  obtain ⟨c2, i2, h2⟩ := u_known (C := RX2) (T := TX2) (N := 8) (n := 8) htb uin_X2 (htb _ is_X2)
  obtain ⟨c3, i3, h3⟩ := u_known (C := RX3) (T := TX3) (N := 4) (n := 4) htb uin_X3 (htb _ is_X3)
  obtain ⟨c4, i4, h4⟩ := u_known (C := RX5) (T := TX5) (N := 2) (n := 2) htb uin_X5 (htb _ is_X5)
  obtain ⟨c5, i5, h5⟩ := u_known (C := RX7) (T := TX7) (N := 6) (n := 6) htb uin_X7 (htb _ is_X7)
  obtain ⟨c6, i6, h6⟩ := u_known (C := RX8) (T := TX8) (N := 17) (n := 17) htb uin_X8 (htb _ is_X8)
  obtain ⟨cI, hI1, hI2⟩ := lw_arr (htb _ ac_int) (Or.inl rfl)
  obtain ⟨cC, hC1, hC2⟩ := lw_arr (htb _ ac_char) (Or.inr rfl)
  refine ⟨(fun k => match k with | 0 => c0 | 1 => c1 | 2 => c2 | 3 => c3 | 4 => c4 | 5 => c5 | _ => c6, fun k => match k with | 0 => i0 | 1 => i1 | 2 => i2 | 3 => i3 | 4 => i4 | 5 => i5 | _ => i6), cI, cC, fun c q hq => ?_, fun k q hq => ?_⟩
  · match c, hq with
    | 0, hq => cases hq; exact h0
    | 1, hq => cases hq; exact h1
    | 2, hq => cases hq; exact h2
    | 3, hq => cases hq; exact h3
    | 4, hq => cases hq; exact h4
    | 5, hq => cases hq; exact h5
    | 6, hq => cases hq; exact h6
    | c + 7, hq => simp [vwCl] at hq
  · match k, hq with
    | 0, hq => cases hq; exact ⟨hI1, hI2⟩
    | 1, hq => cases hq; exact ⟨hC1, hC2⟩
    | k + 2, hq => simp at hq
theorem nw_X7_21 {s : State} {b : Nat} (hts : ∀ w ∈ lw_tbl, w.before #[Value.ref b] s = true) : va_Nw (.methodLinkNest RX7 21 yX0_init "StringShades") s := va_Nw.of rfl (hts _ (List.mem_of_getElem? (i := 88) (by decide +kernel)))
theorem nw_X7_28 {s : State} {b : Nat} (hts : ∀ w ∈ lw_tbl, w.before #[Value.ref b] s = true) : va_Nw (.methodLinkNest RX7 28 yX5_init "StringShades") s := va_Nw.of rfl (hts _ (List.mem_of_getElem? (i := 101) (by decide +kernel)))
theorem nw_X7_35 {s : State} {b : Nat} (hts : ∀ w ∈ lw_tbl, w.before #[Value.ref b] s = true) : va_Nw (.methodLinkNest RX7 35 yX3_init "StringShades") s := va_Nw.of rfl (hts _ (List.mem_of_getElem? (i := 115) (by decide +kernel)))
theorem nw_X7_42 {s : State} {b : Nat} (hts : ∀ w ∈ lw_tbl, w.before #[Value.ref b] s = true) : va_Nw (.methodLinkNest RX7 42 yX2_init "StringShades") s := va_Nw.of rfl (hts _ (List.mem_of_getElem? (i := 134) (by decide +kernel)))
theorem nw_X6_25 {s : State} {b : Nat} (hts : ∀ w ∈ lw_tbl, w.before #[Value.ref b] s = true) : va_Nw (.methodLinkNest RX6 25 yX7_bitOf "StringShades") s := va_Nw.of rfl (hts _ (List.mem_of_getElem? (i := 237) (by decide +kernel)))
theorem nw_X1_36 {s : State} {b : Nat} (hts : ∀ w ∈ lw_tbl, w.before #[Value.ref b] s = true) : va_Nw (.methodLinkNest RX1 36 yX7_bitOf "StringShades") s := va_Nw.of rfl (hts _ (List.mem_of_getElem? (i := 282) (by decide +kernel)))
theorem nw_X3_106 {s : State} {b : Nat} (hts : ∀ w ∈ lw_tbl, w.before #[Value.ref b] s = true) : va_Nw (.methodLinkNest RX3 106 yX7_isError "StringShades") s := va_Nw.of rfl (hts _ (List.mem_of_getElem? (i := 675) (by decide +kernel)))
theorem lw_static {s : State} {b : Nat} (hts : ∀ w ∈ lw_tbl, w.before #[Value.ref b] s = true) (hs : ∀ w ∈ flatC (Jvm.Cond.and given_1 narrow_1), w.before #[Value.ref b] s = true) :
    va_Z "java/lang/String" "COMPACT_STRINGS" "Z" (.int 1) (lA s) s s.heap ∧ ∃ v : Value, va_Z "jdk/internal/util/Preconditions" "SIOOBE_FORMATTER" "Ljava/util/function/BiFunction;" v (lA s) s s.heap ∧ (v = .null ∨ ∃ t, v = .ref t) := by
  refine ⟨va_Zof (hts _ (List.mem_of_getElem? (i := 595) (by decide +kernel))) (hts _ (List.mem_of_getElem? (i := 63) (by decide +kernel))) (va_eqt (hs _ (by decide +kernel))) (fun a h => Nat.not_le.mpr h), ?_⟩
  have hr : (Cond.isRef (.static "jdk/internal/util/Preconditions" "SIOOBE_FORMATTER" "Ljava/util/function/BiFunction;")).before #[Value.ref b] s = true := hs _ (by decide +kernel)
  obtain ⟨v, hv, hv2⟩ := Cond.isRef_spec hr
  refine ⟨v, va_Zof (hts _ (List.mem_of_getElem? (i := 615) (by decide +kernel))) (hts _ (List.mem_of_getElem? (i := 65) (by decide +kernel))) hv (fun a h => Nat.not_le.mpr h), ?_⟩
  cases v with
  | null => exact Or.inl rfl
  | ref t => exact Or.inr ⟨t, rfl⟩
  | _ => simp [Value.isRef] at hv2
theorem lw_text {s : State} {b : Nat} (hts : ∀ w ∈ lw_tbl, w.before #[Value.ref b] s = true) : ∀ i : Nat, i < 6 → (Cond.stringRef RX3 (sIdx i) (sTxt i)).before #[Value.ref b] s = true := by
  intro i hi
  rcases (show i = 0 ∨ i = 1 ∨ i = 2 ∨ i = 3 ∨ i = 4 ∨ i = 5 by omega) with rfl | rfl | rfl | rfl | rfl | rfl
  · exact hts _ (List.mem_of_getElem? (i := 576) (by decide +kernel))
  · exact hts _ (List.mem_of_getElem? (i := 577) (by decide +kernel))
  · exact hts _ (List.mem_of_getElem? (i := 578) (by decide +kernel))
  · exact hts _ (List.mem_of_getElem? (i := 579) (by decide +kernel))
  · exact hts _ (List.mem_of_getElem? (i := 580) (by decide +kernel))
  · exact hts _ (List.mem_of_getElem? (i := 581) (by decide +kernel))
theorem lw_gSt {s : State} {b : Nat} (hts : ∀ w ∈ lw_tbl, w.before #[Value.ref b] s = true) {ad : gAd} {adK adV : Nat → Nat} (hA : ∀ q, gA ad q → lA s q) (hK : ∀ i, i < 6 → ad.1 (100 + i) = adK i) (hV : ∀ i, i < 6 → ad.1 (200 + i) = adV i) (h1 : vk_S 6 sLen sByt adK adV (lA s) s s.heap) (h2 : ∀ i : Nat, i < 6 → (Term.string RX3 (sIdx i)).eval #[Value.ref b] s none [] s = some (.ref (adK i)))
    (h3 : va_Z "java/lang/String" "COMPACT_STRINGS" "Z" (.int 1) (lA s) s s.heap) (h4 : va_Z "jdk/internal/util/Preconditions" "SIOOBE_FORMATTER" "Ljava/util/function/BiFunction;" ad.2 (lA s) s s.heap) : gSt ad s s.heap := by
  have h1' := h1.narrow hA
  refine ⟨⟨fun i hi => ?_, fun i j hi hj e => ?_⟩, h3.narrow hA, h4.narrow hA, fun i hi => ?_, nw_X6_25 hts, nw_X1_36 hts, nw_X3_106 hts⟩
  · have h := h1'.1 i hi
    dsimp only
    rw [hK i hi, hV i hi]
    exact h
  · dsimp only at e
    rw [hK i hi, hK j hj] at e
    exact h1'.2 i j hi hj e
  · rw [hK i hi]
    exact vk_R.of (lw_text hts i hi) (h2 i hi)
