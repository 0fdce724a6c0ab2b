/-! the reference: a step of a pull -/
theorem mv_mul_b {a b : Int} (ha : a = -1 ∨ a = 0 ∨ a = 1) (hb : b = -1 ∨ b = 0 ∨ b = 1) : -1 ≤ a * b ∧ a * b ≤ 1 := by
  rcases ha with rfl | rfl | rfl <;> rcases hb with rfl | rfl | rfl <;> decide
theorem oz8 {f : Int → Int} {n : Int} (h : ∀ q, q < 0 ∨ 8 ≤ q → f q = 0) (n8 : 8 ≤ n) : (fun q => if 0 ≤ q ∧ q < n then 0 else f q) = fun _ : Int => (0 : Int) := by
  funext q
  by_cases z : 0 ≤ q ∧ q < n
  · exact if_pos z
  · show (if 0 ≤ q ∧ q < n then 0 else f q) = 0
    rw [if_neg z]
    exact h q (by omega)
theorem clr_s {f : Int → Int} {i : Int} (h : 0 ≤ i) : updI (fun q => if 0 ≤ q ∧ q < i then 0 else f q) i 0 = fun q => if 0 ≤ q ∧ q < i + 1 then 0 else f q := by
  funext q
  by_cases z : q = i
  · subst z
    rw [updI_s, if_pos (by omega)]
  · rw [updI_n z]
    by_cases y : 0 ≤ q ∧ q < i
    · rw [if_pos y, if_pos (by omega)]
    · rw [if_neg y, if_neg (by omega)]
theorem clr_0 (f : Int → Int) : (fun q => if 0 ≤ q ∧ q < 0 then 0 else f q) = f := by
  funext q
  rw [if_neg (by omega)]
theorem up_str (a n : Int) (P : Int → Prop) (h : ∀ i, a ≤ i → i ≤ n → (∀ i', i < i' → i' ≤ n → P i') → P i) : ∀ i, a ≤ i → i ≤ n → P i := by
  have H : ∀ i, a ≤ i → i ≤ n → ∀ i', i ≤ i' → i' ≤ n → P i' := by
    refine up_ind a n _ (fun i h0 h1 ih i' q0 q1 => ?_)
    by_cases e : i' = i
    · subst e
      exact h i' h0 h1 (fun k k0 k1 => ih (by omega) k (by omega) k1)
    · exact ih (by omega) i' (by omega) q1
  exact fun i h0 h1 => H i h0 h1 i (Int.le_refl i) h1
theorem s_X8_steps {d : Nat} (hd : 3 ≤ d) {j z : Int} {P : Int → Int} {c : Int} {M : gMem} (hW : Wf P) (hz : z = 0 ∨ z = 1) (j0 : 0 ≤ j) (j1 : j < P 1) (hM : M 17 = updI P (63 + 4 * j + 3) c) (h23 : ∀ q, q < 0 ∨ 8 ≤ q → M 23 q = 0) : Go d RX8 cX8_steps 8 none 0 [some (.inr 16), some (.inl j), some (.inl z), none, none, none, none, none] [] M none (setR (setR M 17 (updI (stepR P (if z = 0 then tc P j 1 else tc P j 0) (if z = 0 then tc P j 0 else tc P j 1)) (63 + 4 * j + 3) (c + stepJ P (if z = 0 then tc P j 1 else tc P j 0) (if z = 0 then tc P j 0 else tc P j 1)))) 23 (stepS P (if z = 0 then tc P j 1 else tc P j 0) (if z = 0 then tc P j 0 else tc P j 1)).2.1) := by
  have hn := hW.n
  have ht := hW.t
  have h0 := hW.up j
  have h1 := hW.dn j
  have hX : (63 : Int) ≤ 63 + 4 * j + 3 := by omega
  have st : ∀ k, (k = 0 ∨ k = 1) → tc (M 17) j k = tc P j k := fun k hk => by rw [hM, tc_in _ _ j0 (by omega), tc_in _ _ j0 (by omega), updI_n (by omega)]
  -- tying
  have KT : ∀ (u w : Int) (mv R : Int → Int) (v : Int), mvOk mv → Wf R → R 0 = P 0 → ∀ i, 0 ≤ i → i ≤ P 0 - 1 → ∀ x y : Option MV, Go d RX8 cX8_steps 8 none 124 [some (.inr 16), some (.inl j), some (.inl z), some (.inl u), some (.inl w), some (.inl i), x, y] [] (setR (setR M 17 (updI (tieZ R mv i) (63 + 4 * j + 3) v)) 23 mv) none (setR (setR M 17 (updI (tieZ R mv (P 0 - 1)) (63 + 4 * j + 3) v)) 23 mv) := by
    intro u w mv R v hmv hR r0
    refine up_ind 0 (P 0 - 1) _ (fun i i0 i1 ih x y => ?_)
    obtain ⟨hW4, hq, _⟩ := tieZ_W (mv := mv) hR (i := i) (by omega)
    have q0 := hq 0 (by decide) (by decide)
    rw [tieZ_s _ _ i0] at ih
    have eE : i = P 0 - 1 → tieZ R mv (P 0 - 1) = tieZ R mv i := fun e => by rw [e]
    generalize tieZ R mv i = Q at ih eE hW4 q0 hq ⊢
    have uu : ∀ k c, 0 ≤ c → c < 7 → sc (updI Q (63 + 4 * j + 3) v) k c = sc Q k c := fun k c a b => sc_u hX a b
    have u0 := u0 (P := Q) (v := v) hX
    have u4 : updI Q (63 + 4 * j + 3) v 4 = Q 4 := updI_n (by omega)
    have u5 : updI Q (63 + 4 * j + 3) v 5 = Q 5 := updI_n (by omega)
    have a0 := uu i 0 (by decide) (by decide)
    have a1 := uu (i + 1) 0 (by decide) (by decide)
    have a3 := uu i 3 (by decide) (by decide)
    have d0 := hW4.ht i
    have d1 := hW4.ht (i + 1)
    have d5 := hW4.df
    have dk := hW4.kn i
    have m0 := hmv.1 i
    have m1 := hmv.1 (i + 1)
    have el := mv_mul m0 m1
    have eb := mv_mul_b m0 m1
    have ei : sc Q i 3 = Q (7 + 7 * i + 3) := sc_in _ _ i0 (by omega)
    refine Go_iload (pc := 124) dX8_steps_124 rfl ?_
    refine Go_iconst (pc := 126) dX8_steps_126 ?_
    refine Go_iadd (pc := 127) dX8_steps_127 ?_
    refine Go_aload_n (pc := 128) dX8_steps_128 rfl (by decide) rfl ?_
    refine Go_getr (pc := 129) (r := 17) dX8_steps_129 fo_X8_7 (by decide) rfl rfl (by decide) ?_
    refine Go_iconst (pc := 132) dX8_steps_132 ?_
    refine Go_iaload (pc := 133) (z := (updI Q (63 + 4 * j + 3) v) 0) dX8_steps_133 (by decide) rfl (by decide) (by decide) (rfl) ?_
    refine Go_icmp_ge (pc := 134) (tgt := 271) dX8_steps_134 (by decide) (by omega) (by omega) (fun c134 => ?_) (fun c134 => ?_)
    · exact Go_return (pc := 271) dX8_steps_271 rfl rfl (by rw [eE (by omega)])
    · refine Go_aload_n (pc := 137) dX8_steps_137 rfl (by decide) rfl ?_
      refine Go_iload (pc := 138) dX8_steps_138 rfl ?_
      refine Go_iconst (pc := 140) dX8_steps_140 ?_
      refine Go_invV (pc := 141) (y := yX8_sh) (avs := [.inl i, .inl 0]) (k := 16) (rest := []) (x := .inl (sc (updI Q (63 + 4 * j + 3) v) i 0))  (d' := d - 1) dX8_steps_141 ln_X8_59 mo_X8_sh vo_X8_sh rfl (rc_16) rfl rfl (Nat.le_of_ble_eq_true rfl) (by omega) (Nat.le_of_ble_eq_true rfl) rfl (s_X8_sh (by omega) (by first | omega | (simp only [Nat.reduceAdd, setR_s]; omega) | (simp only [setR, Nat.reduceEqDiff, reduceIte]; omega)) (by first | omega | (simp only [Nat.reduceAdd, setR_s]; omega) | (simp only [setR, Nat.reduceEqDiff, reduceIte]; omega)) (by decide) (by decide)) ?_
      refine Go_aload_n (pc := 144) dX8_steps_144 rfl (by decide) rfl ?_
      refine Go_iload (pc := 145) dX8_steps_145 rfl ?_
      refine Go_iconst (pc := 147) dX8_steps_147 ?_
      refine Go_iadd (pc := 148) dX8_steps_148 ?_
      refine Go_iconst (pc := 149) dX8_steps_149 ?_
      refine Go_invV (pc := 150) (y := yX8_sh) (avs := [.inl (i + 1), .inl 0]) (k := 16) (rest := [.inl (sc (updI Q (63 + 4 * j + 3) v) i 0)]) (x := .inl (sc (updI Q (63 + 4 * j + 3) v) (i + 1) 0))  (d' := d - 1) dX8_steps_150 ln_X8_59 mo_X8_sh vo_X8_sh rfl (rc_16) rfl rfl (Nat.le_of_ble_eq_true rfl) (by omega) (Nat.le_of_ble_eq_true rfl) rfl (s_X8_sh (by omega) (by first | omega | (simp only [Nat.reduceAdd, setR_s]; omega) | (simp only [setR, Nat.reduceEqDiff, reduceIte]; omega)) (by first | omega | (simp only [Nat.reduceAdd, setR_s]; omega) | (simp only [setR, Nat.reduceEqDiff, reduceIte]; omega)) (by decide) (by decide)) ?_
      refine Go_isub (pc := 153) dX8_steps_153 ?_
      refine Go_istore (pc := 154) (L' := [some (.inr 16), some (.inl j), some (.inl z), some (.inl u), some (.inl w), some (.inl i), some (.inl ((sc (updI Q (63 + 4 * j + 3) v) i 0) - (sc (updI Q (63 + 4 * j + 3) v) (i + 1) 0))), y]) dX8_steps_154 (by decide) rfl ?_
      refine Go_aload_n (pc := 156) dX8_steps_156 rfl (by decide) rfl ?_
      refine Go_iload (pc := 157) dX8_steps_157 rfl ?_
      refine Go_iconst (pc := 159) dX8_steps_159 ?_
      refine Go_invV (pc := 160) (y := yX8_sh) (avs := [.inl i, .inl 3]) (k := 16) (rest := []) (x := .inl (sc (updI Q (63 + 4 * j + 3) v) i 3))  (d' := d - 1) dX8_steps_160 ln_X8_59 mo_X8_sh vo_X8_sh rfl (rc_16) rfl rfl (Nat.le_of_ble_eq_true rfl) (by omega) (Nat.le_of_ble_eq_true rfl) rfl (s_X8_sh (by omega) (by first | omega | (simp only [Nat.reduceAdd, setR_s]; omega) | (simp only [setR, Nat.reduceEqDiff, reduceIte]; omega)) (by first | omega | (simp only [Nat.reduceAdd, setR_s]; omega) | (simp only [setR, Nat.reduceEqDiff, reduceIte]; omega)) (by decide) (by decide)) ?_
      refine Go_if_ne (pc := 163) (tgt := 212) dX8_steps_163 (by decide) (by first | exact hW.rs _ _ (by decide) | exact hW2.rs _ _ (by decide) | omega) (fun c163 => ?_) (fun c163 => ?_)
      · refine Go_iconst (pc := 212) dX8_steps_212 ?_
        refine Go_istore (pc := 213) (L' := [some (.inr 16), some (.inl j), some (.inl z), some (.inl u), some (.inl w), some (.inl i), some (.inl ((sc (updI Q (63 + 4 * j + 3) v) i 0) - (sc (updI Q (63 + 4 * j + 3) v) (i + 1) 0))), some (.inl 0)]) dX8_steps_213 (by decide) rfl ?_
        refine Go_aload_n (pc := 215) dX8_steps_215 rfl (by decide) rfl ?_
        refine Go_getr (pc := 216) (r := 17) dX8_steps_216 fo_X8_7 (by decide) rfl rfl (by decide) ?_
        refine Go_bipush (pc := 219) dX8_steps_219 (by decide) (by decide) ?_
        refine Go_bipush (pc := 221) dX8_steps_221 (by decide) (by decide) ?_
        refine Go_iload (pc := 223) dX8_steps_223 rfl ?_
        refine Go_imul (pc := 225) dX8_steps_225 ?_
        refine Go_iadd (pc := 226) dX8_steps_226 ?_
        refine Go_iconst (pc := 227) dX8_steps_227 ?_
        refine Go_iadd (pc := 228) dX8_steps_228 ?_
        refine Go_iload (pc := 229) dX8_steps_229 rfl ?_
        refine Go_if_eq (pc := 231) (tgt := 238) dX8_steps_231 (by decide) (by decide) (fun _ => ?_) (fun q => absurd q (by decide))
        refine Go_aload_n (pc := 238) dX8_steps_238 rfl (by decide) rfl ?_
        refine Go_iload (pc := 239) dX8_steps_239 rfl ?_
        refine Go_iconst (pc := 241) dX8_steps_241 ?_
        refine Go_invV (pc := 242) (y := yX8_sh) (avs := [.inl i, .inl 3]) (k := 16) (rest := [.inl ((7 + (7 * i)) + 3), .inr 17]) (x := .inl (sc (updI Q (63 + 4 * j + 3) v) i 3))  (d' := d - 1) dX8_steps_242 ln_X8_59 mo_X8_sh vo_X8_sh rfl (rc_16) rfl rfl (Nat.le_of_ble_eq_true rfl) (by omega) (Nat.le_of_ble_eq_true rfl) rfl (s_X8_sh (by omega) (by first | omega | (simp only [Nat.reduceAdd, setR_s]; omega) | (simp only [setR, Nat.reduceEqDiff, reduceIte]; omega)) (by first | omega | (simp only [Nat.reduceAdd, setR_s]; omega) | (simp only [setR, Nat.reduceEqDiff, reduceIte]; omega)) (by decide) (by decide)) ?_
        refine Go_iastore (pc := 245) dX8_steps_245 (by decide) rfl (by omega) (by omega) ?_
        refine Go_M (M1 := setR (setR M 23 mv) 17 (updI (updI Q (63 + 4 * j + 3) v) ((7 + (7 * i)) + 3) (sc (updI Q (63 + 4 * j + 3) v) i 3))) (by funext q; simp only [setR]; (repeat' split) <;> first | rfl | omega | simp_all) ?_
        refine Go_aload_n (pc := 246) dX8_steps_246 rfl (by decide) rfl ?_
        refine Go_getr (pc := 247) (r := 17) dX8_steps_247 fo_X8_7 (by decide) rfl rfl (by decide) ?_
        refine Go_iconst (pc := 250) dX8_steps_250 ?_
        refine Go_dup2 (pc := 251) dX8_steps_251 ?_
        refine Go_iaload (pc := 252) (z := (updI (updI Q (63 + 4 * j + 3) v) ((7 + (7 * i)) + 3) (sc (updI Q (63 + 4 * j + 3) v) i 3)) 4) dX8_steps_252 (by decide) rfl (by decide) (by decide) (rfl) ?_
        refine Go_iload (pc := 253) dX8_steps_253 rfl ?_
        refine Go_if_eq (pc := 255) (tgt := 262) dX8_steps_255 (by decide) (by decide) (fun _ => ?_) (fun q => absurd q (by decide))
        refine Go_iconst (pc := 262) dX8_steps_262 ?_
        refine Go_iadd (pc := 263) dX8_steps_263 ?_
        refine Go_iastore (pc := 264) dX8_steps_264 (by decide) rfl (by decide) (by decide) ?_
        refine Go_M (M1 := setR (setR M 23 mv) 17 (updI (updI (updI Q (63 + 4 * j + 3) v) ((7 + (7 * i)) + 3) (sc (updI Q (63 + 4 * j + 3) v) i 3)) 4 (((updI (updI Q (63 + 4 * j + 3) v) ((7 + (7 * i)) + 3) (sc (updI Q (63 + 4 * j + 3) v) i 3)) 4) + 0))) (setR_top _ _ _ _ _) ?_
        refine Go_iinc (pc := 265) (L' := [some (.inr 16), some (.inl j), some (.inl z), some (.inl u), some (.inl w), some (.inl (i + 1)), some (.inl ((sc (updI Q (63 + 4 * j + 3) v) i 0) - (sc (updI Q (63 + 4 * j + 3) v) (i + 1) 0))), some (.inl 0)]) dX8_steps_265 rfl (by decide) rfl ?_
        refine Go_goto (pc := 268) (tgt := 124) dX8_steps_268 (by decide) ?_
        have e7 : i < 7 := by omega
        have eN : ¬ tieP Q mv i → updI (updI (updI Q (63 + 4 * j + 3) v) (7 + 7 * i + 3) (sc (updI Q (63 + 4 * j + 3) v) i 3)) 4 (updI (updI Q (63 + 4 * j + 3) v) (7 + 7 * i + 3) (sc (updI Q (63 + 4 * j + 3) v) i 3) 4 + 0) = updI (tieS Q mv i) (63 + 4 * j + 3) v := fun t => by
          have w1 : updI (updI Q (63 + 4 * j + 3) v) (7 + 7 * i + 3) (sc (updI Q (63 + 4 * j + 3) v) i 3) = updI Q (63 + 4 * j + 3) v := updI_eq (sc_in _ _ i0 (by omega))
          rw [w1, tieS_n t]
          exact updI_eq (by omega)
        have eY : tieP Q mv i → updI (updI (updI Q (63 + 4 * j + 3) v) (7 + 7 * i + 3) 1) 4 (updI (updI Q (63 + 4 * j + 3) v) (7 + 7 * i + 3) 1 4 + 1) = updI (tieS Q mv i) (63 + 4 * j + 3) v := fun t => by
          have w1 : updI (updI Q (63 + 4 * j + 3) v) (7 + 7 * i + 3) 1 4 = Q 4 := by rw [updI_n (by omega), updI_n (by omega)]
          rw [w1, tieS_y t, updI_cm (i := 63 + 4 * j + 3) (j := 7 + 7 * i + 3) Q (by omega), updI_cm (i := 63 + 4 * j + 3) (j := 4) _ (by omega)]
        refine Go_M ?_ (ih (by omega) _ _)
        rw [setR_cm M (show (17 : Nat) ≠ 23 by decide)]
        first | rw [eN (fun t => by have z1 := t.1; have z2 := el.mp t.2.1; have z3 := t.2.2; omega)] | rw [eY ⟨by omega, by omega, by omega⟩]
      · refine Go_aload_n (pc := 166) dX8_steps_166 rfl (by decide) rfl ?_
        refine Go_getr (pc := 167) (r := 23) dX8_steps_167 fo_X8_29 (by decide) rfl rfl (by decide) ?_
        refine Go_iload (pc := 170) dX8_steps_170 rfl ?_
        refine Go_iaload (pc := 172) (z := mv i) dX8_steps_172 (by decide) rfl (by omega) (by omega) (rfl) ?_
        refine Go_aload_n (pc := 173) dX8_steps_173 rfl (by decide) rfl ?_
        refine Go_getr (pc := 174) (r := 23) dX8_steps_174 fo_X8_29 (by decide) rfl rfl (by decide) ?_
        refine Go_iload (pc := 177) dX8_steps_177 rfl ?_
        refine Go_iconst (pc := 179) dX8_steps_179 ?_
        refine Go_iadd (pc := 180) dX8_steps_180 ?_
        refine Go_iaload (pc := 181) (z := mv (i + 1)) dX8_steps_181 (by decide) rfl (by omega) (by omega) (rfl) ?_
        refine Go_imul (pc := 182) dX8_steps_182 ?_
        refine Go_if_ge (pc := 183) (tgt := 212) dX8_steps_183 (by decide) (by omega) (fun c183 => ?_) (fun c183 => ?_)
        · refine Go_iconst (pc := 212) dX8_steps_212 ?_
          refine Go_istore (pc := 213) (L' := [some (.inr 16), some (.inl j), some (.inl z), some (.inl u), some (.inl w), some (.inl i), some (.inl ((sc (updI Q (63 + 4 * j + 3) v) i 0) - (sc (updI Q (63 + 4 * j + 3) v) (i + 1) 0))), some (.inl 0)]) dX8_steps_213 (by decide) rfl ?_
          refine Go_aload_n (pc := 215) dX8_steps_215 rfl (by decide) rfl ?_
          refine Go_getr (pc := 216) (r := 17) dX8_steps_216 fo_X8_7 (by decide) rfl rfl (by decide) ?_
          refine Go_bipush (pc := 219) dX8_steps_219 (by decide) (by decide) ?_
          refine Go_bipush (pc := 221) dX8_steps_221 (by decide) (by decide) ?_
          refine Go_iload (pc := 223) dX8_steps_223 rfl ?_
          refine Go_imul (pc := 225) dX8_steps_225 ?_
          refine Go_iadd (pc := 226) dX8_steps_226 ?_
          refine Go_iconst (pc := 227) dX8_steps_227 ?_
          refine Go_iadd (pc := 228) dX8_steps_228 ?_
          refine Go_iload (pc := 229) dX8_steps_229 rfl ?_
          refine Go_if_eq (pc := 231) (tgt := 238) dX8_steps_231 (by decide) (by decide) (fun _ => ?_) (fun q => absurd q (by decide))
          refine Go_aload_n (pc := 238) dX8_steps_238 rfl (by decide) rfl ?_
          refine Go_iload (pc := 239) dX8_steps_239 rfl ?_
          refine Go_iconst (pc := 241) dX8_steps_241 ?_
          refine Go_invV (pc := 242) (y := yX8_sh) (avs := [.inl i, .inl 3]) (k := 16) (rest := [.inl ((7 + (7 * i)) + 3), .inr 17]) (x := .inl (sc (updI Q (63 + 4 * j + 3) v) i 3))  (d' := d - 1) dX8_steps_242 ln_X8_59 mo_X8_sh vo_X8_sh rfl (rc_16) rfl rfl (Nat.le_of_ble_eq_true rfl) (by omega) (Nat.le_of_ble_eq_true rfl) rfl (s_X8_sh (by omega) (by first | omega | (simp only [Nat.reduceAdd, setR_s]; omega) | (simp only [setR, Nat.reduceEqDiff, reduceIte]; omega)) (by first | omega | (simp only [Nat.reduceAdd, setR_s]; omega) | (simp only [setR, Nat.reduceEqDiff, reduceIte]; omega)) (by decide) (by decide)) ?_
          refine Go_iastore (pc := 245) dX8_steps_245 (by decide) rfl (by omega) (by omega) ?_
          refine Go_M (M1 := setR (setR M 23 mv) 17 (updI (updI Q (63 + 4 * j + 3) v) ((7 + (7 * i)) + 3) (sc (updI Q (63 + 4 * j + 3) v) i 3))) (by funext q; simp only [setR]; (repeat' split) <;> first | rfl | omega | simp_all) ?_
          refine Go_aload_n (pc := 246) dX8_steps_246 rfl (by decide) rfl ?_
          refine Go_getr (pc := 247) (r := 17) dX8_steps_247 fo_X8_7 (by decide) rfl rfl (by decide) ?_
          refine Go_iconst (pc := 250) dX8_steps_250 ?_
          refine Go_dup2 (pc := 251) dX8_steps_251 ?_
          refine Go_iaload (pc := 252) (z := (updI (updI Q (63 + 4 * j + 3) v) ((7 + (7 * i)) + 3) (sc (updI Q (63 + 4 * j + 3) v) i 3)) 4) dX8_steps_252 (by decide) rfl (by decide) (by decide) (rfl) ?_
          refine Go_iload (pc := 253) dX8_steps_253 rfl ?_
          refine Go_if_eq (pc := 255) (tgt := 262) dX8_steps_255 (by decide) (by decide) (fun _ => ?_) (fun q => absurd q (by decide))
          refine Go_iconst (pc := 262) dX8_steps_262 ?_
          refine Go_iadd (pc := 263) dX8_steps_263 ?_
          refine Go_iastore (pc := 264) dX8_steps_264 (by decide) rfl (by decide) (by decide) ?_
          refine Go_M (M1 := setR (setR M 23 mv) 17 (updI (updI (updI Q (63 + 4 * j + 3) v) ((7 + (7 * i)) + 3) (sc (updI Q (63 + 4 * j + 3) v) i 3)) 4 (((updI (updI Q (63 + 4 * j + 3) v) ((7 + (7 * i)) + 3) (sc (updI Q (63 + 4 * j + 3) v) i 3)) 4) + 0))) (setR_top _ _ _ _ _) ?_
          refine Go_iinc (pc := 265) (L' := [some (.inr 16), some (.inl j), some (.inl z), some (.inl u), some (.inl w), some (.inl (i + 1)), some (.inl ((sc (updI Q (63 + 4 * j + 3) v) i 0) - (sc (updI Q (63 + 4 * j + 3) v) (i + 1) 0))), some (.inl 0)]) dX8_steps_265 rfl (by decide) rfl ?_
          refine Go_goto (pc := 268) (tgt := 124) dX8_steps_268 (by decide) ?_
          have e7 : i < 7 := by omega
          have eN : ¬ tieP Q mv i → updI (updI (updI Q (63 + 4 * j + 3) v) (7 + 7 * i + 3) (sc (updI Q (63 + 4 * j + 3) v) i 3)) 4 (updI (updI Q (63 + 4 * j + 3) v) (7 + 7 * i + 3) (sc (updI Q (63 + 4 * j + 3) v) i 3) 4 + 0) = updI (tieS Q mv i) (63 + 4 * j + 3) v := fun t => by
            have w1 : updI (updI Q (63 + 4 * j + 3) v) (7 + 7 * i + 3) (sc (updI Q (63 + 4 * j + 3) v) i 3) = updI Q (63 + 4 * j + 3) v := updI_eq (sc_in _ _ i0 (by omega))
            rw [w1, tieS_n t]
            exact updI_eq (by omega)
          have eY : tieP Q mv i → updI (updI (updI Q (63 + 4 * j + 3) v) (7 + 7 * i + 3) 1) 4 (updI (updI Q (63 + 4 * j + 3) v) (7 + 7 * i + 3) 1 4 + 1) = updI (tieS Q mv i) (63 + 4 * j + 3) v := fun t => by
            have w1 : updI (updI Q (63 + 4 * j + 3) v) (7 + 7 * i + 3) 1 4 = Q 4 := by rw [updI_n (by omega), updI_n (by omega)]
            rw [w1, tieS_y t, updI_cm (i := 63 + 4 * j + 3) (j := 7 + 7 * i + 3) Q (by omega), updI_cm (i := 63 + 4 * j + 3) (j := 4) _ (by omega)]
          refine Go_M ?_ (ih (by omega) _ _)
          rw [setR_cm M (show (17 : Nat) ≠ 23 by decide)]
          first | rw [eN (fun t => by have z1 := t.1; have z2 := el.mp t.2.1; have z3 := t.2.2; omega)] | rw [eY ⟨by omega, by omega, by omega⟩]
        · refine Go_iload (pc := 186) dX8_steps_186 rfl ?_
          refine Go_if_ge (pc := 188) (tgt := 197) dX8_steps_188 (by decide) (by omega) (fun c188 => ?_) (fun c188 => ?_)
          · refine Go_iload (pc := 197) dX8_steps_197 rfl ?_
            refine Go_aload_n (pc := 199) dX8_steps_199 rfl (by decide) rfl ?_
            refine Go_getr (pc := 200) (r := 17) dX8_steps_200 fo_X8_7 (by decide) rfl rfl (by decide) ?_
            refine Go_iconst (pc := 203) dX8_steps_203 ?_
            refine Go_iaload (pc := 204) (z := (updI Q (63 + 4 * j + 3) v) 5) dX8_steps_204 (by decide) rfl (by decide) (by decide) (rfl) ?_
            refine Go_icmp_lt (pc := 205) (tgt := 212) dX8_steps_205 (by decide) (by omega) (by omega) (fun c205 => ?_) (fun c205 => ?_)
            · refine Go_iconst (pc := 212) dX8_steps_212 ?_
              refine Go_istore (pc := 213) (L' := [some (.inr 16), some (.inl j), some (.inl z), some (.inl u), some (.inl w), some (.inl i), some (.inl ((sc (updI Q (63 + 4 * j + 3) v) i 0) - (sc (updI Q (63 + 4 * j + 3) v) (i + 1) 0))), some (.inl 0)]) dX8_steps_213 (by decide) rfl ?_
              refine Go_aload_n (pc := 215) dX8_steps_215 rfl (by decide) rfl ?_
              refine Go_getr (pc := 216) (r := 17) dX8_steps_216 fo_X8_7 (by decide) rfl rfl (by decide) ?_
              refine Go_bipush (pc := 219) dX8_steps_219 (by decide) (by decide) ?_
              refine Go_bipush (pc := 221) dX8_steps_221 (by decide) (by decide) ?_
              refine Go_iload (pc := 223) dX8_steps_223 rfl ?_
              refine Go_imul (pc := 225) dX8_steps_225 ?_
              refine Go_iadd (pc := 226) dX8_steps_226 ?_
              refine Go_iconst (pc := 227) dX8_steps_227 ?_
              refine Go_iadd (pc := 228) dX8_steps_228 ?_
              refine Go_iload (pc := 229) dX8_steps_229 rfl ?_
              refine Go_if_eq (pc := 231) (tgt := 238) dX8_steps_231 (by decide) (by decide) (fun _ => ?_) (fun q => absurd q (by decide))
              refine Go_aload_n (pc := 238) dX8_steps_238 rfl (by decide) rfl ?_
              refine Go_iload (pc := 239) dX8_steps_239 rfl ?_
              refine Go_iconst (pc := 241) dX8_steps_241 ?_
              refine Go_invV (pc := 242) (y := yX8_sh) (avs := [.inl i, .inl 3]) (k := 16) (rest := [.inl ((7 + (7 * i)) + 3), .inr 17]) (x := .inl (sc (updI Q (63 + 4 * j + 3) v) i 3))  (d' := d - 1) dX8_steps_242 ln_X8_59 mo_X8_sh vo_X8_sh rfl (rc_16) rfl rfl (Nat.le_of_ble_eq_true rfl) (by omega) (Nat.le_of_ble_eq_true rfl) rfl (s_X8_sh (by omega) (by first | omega | (simp only [Nat.reduceAdd, setR_s]; omega) | (simp only [setR, Nat.reduceEqDiff, reduceIte]; omega)) (by first | omega | (simp only [Nat.reduceAdd, setR_s]; omega) | (simp only [setR, Nat.reduceEqDiff, reduceIte]; omega)) (by decide) (by decide)) ?_
              refine Go_iastore (pc := 245) dX8_steps_245 (by decide) rfl (by omega) (by omega) ?_
              refine Go_M (M1 := setR (setR M 23 mv) 17 (updI (updI Q (63 + 4 * j + 3) v) ((7 + (7 * i)) + 3) (sc (updI Q (63 + 4 * j + 3) v) i 3))) (by funext q; simp only [setR]; (repeat' split) <;> first | rfl | omega | simp_all) ?_
              refine Go_aload_n (pc := 246) dX8_steps_246 rfl (by decide) rfl ?_
              refine Go_getr (pc := 247) (r := 17) dX8_steps_247 fo_X8_7 (by decide) rfl rfl (by decide) ?_
              refine Go_iconst (pc := 250) dX8_steps_250 ?_
              refine Go_dup2 (pc := 251) dX8_steps_251 ?_
              refine Go_iaload (pc := 252) (z := (updI (updI Q (63 + 4 * j + 3) v) ((7 + (7 * i)) + 3) (sc (updI Q (63 + 4 * j + 3) v) i 3)) 4) dX8_steps_252 (by decide) rfl (by decide) (by decide) (rfl) ?_
              refine Go_iload (pc := 253) dX8_steps_253 rfl ?_
              refine Go_if_eq (pc := 255) (tgt := 262) dX8_steps_255 (by decide) (by decide) (fun _ => ?_) (fun q => absurd q (by decide))
              refine Go_iconst (pc := 262) dX8_steps_262 ?_
              refine Go_iadd (pc := 263) dX8_steps_263 ?_
              refine Go_iastore (pc := 264) dX8_steps_264 (by decide) rfl (by decide) (by decide) ?_
              refine Go_M (M1 := setR (setR M 23 mv) 17 (updI (updI (updI Q (63 + 4 * j + 3) v) ((7 + (7 * i)) + 3) (sc (updI Q (63 + 4 * j + 3) v) i 3)) 4 (((updI (updI Q (63 + 4 * j + 3) v) ((7 + (7 * i)) + 3) (sc (updI Q (63 + 4 * j + 3) v) i 3)) 4) + 0))) (setR_top _ _ _ _ _) ?_
              refine Go_iinc (pc := 265) (L' := [some (.inr 16), some (.inl j), some (.inl z), some (.inl u), some (.inl w), some (.inl (i + 1)), some (.inl ((sc (updI Q (63 + 4 * j + 3) v) i 0) - (sc (updI Q (63 + 4 * j + 3) v) (i + 1) 0))), some (.inl 0)]) dX8_steps_265 rfl (by decide) rfl ?_
              refine Go_goto (pc := 268) (tgt := 124) dX8_steps_268 (by decide) ?_
              have e7 : i < 7 := by omega
              have eN : ¬ tieP Q mv i → updI (updI (updI Q (63 + 4 * j + 3) v) (7 + 7 * i + 3) (sc (updI Q (63 + 4 * j + 3) v) i 3)) 4 (updI (updI Q (63 + 4 * j + 3) v) (7 + 7 * i + 3) (sc (updI Q (63 + 4 * j + 3) v) i 3) 4 + 0) = updI (tieS Q mv i) (63 + 4 * j + 3) v := fun t => by
                have w1 : updI (updI Q (63 + 4 * j + 3) v) (7 + 7 * i + 3) (sc (updI Q (63 + 4 * j + 3) v) i 3) = updI Q (63 + 4 * j + 3) v := updI_eq (sc_in _ _ i0 (by omega))
                rw [w1, tieS_n t]
                exact updI_eq (by omega)
              have eY : tieP Q mv i → updI (updI (updI Q (63 + 4 * j + 3) v) (7 + 7 * i + 3) 1) 4 (updI (updI Q (63 + 4 * j + 3) v) (7 + 7 * i + 3) 1 4 + 1) = updI (tieS Q mv i) (63 + 4 * j + 3) v := fun t => by
                have w1 : updI (updI Q (63 + 4 * j + 3) v) (7 + 7 * i + 3) 1 4 = Q 4 := by rw [updI_n (by omega), updI_n (by omega)]
                rw [w1, tieS_y t, updI_cm (i := 63 + 4 * j + 3) (j := 7 + 7 * i + 3) Q (by omega), updI_cm (i := 63 + 4 * j + 3) (j := 4) _ (by omega)]
              refine Go_M ?_ (ih (by omega) _ _)
              rw [setR_cm M (show (17 : Nat) ≠ 23 by decide)]
              first | rw [eN (fun t => by have z1 := t.1; have z2 := el.mp t.2.1; have z3 := t.2.2; omega)] | rw [eY ⟨by omega, by omega, by omega⟩]
            · refine Go_iconst (pc := 208) dX8_steps_208 ?_
              refine Go_goto (pc := 209) (tgt := 213) dX8_steps_209 (by decide) ?_
              refine Go_istore (pc := 213) (L' := [some (.inr 16), some (.inl j), some (.inl z), some (.inl u), some (.inl w), some (.inl i), some (.inl ((sc (updI Q (63 + 4 * j + 3) v) i 0) - (sc (updI Q (63 + 4 * j + 3) v) (i + 1) 0))), some (.inl 1)]) dX8_steps_213 (by decide) rfl ?_
              refine Go_aload_n (pc := 215) dX8_steps_215 rfl (by decide) rfl ?_
              refine Go_getr (pc := 216) (r := 17) dX8_steps_216 fo_X8_7 (by decide) rfl rfl (by decide) ?_
              refine Go_bipush (pc := 219) dX8_steps_219 (by decide) (by decide) ?_
              refine Go_bipush (pc := 221) dX8_steps_221 (by decide) (by decide) ?_
              refine Go_iload (pc := 223) dX8_steps_223 rfl ?_
              refine Go_imul (pc := 225) dX8_steps_225 ?_
              refine Go_iadd (pc := 226) dX8_steps_226 ?_
              refine Go_iconst (pc := 227) dX8_steps_227 ?_
              refine Go_iadd (pc := 228) dX8_steps_228 ?_
              refine Go_iload (pc := 229) dX8_steps_229 rfl ?_
              refine Go_if_eq (pc := 231) (tgt := 238) dX8_steps_231 (by decide) (by decide) (fun q => absurd q (by decide)) (fun _ => ?_)
              refine Go_iconst (pc := 234) dX8_steps_234 ?_
              refine Go_goto (pc := 235) (tgt := 245) dX8_steps_235 (by decide) ?_
              refine Go_iastore (pc := 245) dX8_steps_245 (by decide) rfl (by omega) (by omega) ?_
              refine Go_M (M1 := setR (setR M 23 mv) 17 (updI (updI Q (63 + 4 * j + 3) v) ((7 + (7 * i)) + 3) 1)) (by funext q; simp only [setR]; (repeat' split) <;> first | rfl | omega | simp_all) ?_
              refine Go_aload_n (pc := 246) dX8_steps_246 rfl (by decide) rfl ?_
              refine Go_getr (pc := 247) (r := 17) dX8_steps_247 fo_X8_7 (by decide) rfl rfl (by decide) ?_
              refine Go_iconst (pc := 250) dX8_steps_250 ?_
              refine Go_dup2 (pc := 251) dX8_steps_251 ?_
              refine Go_iaload (pc := 252) (z := (updI (updI Q (63 + 4 * j + 3) v) ((7 + (7 * i)) + 3) 1) 4) dX8_steps_252 (by decide) rfl (by decide) (by decide) (rfl) ?_
              refine Go_iload (pc := 253) dX8_steps_253 rfl ?_
              refine Go_if_eq (pc := 255) (tgt := 262) dX8_steps_255 (by decide) (by decide) (fun q => absurd q (by decide)) (fun _ => ?_)
              refine Go_iconst (pc := 258) dX8_steps_258 ?_
              refine Go_goto (pc := 259) (tgt := 263) dX8_steps_259 (by decide) ?_
              refine Go_iadd (pc := 263) dX8_steps_263 ?_
              refine Go_iastore (pc := 264) dX8_steps_264 (by decide) rfl (by decide) (by decide) ?_
              refine Go_M (M1 := setR (setR M 23 mv) 17 (updI (updI (updI Q (63 + 4 * j + 3) v) ((7 + (7 * i)) + 3) 1) 4 (((updI (updI Q (63 + 4 * j + 3) v) ((7 + (7 * i)) + 3) 1) 4) + 1))) (setR_top _ _ _ _ _) ?_
              refine Go_iinc (pc := 265) (L' := [some (.inr 16), some (.inl j), some (.inl z), some (.inl u), some (.inl w), some (.inl (i + 1)), some (.inl ((sc (updI Q (63 + 4 * j + 3) v) i 0) - (sc (updI Q (63 + 4 * j + 3) v) (i + 1) 0))), some (.inl 1)]) dX8_steps_265 rfl (by decide) rfl ?_
              refine Go_goto (pc := 268) (tgt := 124) dX8_steps_268 (by decide) ?_
              have e7 : i < 7 := by omega
              have eN : ¬ tieP Q mv i → updI (updI (updI Q (63 + 4 * j + 3) v) (7 + 7 * i + 3) (sc (updI Q (63 + 4 * j + 3) v) i 3)) 4 (updI (updI Q (63 + 4 * j + 3) v) (7 + 7 * i + 3) (sc (updI Q (63 + 4 * j + 3) v) i 3) 4 + 0) = updI (tieS Q mv i) (63 + 4 * j + 3) v := fun t => by
                have w1 : updI (updI Q (63 + 4 * j + 3) v) (7 + 7 * i + 3) (sc (updI Q (63 + 4 * j + 3) v) i 3) = updI Q (63 + 4 * j + 3) v := updI_eq (sc_in _ _ i0 (by omega))
                rw [w1, tieS_n t]
                exact updI_eq (by omega)
              have eY : tieP Q mv i → updI (updI (updI Q (63 + 4 * j + 3) v) (7 + 7 * i + 3) 1) 4 (updI (updI Q (63 + 4 * j + 3) v) (7 + 7 * i + 3) 1 4 + 1) = updI (tieS Q mv i) (63 + 4 * j + 3) v := fun t => by
                have w1 : updI (updI Q (63 + 4 * j + 3) v) (7 + 7 * i + 3) 1 4 = Q 4 := by rw [updI_n (by omega), updI_n (by omega)]
                rw [w1, tieS_y t, updI_cm (i := 63 + 4 * j + 3) (j := 7 + 7 * i + 3) Q (by omega), updI_cm (i := 63 + 4 * j + 3) (j := 4) _ (by omega)]
              refine Go_M ?_ (ih (by omega) _ _)
              rw [setR_cm M (show (17 : Nat) ≠ 23 by decide)]
              first | rw [eN (fun t => by have z1 := t.1; have z2 := el.mp t.2.1; have z3 := t.2.2; omega)] | rw [eY ⟨by omega, by omega, by omega⟩]
          · refine Go_iload (pc := 191) dX8_steps_191 rfl ?_
            refine Go_ineg (pc := 193) dX8_steps_193 ?_
            refine Go_goto (pc := 194) (tgt := 199) dX8_steps_194 (by decide) ?_
            refine Go_aload_n (pc := 199) dX8_steps_199 rfl (by decide) rfl ?_
            refine Go_getr (pc := 200) (r := 17) dX8_steps_200 fo_X8_7 (by decide) rfl rfl (by decide) ?_
            refine Go_iconst (pc := 203) dX8_steps_203 ?_
            refine Go_iaload (pc := 204) (z := (updI Q (63 + 4 * j + 3) v) 5) dX8_steps_204 (by decide) rfl (by decide) (by decide) (rfl) ?_
            refine Go_icmp_lt (pc := 205) (tgt := 212) dX8_steps_205 (by decide) (by omega) (by omega) (fun c205a => ?_) (fun c205a => ?_)
            · refine Go_iconst (pc := 212) dX8_steps_212 ?_
              refine Go_istore (pc := 213) (L' := [some (.inr 16), some (.inl j), some (.inl z), some (.inl u), some (.inl w), some (.inl i), some (.inl ((sc (updI Q (63 + 4 * j + 3) v) i 0) - (sc (updI Q (63 + 4 * j + 3) v) (i + 1) 0))), some (.inl 0)]) dX8_steps_213 (by decide) rfl ?_
              refine Go_aload_n (pc := 215) dX8_steps_215 rfl (by decide) rfl ?_
              refine Go_getr (pc := 216) (r := 17) dX8_steps_216 fo_X8_7 (by decide) rfl rfl (by decide) ?_
              refine Go_bipush (pc := 219) dX8_steps_219 (by decide) (by decide) ?_
              refine Go_bipush (pc := 221) dX8_steps_221 (by decide) (by decide) ?_
              refine Go_iload (pc := 223) dX8_steps_223 rfl ?_
              refine Go_imul (pc := 225) dX8_steps_225 ?_
              refine Go_iadd (pc := 226) dX8_steps_226 ?_
              refine Go_iconst (pc := 227) dX8_steps_227 ?_
              refine Go_iadd (pc := 228) dX8_steps_228 ?_
              refine Go_iload (pc := 229) dX8_steps_229 rfl ?_
              refine Go_if_eq (pc := 231) (tgt := 238) dX8_steps_231 (by decide) (by decide) (fun _ => ?_) (fun q => absurd q (by decide))
              refine Go_aload_n (pc := 238) dX8_steps_238 rfl (by decide) rfl ?_
              refine Go_iload (pc := 239) dX8_steps_239 rfl ?_
              refine Go_iconst (pc := 241) dX8_steps_241 ?_
              refine Go_invV (pc := 242) (y := yX8_sh) (avs := [.inl i, .inl 3]) (k := 16) (rest := [.inl ((7 + (7 * i)) + 3), .inr 17]) (x := .inl (sc (updI Q (63 + 4 * j + 3) v) i 3))  (d' := d - 1) dX8_steps_242 ln_X8_59 mo_X8_sh vo_X8_sh rfl (rc_16) rfl rfl (Nat.le_of_ble_eq_true rfl) (by omega) (Nat.le_of_ble_eq_true rfl) rfl (s_X8_sh (by omega) (by first | omega | (simp only [Nat.reduceAdd, setR_s]; omega) | (simp only [setR, Nat.reduceEqDiff, reduceIte]; omega)) (by first | omega | (simp only [Nat.reduceAdd, setR_s]; omega) | (simp only [setR, Nat.reduceEqDiff, reduceIte]; omega)) (by decide) (by decide)) ?_
              refine Go_iastore (pc := 245) dX8_steps_245 (by decide) rfl (by omega) (by omega) ?_
              refine Go_M (M1 := setR (setR M 23 mv) 17 (updI (updI Q (63 + 4 * j + 3) v) ((7 + (7 * i)) + 3) (sc (updI Q (63 + 4 * j + 3) v) i 3))) (by funext q; simp only [setR]; (repeat' split) <;> first | rfl | omega | simp_all) ?_
              refine Go_aload_n (pc := 246) dX8_steps_246 rfl (by decide) rfl ?_
              refine Go_getr (pc := 247) (r := 17) dX8_steps_247 fo_X8_7 (by decide) rfl rfl (by decide) ?_
              refine Go_iconst (pc := 250) dX8_steps_250 ?_
              refine Go_dup2 (pc := 251) dX8_steps_251 ?_
              refine Go_iaload (pc := 252) (z := (updI (updI Q (63 + 4 * j + 3) v) ((7 + (7 * i)) + 3) (sc (updI Q (63 + 4 * j + 3) v) i 3)) 4) dX8_steps_252 (by decide) rfl (by decide) (by decide) (rfl) ?_
              refine Go_iload (pc := 253) dX8_steps_253 rfl ?_
              refine Go_if_eq (pc := 255) (tgt := 262) dX8_steps_255 (by decide) (by decide) (fun _ => ?_) (fun q => absurd q (by decide))
              refine Go_iconst (pc := 262) dX8_steps_262 ?_
              refine Go_iadd (pc := 263) dX8_steps_263 ?_
              refine Go_iastore (pc := 264) dX8_steps_264 (by decide) rfl (by decide) (by decide) ?_
              refine Go_M (M1 := setR (setR M 23 mv) 17 (updI (updI (updI Q (63 + 4 * j + 3) v) ((7 + (7 * i)) + 3) (sc (updI Q (63 + 4 * j + 3) v) i 3)) 4 (((updI (updI Q (63 + 4 * j + 3) v) ((7 + (7 * i)) + 3) (sc (updI Q (63 + 4 * j + 3) v) i 3)) 4) + 0))) (setR_top _ _ _ _ _) ?_
              refine Go_iinc (pc := 265) (L' := [some (.inr 16), some (.inl j), some (.inl z), some (.inl u), some (.inl w), some (.inl (i + 1)), some (.inl ((sc (updI Q (63 + 4 * j + 3) v) i 0) - (sc (updI Q (63 + 4 * j + 3) v) (i + 1) 0))), some (.inl 0)]) dX8_steps_265 rfl (by decide) rfl ?_
              refine Go_goto (pc := 268) (tgt := 124) dX8_steps_268 (by decide) ?_
              have e7 : i < 7 := by omega
              have eN : ¬ tieP Q mv i → updI (updI (updI Q (63 + 4 * j + 3) v) (7 + 7 * i + 3) (sc (updI Q (63 + 4 * j + 3) v) i 3)) 4 (updI (updI Q (63 + 4 * j + 3) v) (7 + 7 * i + 3) (sc (updI Q (63 + 4 * j + 3) v) i 3) 4 + 0) = updI (tieS Q mv i) (63 + 4 * j + 3) v := fun t => by
                have w1 : updI (updI Q (63 + 4 * j + 3) v) (7 + 7 * i + 3) (sc (updI Q (63 + 4 * j + 3) v) i 3) = updI Q (63 + 4 * j + 3) v := updI_eq (sc_in _ _ i0 (by omega))
                rw [w1, tieS_n t]
                exact updI_eq (by omega)
              have eY : tieP Q mv i → updI (updI (updI Q (63 + 4 * j + 3) v) (7 + 7 * i + 3) 1) 4 (updI (updI Q (63 + 4 * j + 3) v) (7 + 7 * i + 3) 1 4 + 1) = updI (tieS Q mv i) (63 + 4 * j + 3) v := fun t => by
                have w1 : updI (updI Q (63 + 4 * j + 3) v) (7 + 7 * i + 3) 1 4 = Q 4 := by rw [updI_n (by omega), updI_n (by omega)]
                rw [w1, tieS_y t, updI_cm (i := 63 + 4 * j + 3) (j := 7 + 7 * i + 3) Q (by omega), updI_cm (i := 63 + 4 * j + 3) (j := 4) _ (by omega)]
              refine Go_M ?_ (ih (by omega) _ _)
              rw [setR_cm M (show (17 : Nat) ≠ 23 by decide)]
              first | rw [eN (fun t => by have z1 := t.1; have z2 := el.mp t.2.1; have z3 := t.2.2; omega)] | rw [eY ⟨by omega, by omega, by omega⟩]
            · refine Go_iconst (pc := 208) dX8_steps_208 ?_
              refine Go_goto (pc := 209) (tgt := 213) dX8_steps_209 (by decide) ?_
              refine Go_istore (pc := 213) (L' := [some (.inr 16), some (.inl j), some (.inl z), some (.inl u), some (.inl w), some (.inl i), some (.inl ((sc (updI Q (63 + 4 * j + 3) v) i 0) - (sc (updI Q (63 + 4 * j + 3) v) (i + 1) 0))), some (.inl 1)]) dX8_steps_213 (by decide) rfl ?_
              refine Go_aload_n (pc := 215) dX8_steps_215 rfl (by decide) rfl ?_
              refine Go_getr (pc := 216) (r := 17) dX8_steps_216 fo_X8_7 (by decide) rfl rfl (by decide) ?_
              refine Go_bipush (pc := 219) dX8_steps_219 (by decide) (by decide) ?_
              refine Go_bipush (pc := 221) dX8_steps_221 (by decide) (by decide) ?_
              refine Go_iload (pc := 223) dX8_steps_223 rfl ?_
              refine Go_imul (pc := 225) dX8_steps_225 ?_
              refine Go_iadd (pc := 226) dX8_steps_226 ?_
              refine Go_iconst (pc := 227) dX8_steps_227 ?_
              refine Go_iadd (pc := 228) dX8_steps_228 ?_
              refine Go_iload (pc := 229) dX8_steps_229 rfl ?_
              refine Go_if_eq (pc := 231) (tgt := 238) dX8_steps_231 (by decide) (by decide) (fun q => absurd q (by decide)) (fun _ => ?_)
              refine Go_iconst (pc := 234) dX8_steps_234 ?_
              refine Go_goto (pc := 235) (tgt := 245) dX8_steps_235 (by decide) ?_
              refine Go_iastore (pc := 245) dX8_steps_245 (by decide) rfl (by omega) (by omega) ?_
              refine Go_M (M1 := setR (setR M 23 mv) 17 (updI (updI Q (63 + 4 * j + 3) v) ((7 + (7 * i)) + 3) 1)) (by funext q; simp only [setR]; (repeat' split) <;> first | rfl | omega | simp_all) ?_
              refine Go_aload_n (pc := 246) dX8_steps_246 rfl (by decide) rfl ?_
              refine Go_getr (pc := 247) (r := 17) dX8_steps_247 fo_X8_7 (by decide) rfl rfl (by decide) ?_
              refine Go_iconst (pc := 250) dX8_steps_250 ?_
              refine Go_dup2 (pc := 251) dX8_steps_251 ?_
              refine Go_iaload (pc := 252) (z := (updI (updI Q (63 + 4 * j + 3) v) ((7 + (7 * i)) + 3) 1) 4) dX8_steps_252 (by decide) rfl (by decide) (by decide) (rfl) ?_
              refine Go_iload (pc := 253) dX8_steps_253 rfl ?_
              refine Go_if_eq (pc := 255) (tgt := 262) dX8_steps_255 (by decide) (by decide) (fun q => absurd q (by decide)) (fun _ => ?_)
              refine Go_iconst (pc := 258) dX8_steps_258 ?_
              refine Go_goto (pc := 259) (tgt := 263) dX8_steps_259 (by decide) ?_
              refine Go_iadd (pc := 263) dX8_steps_263 ?_
              refine Go_iastore (pc := 264) dX8_steps_264 (by decide) rfl (by decide) (by decide) ?_
              refine Go_M (M1 := setR (setR M 23 mv) 17 (updI (updI (updI Q (63 + 4 * j + 3) v) ((7 + (7 * i)) + 3) 1) 4 (((updI (updI Q (63 + 4 * j + 3) v) ((7 + (7 * i)) + 3) 1) 4) + 1))) (setR_top _ _ _ _ _) ?_
              refine Go_iinc (pc := 265) (L' := [some (.inr 16), some (.inl j), some (.inl z), some (.inl u), some (.inl w), some (.inl (i + 1)), some (.inl ((sc (updI Q (63 + 4 * j + 3) v) i 0) - (sc (updI Q (63 + 4 * j + 3) v) (i + 1) 0))), some (.inl 1)]) dX8_steps_265 rfl (by decide) rfl ?_
              refine Go_goto (pc := 268) (tgt := 124) dX8_steps_268 (by decide) ?_
              have e7 : i < 7 := by omega
              have eN : ¬ tieP Q mv i → updI (updI (updI Q (63 + 4 * j + 3) v) (7 + 7 * i + 3) (sc (updI Q (63 + 4 * j + 3) v) i 3)) 4 (updI (updI Q (63 + 4 * j + 3) v) (7 + 7 * i + 3) (sc (updI Q (63 + 4 * j + 3) v) i 3) 4 + 0) = updI (tieS Q mv i) (63 + 4 * j + 3) v := fun t => by
                have w1 : updI (updI Q (63 + 4 * j + 3) v) (7 + 7 * i + 3) (sc (updI Q (63 + 4 * j + 3) v) i 3) = updI Q (63 + 4 * j + 3) v := updI_eq (sc_in _ _ i0 (by omega))
                rw [w1, tieS_n t]
                exact updI_eq (by omega)
              have eY : tieP Q mv i → updI (updI (updI Q (63 + 4 * j + 3) v) (7 + 7 * i + 3) 1) 4 (updI (updI Q (63 + 4 * j + 3) v) (7 + 7 * i + 3) 1 4 + 1) = updI (tieS Q mv i) (63 + 4 * j + 3) v := fun t => by
                have w1 : updI (updI Q (63 + 4 * j + 3) v) (7 + 7 * i + 3) 1 4 = Q 4 := by rw [updI_n (by omega), updI_n (by omega)]
                rw [w1, tieS_y t, updI_cm (i := 63 + 4 * j + 3) (j := 7 + 7 * i + 3) Q (by omega), updI_cm (i := 63 + 4 * j + 3) (j := 4) _ (by omega)]
              refine Go_M ?_ (ih (by omega) _ _)
              rw [setR_cm M (show (17 : Nat) ≠ 23 by decide)]
              first | rw [eN (fun t => by have z1 := t.1; have z2 := el.mp t.2.1; have z3 := t.2.2; omega)] | rw [eY ⟨by omega, by omega, by omega⟩]
  have K00 : ∀ (u w : Int) (mv R R2 : Int → Int), P 0 = 0 → R 0 = 0 → ∀ (v : Int) (x y : Option MV), R2 = R → Go d RX8 cX8_steps 8 none 124 [some (.inr 16), some (.inl j), some (.inl z), some (.inl u), some (.inl w), some (.inl 0), x, y] [] (setR (setR M 17 (updI R (63 + 4 * j + 3) v)) 23 mv) none (setR (setR M 17 (updI R2 (63 + 4 * j + 3) v)) 23 mv) := by
    intro u w mv R R2 p0 r0 v x y eR
    have ux := u0 (P := R) (v := v) hX
    refine Go_iload (pc := 124) dX8_steps_124 rfl ?_
    refine Go_iconst (pc := 126) dX8_steps_126 ?_
    refine Go_iadd (pc := 127) dX8_steps_127 ?_
    refine Go_aload_n (pc := 128) dX8_steps_128 rfl (by decide) rfl ?_
    refine Go_getr (pc := 129) (r := 17) dX8_steps_129 fo_X8_7 (by decide) rfl rfl (by decide) ?_
    refine Go_iconst (pc := 132) dX8_steps_132 ?_
    refine Go_iaload (pc := 133) (z := (updI R (63 + 4 * j + 3) v) 0) dX8_steps_133 (by decide) rfl (by decide) (by decide) (rfl) ?_
    refine Go_icmp_ge (pc := 134) (tgt := 271) dX8_steps_134 (by decide) (by decide) (by omega) (fun c134 => ?_) (fun c134 => ?_)
    · exact Go_return (pc := 271) dX8_steps_271 rfl rfl (by rw [eR])
    · omega
  -- the groups
  have KG : ∀ (u w : Int), inR u → inR w → ∀ k, 0 ≤ k → k ≤ P 0 → ∀ (Q mv : Int → Int) (jj : Int) (x y : Option MV), Wf Q → Q 0 = P 0 → Q 1 = P 1 → mvOk mv → sc Q (k - 1) 3 = 0 → Go d RX8 cX8_steps 8 none 58 [some (.inr 16), some (.inl j), some (.inl z), some (.inl u), some (.inl w), some (.inl k), x, y] [] (setR (setR M 17 (updI Q (63 + 4 * j + 3) (c + jj))) 23 mv) none (setR (setR M 17 (updI (tieZ (gph u w (P 0) k (Q, mv, jj)).1 (gph u w (P 0) k (Q, mv, jj)).2.1 (P 0 - 1)) (63 + 4 * j + 3) (c + (gph u w (P 0) k (Q, mv, jj)).2.2))) 23 (gph u w (P 0) k (Q, mv, jj)).2.1) := by
    intro u w hu hw
    refine up_str 0 (P 0) _ (fun k k0 k1 ih Q mv jj x y hQ q0 q1 hmv hk => ?_)
    have hQX : ∀ v, Wf (updI Q (63 + 4 * j + 3) v) := fun v => hQ.uT j0 (by omega) (by decide) (by decide)
    have ux := u0 (P := Q) (v := c + jj) hX
    have g := fun h : k < P 0 => gst_W (u := u) (w := w) (σ := (Q, mv, jj)) hQ k0 (by show k < Q 0; omega)
    have gx := fun h : k < P 0 => gst_X (u := u) (w := w) (v := c + jj) (mv := mv) (j := jj) hX hQ k0 (by omega)
    have ge := fun h : k < P 0 => endG_u (v := c + jj) hX hQ k0 (by omega)
    have hGX : k < P 0 → ∀ v, Wf (updI (gst u w (updI Q (63 + 4 * j + 3) (c + jj), mv, jj) k).1 (63 + 4 * j + 3) v) := fun h v => by
      rw [gx h]
      show Wf (updI (updI _ _ _) _ v)
      rw [updI_tw]
      exact (g h).1.uT j0 (by rw [(g h).2.1 1 (by omega)]; show j < Q 1; omega) (by decide) (by decide)
    have hG0 : ∀ v, k < P 0 → updI (gst u w (updI Q (63 + 4 * j + 3) (c + jj), mv, jj) k).1 (63 + 4 * j + 3) v 0 = P 0 := fun v h => by
      rw [gx h]
      show updI (updI _ _ _) _ v 0 = _
      rw [updI_tw, updI_n (by omega), (g h).2.1 0 (by omega)]
      exact q0
    have hG00 := hG0 (updI Q (63 + 4 * j + 3) (c + jj) (63 + 4 * j + 3) + 0)
    have hG01 := hG0 (updI Q (63 + 4 * j + 3) (c + jj) (63 + 4 * j + 3) + 1)
    have KS : ∀ (t : Int) (x y : Option MV), k < P 0 → (gst u w (Q, mv, jj) k).2.2 = jj + t → Go d RX8 cX8_steps 8 none 58 [some (.inr 16), some (.inl j), some (.inl z), some (.inl u), some (.inl w), some (.inl (endG (updI (gst u w (updI Q (63 + 4 * j + 3) (c + jj), mv, jj) k).1 (63 + 4 * j + 3) (updI Q (63 + 4 * j + 3) (c + jj) (63 + 4 * j + 3) + t)) k + 1)), x, y] [] (setR (setR M 23 (gst u w (updI Q (63 + 4 * j + 3) (c + jj), mv, jj) k).2.1) 17 (updI (gst u w (updI Q (63 + 4 * j + 3) (c + jj), mv, jj) k).1 (63 + 4 * j + 3) (updI Q (63 + 4 * j + 3) (c + jj) (63 + 4 * j + 3) + t))) none (setR (setR M 17 (updI (tieZ (gph u w (P 0) k (Q, mv, jj)).1 (gph u w (P 0) k (Q, mv, jj)).2.1 (P 0 - 1)) (63 + 4 * j + 3) (c + (gph u w (P 0) k (Q, mv, jj)).2.2))) 23 (gph u w (P 0) k (Q, mv, jj)).2.1) := by
      intro t x y hk1 et
      have g := g hk1
      have gn : (gst u w (Q, mv, jj) k).1 0 = P 0 := (g.2.1 0 (by omega)).trans q0
      have gE := endG_b (f := (gst u w (Q, mv, jj) k).1) (k := k) (by omega)
      have em : updI (gst u w (updI Q (63 + 4 * j + 3) (c + jj), mv, jj) k).1 (63 + 4 * j + 3) (updI Q (63 + 4 * j + 3) (c + jj) (63 + 4 * j + 3) + t) = updI (gst u w (Q, mv, jj) k).1 (63 + 4 * j + 3) (c + (gst u w (Q, mv, jj) k).2.2) := by
        rw [gx hk1]
        show updI (updI _ _ _) _ _ = _
        rw [updI_tw, updI_s, et]
        congr 1
        omega
      rw [em, endG_u hX g.1 k0 (by omega), gx hk1, setR_cm M (show (23 : Nat) ≠ 17 by decide), gph_go (by omega), if_pos hk, gph_end k0 gn hk1]
      exact ih _ (by omega) (by omega) _ _ (gst u w (Q, mv, jj) k).2.2 _ _ g.1 gn ((g.2.1 1 (by omega)).trans q1) (gst_ok hmv hQ k0 (by omega)) (by rw [show endG (gst u w (Q, mv, jj) k).1 k + 1 - 1 = endG (gst u w (Q, mv, jj) k).1 k by omega]; exact endG_kz g.1 (by omega))
    refine Go_iload (pc := 58) dX8_steps_58 rfl ?_
    refine Go_aload_n (pc := 60) dX8_steps_60 rfl (by decide) rfl ?_
    refine Go_getr (pc := 61) (r := 17) dX8_steps_61 fo_X8_7 (by decide) rfl rfl (by decide) ?_
    refine Go_iconst (pc := 64) dX8_steps_64 ?_
    refine Go_iaload (pc := 65) (z := (updI Q (63 + 4 * j + 3) (c + jj)) 0) dX8_steps_65 (by decide) rfl (by decide) (by decide) (rfl) ?_
    refine Go_icmp_ge (pc := 66) (tgt := 121) dX8_steps_66 (by decide) (by omega) (by omega) (fun c66 => ?_) (fun c66 => ?_)
    · refine Go_iconst (pc := 121) dX8_steps_121 ?_
      refine Go_istore (pc := 122) (L' := [some (.inr 16), some (.inl j), some (.inl z), some (.inl u), some (.inl w), some (.inl 0), x, y]) dX8_steps_122 (by decide) rfl ?_
      have eg : gph u w (P 0) k (Q, mv, jj) = (Q, mv, jj) := gph_out (by omega) _
      rw [eg]
      by_cases p0 : P 0 = 0
      · exact K00 u w _ _ _ p0 (by omega) _ _ _ (by unfold tieZ; rw [show (P 0 - 1).toNat = 0 by omega]; rfl)
      · exact KT u w mv Q _ hmv hQ q0 0 (by omega) (by omega) _ _
    · refine Go_aload_n (pc := 69) dX8_steps_69 rfl (by decide) rfl ?_
      refine Go_getr (pc := 70) (r := 17) dX8_steps_70 fo_X8_7 (by decide) rfl rfl (by decide) ?_
      refine Go_bipush (pc := 73) dX8_steps_73 (by decide) (by decide) ?_
      refine Go_iconst (pc := 75) dX8_steps_75 ?_
      refine Go_iload_n (pc := 76) dX8_steps_76 rfl rfl ?_
      refine Go_imul (pc := 77) dX8_steps_77 ?_
      refine Go_iadd (pc := 78) dX8_steps_78 ?_
      refine Go_iconst (pc := 79) dX8_steps_79 ?_
      refine Go_iadd (pc := 80) dX8_steps_80 ?_
      refine Go_dup2 (pc := 81) dX8_steps_81 ?_
      refine Go_iaload (pc := 82) (z := (updI Q (63 + 4 * j + 3) (c + jj)) ((63 + (4 * j)) + 3)) dX8_steps_82 (by decide) rfl (by omega) (by omega) (rfl) ?_
      refine Go_aload_n (pc := 83) dX8_steps_83 rfl (by decide) rfl ?_
      refine Go_iload (pc := 84) dX8_steps_84 rfl ?_
      refine Go_aload_n (pc := 86) dX8_steps_86 rfl (by decide) rfl ?_
      refine Go_iload (pc := 87) dX8_steps_87 rfl ?_
      refine Go_invV (pc := 89) (y := yX8_endOf) (avs := [.inl k]) (k := 16) (rest := [.inl k, .inr 16, .inl ((updI Q (63 + 4 * j + 3) (c + jj)) ((63 + (4 * j)) + 3)), .inl ((63 + (4 * j)) + 3), .inr 17]) (x := .inl (endG (updI Q (63 + 4 * j + 3) (c + jj)) k))  (d' := d - 1) dX8_steps_89 ln_X8_66 mo_X8_endOf vo_X8_endOf rfl (rc_16) rfl rfl (Nat.le_of_ble_eq_true rfl) (by omega) (Nat.le_of_ble_eq_true rfl) rfl (s_X8_endOf (by omega) (by first | exact hQX _ | exact hGX (by omega) _) (by first | omega | (simp only [Nat.reduceAdd, setR_s]; omega) | (simp only [setR, Nat.reduceEqDiff, reduceIte]; omega)) (by first | omega | (simp only [Nat.reduceAdd, setR_s]; omega) | (simp only [setR, Nat.reduceEqDiff, reduceIte]; omega))) ?_
      refine Go_iload_n (pc := 92) dX8_steps_92 rfl rfl ?_
      refine Go_iload (pc := 93) dX8_steps_93 rfl ?_
      refine Go_invV (pc := 95) (y := yX8_jams) (avs := [.inl k, .inl (endG (updI Q (63 + 4 * j + 3) (c + jj)) k), .inl u, .inl w]) (k := 16) (rest := [.inl ((updI Q (63 + 4 * j + 3) (c + jj)) ((63 + (4 * j)) + 3)), .inl ((63 + (4 * j)) + 3), .inr 17]) (x := .inl (b2i (¬ gand (gm k (endG (updI Q (63 + 4 * j + 3) (c + jj)) k)) u = 0 ∧ ¬ gand (gm k (endG (updI Q (63 + 4 * j + 3) (c + jj)) k)) w = 0)))  (d' := d - 1) dX8_steps_95 ln_X8_69 mo_X8_jams vo_X8_jams rfl (rc_16) rfl rfl (Nat.le_of_ble_eq_true rfl) (by omega) (Nat.le_of_ble_eq_true rfl) rfl (s_X8_jams (j := jj) (by omega) (hQX _) (by first | omega | (simp only [Nat.reduceAdd, setR_s]; omega) | (simp only [setR, Nat.reduceEqDiff, reduceIte]; omega)) (by first | omega | (simp only [Nat.reduceAdd, setR_s]; omega) | (simp only [setR, Nat.reduceEqDiff, reduceIte]; omega))) ?_
      refine Go_M (M1 := setR (setR M 17 ((gst u w ((updI Q (63 + 4 * j + 3) (c + jj)), mv, jj) k).1)) 23 ((gst u w ((updI Q (63 + 4 * j + 3) (c + jj)), mv, jj) k).2.1)) (by funext q; simp only [setR]; (repeat' split) <;> first | rfl | omega | simp_all) ?_
      refine Go_ifeqB (pc := 98) (tgt := 105) dX8_steps_98 (by decide) (fun c98 => ?_) (fun c98 => ?_)
      · refine Go_iconst (pc := 105) dX8_steps_105 ?_
        refine Go_iadd (pc := 106) dX8_steps_106 ?_
        refine Go_iastore (pc := 107) dX8_steps_107 (by decide) rfl (by omega) (by omega) ?_
        refine Go_M (M1 := setR (setR M 23 ((gst u w ((updI Q (63 + 4 * j + 3) (c + jj)), mv, jj) k).2.1)) 17 (updI ((gst u w ((updI Q (63 + 4 * j + 3) (c + jj)), mv, jj) k).1) ((63 + (4 * j)) + 3) (((updI Q (63 + 4 * j + 3) (c + jj)) ((63 + (4 * j)) + 3)) + 0))) (by funext q; simp only [setR]; (repeat' split) <;> first | rfl | omega | simp_all) ?_
        refine Go_aload_n (pc := 108) dX8_steps_108 rfl (by decide) rfl ?_
        refine Go_iload (pc := 109) dX8_steps_109 rfl ?_
        refine Go_invV (pc := 111) (y := yX8_endOf) (avs := [.inl k]) (k := 16) (rest := []) (x := .inl (endG (updI ((gst u w ((updI Q (63 + 4 * j + 3) (c + jj)), mv, jj) k).1) ((63 + (4 * j)) + 3) (((updI Q (63 + 4 * j + 3) (c + jj)) ((63 + (4 * j)) + 3)) + 0)) k))  (d' := d - 1) dX8_steps_111 ln_X8_66 mo_X8_endOf vo_X8_endOf rfl (rc_16) rfl rfl (Nat.le_of_ble_eq_true rfl) (by omega) (Nat.le_of_ble_eq_true rfl) rfl (s_X8_endOf (by omega) (by first | exact hQX _ | exact hGX (by omega) _) (by first | omega | (simp only [Nat.reduceAdd, setR_s]; omega) | (simp only [setR, Nat.reduceEqDiff, reduceIte]; omega)) (by first | omega | (simp only [Nat.reduceAdd, setR_s]; omega) | (simp only [setR, Nat.reduceEqDiff, reduceIte]; omega))) ?_
        refine Go_iconst (pc := 114) dX8_steps_114 ?_
        refine Go_iadd (pc := 115) dX8_steps_115 ?_
        refine Go_istore (pc := 116) (L' := [some (.inr 16), some (.inl j), some (.inl z), some (.inl u), some (.inl w), some (.inl ((endG (updI ((gst u w ((updI Q (63 + 4 * j + 3) (c + jj)), mv, jj) k).1) ((63 + (4 * j)) + 3) (((updI Q (63 + 4 * j + 3) (c + jj)) ((63 + (4 * j)) + 3)) + 0)) k) + 1)), x, y]) dX8_steps_116 (by decide) rfl ?_
        refine Go_goto (pc := 118) (tgt := 58) dX8_steps_118 (by decide) ?_
        have eJ := @gst_j u w k Q mv jj
        have eJ0 : b2i (¬ gand (gm k (endG Q k)) u = 0 ∧ ¬ gand (gm k (endG Q k)) w = 0) = 0 := b2i_f (by rw [← ge (by omega)]; exact c98)
        rw [eJ0] at eJ
        exact KS _ _ _ (by omega) eJ
      · refine Go_iconst (pc := 101) dX8_steps_101 ?_
        refine Go_goto (pc := 102) (tgt := 106) dX8_steps_102 (by decide) ?_
        refine Go_iadd (pc := 106) dX8_steps_106 ?_
        refine Go_iastore (pc := 107) dX8_steps_107 (by decide) rfl (by omega) (by omega) ?_
        refine Go_M (M1 := setR (setR M 23 ((gst u w ((updI Q (63 + 4 * j + 3) (c + jj)), mv, jj) k).2.1)) 17 (updI ((gst u w ((updI Q (63 + 4 * j + 3) (c + jj)), mv, jj) k).1) ((63 + (4 * j)) + 3) (((updI Q (63 + 4 * j + 3) (c + jj)) ((63 + (4 * j)) + 3)) + 1))) (by funext q; simp only [setR]; (repeat' split) <;> first | rfl | omega | simp_all) ?_
        refine Go_aload_n (pc := 108) dX8_steps_108 rfl (by decide) rfl ?_
        refine Go_iload (pc := 109) dX8_steps_109 rfl ?_
        refine Go_invV (pc := 111) (y := yX8_endOf) (avs := [.inl k]) (k := 16) (rest := []) (x := .inl (endG (updI ((gst u w ((updI Q (63 + 4 * j + 3) (c + jj)), mv, jj) k).1) ((63 + (4 * j)) + 3) (((updI Q (63 + 4 * j + 3) (c + jj)) ((63 + (4 * j)) + 3)) + 1)) k))  (d' := d - 1) dX8_steps_111 ln_X8_66 mo_X8_endOf vo_X8_endOf rfl (rc_16) rfl rfl (Nat.le_of_ble_eq_true rfl) (by omega) (Nat.le_of_ble_eq_true rfl) rfl (s_X8_endOf (by omega) (by first | exact hQX _ | exact hGX (by omega) _) (by first | omega | (simp only [Nat.reduceAdd, setR_s]; omega) | (simp only [setR, Nat.reduceEqDiff, reduceIte]; omega)) (by first | omega | (simp only [Nat.reduceAdd, setR_s]; omega) | (simp only [setR, Nat.reduceEqDiff, reduceIte]; omega))) ?_
        refine Go_iconst (pc := 114) dX8_steps_114 ?_
        refine Go_iadd (pc := 115) dX8_steps_115 ?_
        refine Go_istore (pc := 116) (L' := [some (.inr 16), some (.inl j), some (.inl z), some (.inl u), some (.inl w), some (.inl ((endG (updI ((gst u w ((updI Q (63 + 4 * j + 3) (c + jj)), mv, jj) k).1) ((63 + (4 * j)) + 3) (((updI Q (63 + 4 * j + 3) (c + jj)) ((63 + (4 * j)) + 3)) + 1)) k) + 1)), x, y]) dX8_steps_116 (by decide) rfl ?_
        refine Go_goto (pc := 118) (tgt := 58) dX8_steps_118 (by decide) ?_
        have eJ := @gst_j u w k Q mv jj
        have eJ0 : b2i (¬ gand (gm k (endG Q k)) u = 0 ∧ ¬ gand (gm k (endG Q k)) w = 0) = 1 := b2i_t (by rw [← ge (by omega)]; exact c98)
        rw [eJ0] at eJ
        exact KS _ _ _ (by omega) eJ
  -- nothing has moved yet
  have KC : ∀ (u w : Int), inR u → inR w → ∀ i, 0 ≤ i → i ≤ 8 → ∀ x y : Option MV, Go d RX8 cX8_steps 8 none 34 [some (.inr 16), some (.inl j), some (.inl z), some (.inl u), some (.inl w), some (.inl i), x, y] [] (setR (setR M 17 (updI P (63 + 4 * j + 3) c)) 23 (fun q => if 0 ≤ q ∧ q < i then 0 else M 23 q)) none (setR (setR M 17 (updI (stepR P u w) (63 + 4 * j + 3) (c + stepJ P u w))) 23 (stepS P u w).2.1) := by
    intro u w hu hw
    refine up_ind 0 8 _ (fun i i0 i1 ih x y => ?_)
    refine Go_iload (pc := 34) dX8_steps_34 rfl ?_
    refine Go_bipush (pc := 36) dX8_steps_36 (by decide) (by decide) ?_
    refine Go_icmp_ge (pc := 38) (tgt := 55) dX8_steps_38 (by decide) (by omega) (by decide) (fun c38 => ?_) (fun c38 => ?_)
    · refine Go_iconst (pc := 55) dX8_steps_55 ?_
      refine Go_istore (pc := 56) (L' := [some (.inr 16), some (.inl j), some (.inl z), some (.inl u), some (.inl w), some (.inl 0), x, y]) dX8_steps_56 (by decide) rfl ?_
      refine Go_M ?_ (KG u w hu hw 0 (by omega) (by omega) P (fun _ => 0) 0 _ _ hW rfl rfl ⟨fun _ => Or.inr (Or.inl rfl), fun _ _ => rfl⟩ (sc_out _ _ (by omega)))
      rw [oz8 h23 (by omega), show c + 0 = c by omega]
    · refine Go_aload_n (pc := 41) dX8_steps_41 rfl (by decide) rfl ?_
      refine Go_getr (pc := 42) (r := 23) dX8_steps_42 fo_X8_29 (by decide) rfl rfl (by decide) ?_
      refine Go_iload (pc := 45) dX8_steps_45 rfl ?_
      refine Go_iconst (pc := 47) dX8_steps_47 ?_
      refine Go_iastore (pc := 48) dX8_steps_48 (by decide) rfl (by omega) (by omega) ?_
      refine Go_M (M1 := setR (setR M 17 (updI P (63 + 4 * j + 3) c)) 23 (updI (fun q => if 0 ≤ q ∧ q < i then 0 else M 23 q) i 0)) (setR_top _ _ _ _ _) ?_
      refine Go_iinc (pc := 49) (L' := [some (.inr 16), some (.inl j), some (.inl z), some (.inl u), some (.inl w), some (.inl (i + 1)), x, y]) dX8_steps_49 rfl (by decide) rfl ?_
      refine Go_goto (pc := 52) (tgt := 34) dX8_steps_52 (by decide) ?_
      exact Go_M (by rw [clr_s i0]) (ih (by omega) _ _)
  have hM2 : M = setR (setR M 17 (updI P (63 + 4 * j + 3) c)) 23 (fun q => if 0 ≤ q ∧ q < 0 then 0 else M 23 q) := by rw [clr_0, ← hM, setR_id, setR_id]
  have t0 := st 0 (by omega)
  have t1 := st 1 (by omega)
  refine Go_aload_n (pc := 0) dX8_steps_0 rfl (by decide) rfl ?_
  refine Go_iload_n (pc := 1) dX8_steps_1 rfl rfl ?_
  refine Go_iload_n (pc := 2) dX8_steps_2 rfl rfl ?_
  refine Go_if_eq (pc := 3) (tgt := 10) dX8_steps_3 (by decide) (by omega) (fun c3 => ?_) (fun c3 => ?_)
  · refine Go_iconst (pc := 10) dX8_steps_10 ?_
    refine Go_invV (pc := 11) (y := yX8_st) (avs := [.inl j, .inl 1]) (k := 16) (rest := []) (x := .inl (tc (M 17) j 1))  (d' := d - 1) dX8_steps_11 ln_X8_63 mo_X8_st vo_X8_st rfl (rc_16) rfl rfl (Nat.le_of_ble_eq_true rfl) (by omega) (Nat.le_of_ble_eq_true rfl) rfl (s_X8_st (by omega) (by first | omega | (simp only [Nat.reduceAdd, setR_s]; omega) | (simp only [setR, Nat.reduceEqDiff, reduceIte]; omega)) (by first | omega | (simp only [Nat.reduceAdd, setR_s]; omega) | (simp only [setR, Nat.reduceEqDiff, reduceIte]; omega)) (by decide) (by decide)) ?_
    refine Go_istore_n (pc := 14) (L' := [some (.inr 16), some (.inl j), some (.inl z), some (.inl (tc (M 17) j 1)), none, none, none, none]) dX8_steps_14 rfl (by decide) rfl ?_
    refine Go_aload_n (pc := 15) dX8_steps_15 rfl (by decide) rfl ?_
    refine Go_iload_n (pc := 16) dX8_steps_16 rfl rfl ?_
    refine Go_iload_n (pc := 17) dX8_steps_17 rfl rfl ?_
    refine Go_if_eq (pc := 18) (tgt := 25) dX8_steps_18 (by decide) (by omega) (fun c18 => ?_) (fun c18 => ?_)
    · refine Go_iconst (pc := 25) dX8_steps_25 ?_
      refine Go_invV (pc := 26) (y := yX8_st) (avs := [.inl j, .inl 0]) (k := 16) (rest := []) (x := .inl (tc (M 17) j 0))  (d' := d - 1) dX8_steps_26 ln_X8_63 mo_X8_st vo_X8_st rfl (rc_16) rfl rfl (Nat.le_of_ble_eq_true rfl) (by omega) (Nat.le_of_ble_eq_true rfl) rfl (s_X8_st (by omega) (by first | omega | (simp only [Nat.reduceAdd, setR_s]; omega) | (simp only [setR, Nat.reduceEqDiff, reduceIte]; omega)) (by first | omega | (simp only [Nat.reduceAdd, setR_s]; omega) | (simp only [setR, Nat.reduceEqDiff, reduceIte]; omega)) (by decide) (by decide)) ?_
      refine Go_istore (pc := 29) (L' := [some (.inr 16), some (.inl j), some (.inl z), some (.inl (tc (M 17) j 1)), some (.inl (tc (M 17) j 0)), none, none, none]) dX8_steps_29 (by decide) rfl ?_
      refine Go_iconst (pc := 31) dX8_steps_31 ?_
      refine Go_istore (pc := 32) (L' := [some (.inr 16), some (.inl j), some (.inl z), some (.inl (tc (M 17) j 1)), some (.inl (tc (M 17) j 0)), some (.inl 0), none, none]) dX8_steps_32 (by decide) rfl ?_
      first | (exfalso; omega) | (rw [if_pos (show z = 0 by omega), if_pos (show z = 0 by omega), ← t0, ← t1]; exact Go_M hM2 (KC _ _ (by omega) (by omega) 0 (by omega) (by omega) _ _)) | (rw [if_neg (show ¬ z = 0 by omega), if_neg (show ¬ z = 0 by omega), ← t0, ← t1]; exact Go_M hM2 (KC _ _ (by omega) (by omega) 0 (by omega) (by omega) _ _))
    · refine Go_iconst (pc := 21) dX8_steps_21 ?_
      refine Go_goto (pc := 22) (tgt := 26) dX8_steps_22 (by decide) ?_
      refine Go_invV (pc := 26) (y := yX8_st) (avs := [.inl j, .inl 1]) (k := 16) (rest := []) (x := .inl (tc (M 17) j 1))  (d' := d - 1) dX8_steps_26 ln_X8_63 mo_X8_st vo_X8_st rfl (rc_16) rfl rfl (Nat.le_of_ble_eq_true rfl) (by omega) (Nat.le_of_ble_eq_true rfl) rfl (s_X8_st (by omega) (by first | omega | (simp only [Nat.reduceAdd, setR_s]; omega) | (simp only [setR, Nat.reduceEqDiff, reduceIte]; omega)) (by first | omega | (simp only [Nat.reduceAdd, setR_s]; omega) | (simp only [setR, Nat.reduceEqDiff, reduceIte]; omega)) (by decide) (by decide)) ?_
      refine Go_istore (pc := 29) (L' := [some (.inr 16), some (.inl j), some (.inl z), some (.inl (tc (M 17) j 1)), some (.inl (tc (M 17) j 1)), none, none, none]) dX8_steps_29 (by decide) rfl ?_
      refine Go_iconst (pc := 31) dX8_steps_31 ?_
      refine Go_istore (pc := 32) (L' := [some (.inr 16), some (.inl j), some (.inl z), some (.inl (tc (M 17) j 1)), some (.inl (tc (M 17) j 1)), some (.inl 0), none, none]) dX8_steps_32 (by decide) rfl ?_
      first | (exfalso; omega) | (rw [if_pos (show z = 0 by omega), if_pos (show z = 0 by omega), ← t0, ← t1]; exact Go_M hM2 (KC _ _ (by omega) (by omega) 0 (by omega) (by omega) _ _)) | (rw [if_neg (show ¬ z = 0 by omega), if_neg (show ¬ z = 0 by omega), ← t0, ← t1]; exact Go_M hM2 (KC _ _ (by omega) (by omega) 0 (by omega) (by omega) _ _))
  · refine Go_iconst (pc := 6) dX8_steps_6 ?_
    refine Go_goto (pc := 7) (tgt := 11) dX8_steps_7 (by decide) ?_
    refine Go_invV (pc := 11) (y := yX8_st) (avs := [.inl j, .inl 0]) (k := 16) (rest := []) (x := .inl (tc (M 17) j 0))  (d' := d - 1) dX8_steps_11 ln_X8_63 mo_X8_st vo_X8_st rfl (rc_16) rfl rfl (Nat.le_of_ble_eq_true rfl) (by omega) (Nat.le_of_ble_eq_true rfl) rfl (s_X8_st (by omega) (by first | omega | (simp only [Nat.reduceAdd, setR_s]; omega) | (simp only [setR, Nat.reduceEqDiff, reduceIte]; omega)) (by first | omega | (simp only [Nat.reduceAdd, setR_s]; omega) | (simp only [setR, Nat.reduceEqDiff, reduceIte]; omega)) (by decide) (by decide)) ?_
    refine Go_istore_n (pc := 14) (L' := [some (.inr 16), some (.inl j), some (.inl z), some (.inl (tc (M 17) j 0)), none, none, none, none]) dX8_steps_14 rfl (by decide) rfl ?_
    refine Go_aload_n (pc := 15) dX8_steps_15 rfl (by decide) rfl ?_
    refine Go_iload_n (pc := 16) dX8_steps_16 rfl rfl ?_
    refine Go_iload_n (pc := 17) dX8_steps_17 rfl rfl ?_
    refine Go_if_eq (pc := 18) (tgt := 25) dX8_steps_18 (by decide) (by omega) (fun c18a => ?_) (fun c18a => ?_)
    · refine Go_iconst (pc := 25) dX8_steps_25 ?_
      refine Go_invV (pc := 26) (y := yX8_st) (avs := [.inl j, .inl 0]) (k := 16) (rest := []) (x := .inl (tc (M 17) j 0))  (d' := d - 1) dX8_steps_26 ln_X8_63 mo_X8_st vo_X8_st rfl (rc_16) rfl rfl (Nat.le_of_ble_eq_true rfl) (by omega) (Nat.le_of_ble_eq_true rfl) rfl (s_X8_st (by omega) (by first | omega | (simp only [Nat.reduceAdd, setR_s]; omega) | (simp only [setR, Nat.reduceEqDiff, reduceIte]; omega)) (by first | omega | (simp only [Nat.reduceAdd, setR_s]; omega) | (simp only [setR, Nat.reduceEqDiff, reduceIte]; omega)) (by decide) (by decide)) ?_
      refine Go_istore (pc := 29) (L' := [some (.inr 16), some (.inl j), some (.inl z), some (.inl (tc (M 17) j 0)), some (.inl (tc (M 17) j 0)), none, none, none]) dX8_steps_29 (by decide) rfl ?_
      refine Go_iconst (pc := 31) dX8_steps_31 ?_
      refine Go_istore (pc := 32) (L' := [some (.inr 16), some (.inl j), some (.inl z), some (.inl (tc (M 17) j 0)), some (.inl (tc (M 17) j 0)), some (.inl 0), none, none]) dX8_steps_32 (by decide) rfl ?_
      first | (exfalso; omega) | (rw [if_pos (show z = 0 by omega), if_pos (show z = 0 by omega), ← t0, ← t1]; exact Go_M hM2 (KC _ _ (by omega) (by omega) 0 (by omega) (by omega) _ _)) | (rw [if_neg (show ¬ z = 0 by omega), if_neg (show ¬ z = 0 by omega), ← t0, ← t1]; exact Go_M hM2 (KC _ _ (by omega) (by omega) 0 (by omega) (by omega) _ _))
    · refine Go_iconst (pc := 21) dX8_steps_21 ?_
      refine Go_goto (pc := 22) (tgt := 26) dX8_steps_22 (by decide) ?_
      refine Go_invV (pc := 26) (y := yX8_st) (avs := [.inl j, .inl 1]) (k := 16) (rest := []) (x := .inl (tc (M 17) j 1))  (d' := d - 1) dX8_steps_26 ln_X8_63 mo_X8_st vo_X8_st rfl (rc_16) rfl rfl (Nat.le_of_ble_eq_true rfl) (by omega) (Nat.le_of_ble_eq_true rfl) rfl (s_X8_st (by omega) (by first | omega | (simp only [Nat.reduceAdd, setR_s]; omega) | (simp only [setR, Nat.reduceEqDiff, reduceIte]; omega)) (by first | omega | (simp only [Nat.reduceAdd, setR_s]; omega) | (simp only [setR, Nat.reduceEqDiff, reduceIte]; omega)) (by decide) (by decide)) ?_
      refine Go_istore (pc := 29) (L' := [some (.inr 16), some (.inl j), some (.inl z), some (.inl (tc (M 17) j 0)), some (.inl (tc (M 17) j 1)), none, none, none]) dX8_steps_29 (by decide) rfl ?_
      refine Go_iconst (pc := 31) dX8_steps_31 ?_
      refine Go_istore (pc := 32) (L' := [some (.inr 16), some (.inl j), some (.inl z), some (.inl (tc (M 17) j 0)), some (.inl (tc (M 17) j 1)), some (.inl 0), none, none]) dX8_steps_32 (by decide) rfl ?_
      first | (exfalso; omega) | (rw [if_pos (show z = 0 by omega), if_pos (show z = 0 by omega), ← t0, ← t1]; exact Go_M hM2 (KC _ _ (by omega) (by omega) 0 (by omega) (by omega) _ _)) | (rw [if_neg (show ¬ z = 0 by omega), if_neg (show ¬ z = 0 by omega), ← t0, ← t1]; exact Go_M hM2 (KC _ _ (by omega) (by omega) 0 (by omega) (by omega) _ _))
