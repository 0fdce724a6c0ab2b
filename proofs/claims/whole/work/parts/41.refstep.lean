/-! the reference: a step of a pull -/
theorem mv_mul_b {a b : Int} (ha : a = -1 ∨ a = 0 ∨ a = 1) (hb : b = -1 ∨ b = 0 ∨ b = 1) : -1 ≤ a * b ∧ a * b ≤ 1 := by
  rcases ha with rfl | rfl | rfl <;> rcases hb with rfl | rfl | rfl <;> decide
theorem oz8 {f : Int → Int} {n : Int} (h : ∀ q, q < 0 ∨ 8 ≤ q → f q = 0) (n8 : 8 ≤ n) : (fun q => if 0 ≤ q ∧ q < n then 0 else f q) = fun _ : Int => (0 : Int) := by
  funext q
  by_cases z : 0 ≤ q ∧ q < n
  · exact if_pos z
  · show (if 0 ≤ q ∧ q < n then 0 else f q) = 0
    rw [if_neg z]
    exact h q (by omega)
theorem clr_s {f : Int → Int} {i : Int} (h : 0 ≤ i) : updI (fun q => if 0 ≤ q ∧ q < i then 0 else f q) i 0 = fun q => if 0 ≤ q ∧ q < i + 1 then 0 else f q := by
  funext q
  by_cases z : q = i
  · subst z
    rw [updI_s, if_pos (by omega)]
  · rw [updI_n z]
    by_cases y : 0 ≤ q ∧ q < i
    · rw [if_pos y, if_pos (by omega)]
    · rw [if_neg y, if_neg (by omega)]
theorem clr_0 (f : Int → Int) : (fun q => if 0 ≤ q ∧ q < 0 then 0 else f q) = f := by
  funext q
  rw [if_neg (by omega)]
theorem s_X8_steps {d : Nat} (hd : 3 ≤ d) {j z : Int} {P : Int → Int} {c : Int} {M : gMem} (hW : Wf P) (hz : z = 0 ∨ z = 1) (j0 : 0 ≤ j) (j1 : j < P 1) (hM : M 17 = updI P (63 + 4 * j + 3) c) (h23 : ∀ q, q < 0 ∨ 8 ≤ q → M 23 q = 0) : Go d RX8 cX8_steps 8 none 0 [some (.inr 16), some (.inl j), some (.inl z), none, none, none, none, none] [] M none (setR (setR M 17 (updI (stepR P (if z = 0 then tc P j 1 else tc P j 0) (if z = 0 then tc P j 0 else tc P j 1)) (63 + 4 * j + 3) (c + stepJ P (if z = 0 then tc P j 1 else tc P j 0) (if z = 0 then tc P j 0 else tc P j 1)))) 23 (stepS P (if z = 0 then tc P j 1 else tc P j 0) (if z = 0 then tc P j 0 else tc P j 1)).2.1) := by
  have hn := hW.n
  have ht := hW.t
  have h0 := hW.up j
  have h1 := hW.dn j
  have hX : (63 : Int) ≤ 63 + 4 * j + 3 := by omega
  have st : ∀ k, (k = 0 ∨ k = 1) → tc (M 17) j k = tc P j k := fun k hk => by rw [hM, tc_in _ _ j0 (by omega), tc_in _ _ j0 (by omega), updI_n (by omega)]
  -- tying
  have KT : ∀ (u w : Int) (mv R : Int → Int) (v : Int), mvOk mv → Wf R → R 0 = P 0 → ∀ i, 0 ≤ i → i ≤ P 0 - 1 → ∀ x y : Option MV, Go d RX8 cX8_steps 8 none 124 [some (.inr 16), some (.inl j), some (.inl z), some (.inl u), some (.inl w), some (.inl i), x, y] [] (setR (setR M 17 (updI (tieZ R mv i) (63 + 4 * j + 3) v)) 23 mv) none (setR (setR M 17 (updI (tieZ R mv (P 0 - 1)) (63 + 4 * j + 3) v)) 23 mv) := by
    intro u w mv R v hmv hR r0
    refine up_ind 0 (P 0 - 1) _ (fun i i0 i1 ih x y => ?_)
    obtain ⟨hW4, hq, _⟩ := tieZ_W (mv := mv) hR (i := i) (by omega)
    have q0 := hq 0 (by decide) (by decide)
    rw [tieZ_s _ _ i0] at ih
    have eE : i = P 0 - 1 → tieZ R mv (P 0 - 1) = tieZ R mv i := fun e => by rw [e]
    generalize tieZ R mv i = Q at ih eE hW4 q0 hq ⊢
    have uu : ∀ k c, 0 ≤ c → c < 7 → sc (updI Q (63 + 4 * j + 3) v) k c = sc Q k c := fun k c a b => sc_u hX a b
    have u0 := u0 (P := Q) (v := v) hX
    have u4 : updI Q (63 + 4 * j + 3) v 4 = Q 4 := updI_n (by omega)
    have u5 : updI Q (63 + 4 * j + 3) v 5 = Q 5 := updI_n (by omega)
    have a0 := uu i 0 (by decide) (by decide)
    have a1 := uu (i + 1) 0 (by decide) (by decide)
    have a3 := uu i 3 (by decide) (by decide)
    have d0 := hW4.ht i
    have d1 := hW4.ht (i + 1)
    have d5 := hW4.df
    have dk := hW4.kn i
    have m0 := hmv.1 i
    have m1 := hmv.1 (i + 1)
    have el := mv_mul m0 m1
    have eb := mv_mul_b m0 m1
    have ei : sc Q i 3 = Q (7 + 7 * i + 3) := sc_in _ _ i0 (by omega)
    refine Go_iload (pc := 124) dX8_steps_124 rfl ?_
    refine Go_iconst (pc := 126) dX8_steps_126 ?_
    refine Go_iadd (pc := 127) dX8_steps_127 ?_
    refine Go_aload_n (pc := 128) dX8_steps_128 rfl (by decide) rfl ?_
    refine Go_getr (pc := 129) (r := 17) dX8_steps_129 fo_X8_7 (by decide) rfl rfl (by decide) ?_
    refine Go_iconst (pc := 132) dX8_steps_132 ?_
    refine Go_iaload (pc := 133) (z := (updI Q (63 + 4 * j + 3) v) 0) dX8_steps_133 (by decide) rfl (by decide) (by decide) (rfl) ?_
    refine Go_icmp_ge (pc := 134) (tgt := 271) dX8_steps_134 (by decide) (by omega) (by omega) (fun c134 => ?_) (fun c134 => ?_)
    · exact Go_return (pc := 271) dX8_steps_271 rfl rfl (by rw [eE (by omega)])
    · refine Go_aload_n (pc := 137) dX8_steps_137 rfl (by decide) rfl ?_
      refine Go_iload (pc := 138) dX8_steps_138 rfl ?_
      refine Go_iconst (pc := 140) dX8_steps_140 ?_
      refine Go_invV (pc := 141) (y := yX8_sh) (avs := [.inl i, .inl 0]) (k := 16) (rest := []) (x := .inl (sc (updI Q (63 + 4 * j + 3) v) i 0))  (d' := d - 1) dX8_steps_141 ln_X8_59 mo_X8_sh vo_X8_sh rfl (rc_16) rfl rfl (Nat.le_of_ble_eq_true rfl) (by omega) (Nat.le_of_ble_eq_true rfl) rfl (s_X8_sh (by omega) (by first | omega | (simp only [Nat.reduceAdd, setR_s]; omega)) (by first | omega | (simp only [Nat.reduceAdd, setR_s]; omega)) (by decide) (by decide)) ?_
      refine Go_aload_n (pc := 144) dX8_steps_144 rfl (by decide) rfl ?_
      refine Go_iload (pc := 145) dX8_steps_145 rfl ?_
      refine Go_iconst (pc := 147) dX8_steps_147 ?_
      refine Go_iadd (pc := 148) dX8_steps_148 ?_
      refine Go_iconst (pc := 149) dX8_steps_149 ?_
      refine Go_invV (pc := 150) (y := yX8_sh) (avs := [.inl (i + 1), .inl 0]) (k := 16) (rest := [.inl (sc (updI Q (63 + 4 * j + 3) v) i 0)]) (x := .inl (sc (updI Q (63 + 4 * j + 3) v) (i + 1) 0))  (d' := d - 1) dX8_steps_150 ln_X8_59 mo_X8_sh vo_X8_sh rfl (rc_16) rfl rfl (Nat.le_of_ble_eq_true rfl) (by omega) (Nat.le_of_ble_eq_true rfl) rfl (s_X8_sh (by omega) (by first | omega | (simp only [Nat.reduceAdd, setR_s]; omega)) (by first | omega | (simp only [Nat.reduceAdd, setR_s]; omega)) (by decide) (by decide)) ?_
      refine Go_isub (pc := 153) dX8_steps_153 ?_
      refine Go_istore (pc := 154) (L' := [some (.inr 16), some (.inl j), some (.inl z), some (.inl u), some (.inl w), some (.inl i), some (.inl ((sc (updI Q (63 + 4 * j + 3) v) i 0) - (sc (updI Q (63 + 4 * j + 3) v) (i + 1) 0))), y]) dX8_steps_154 (by decide) rfl ?_
      refine Go_aload_n (pc := 156) dX8_steps_156 rfl (by decide) rfl ?_
      refine Go_iload (pc := 157) dX8_steps_157 rfl ?_
      refine Go_iconst (pc := 159) dX8_steps_159 ?_
      refine Go_invV (pc := 160) (y := yX8_sh) (avs := [.inl i, .inl 3]) (k := 16) (rest := []) (x := .inl (sc (updI Q (63 + 4 * j + 3) v) i 3))  (d' := d - 1) dX8_steps_160 ln_X8_59 mo_X8_sh vo_X8_sh rfl (rc_16) rfl rfl (Nat.le_of_ble_eq_true rfl) (by omega) (Nat.le_of_ble_eq_true rfl) rfl (s_X8_sh (by omega) (by first | omega | (simp only [Nat.reduceAdd, setR_s]; omega)) (by first | omega | (simp only [Nat.reduceAdd, setR_s]; omega)) (by decide) (by decide)) ?_
      refine Go_if_ne (pc := 163) (tgt := 212) dX8_steps_163 (by decide) (by first | exact hW.rs _ _ (by decide) | exact hW2.rs _ _ (by decide) | omega) (fun c163 => ?_) (fun c163 => ?_)
      · refine Go_iconst (pc := 212) dX8_steps_212 ?_
        refine Go_istore (pc := 213) (L' := [some (.inr 16), some (.inl j), some (.inl z), some (.inl u), some (.inl w), some (.inl i), some (.inl ((sc (updI Q (63 + 4 * j + 3) v) i 0) - (sc (updI Q (63 + 4 * j + 3) v) (i + 1) 0))), some (.inl 0)]) dX8_steps_213 (by decide) rfl ?_
        refine Go_aload_n (pc := 215) dX8_steps_215 rfl (by decide) rfl ?_
        refine Go_getr (pc := 216) (r := 17) dX8_steps_216 fo_X8_7 (by decide) rfl rfl (by decide) ?_
        refine Go_bipush (pc := 219) dX8_steps_219 (by decide) (by decide) ?_
        refine Go_bipush (pc := 221) dX8_steps_221 (by decide) (by decide) ?_
        refine Go_iload (pc := 223) dX8_steps_223 rfl ?_
        refine Go_imul (pc := 225) dX8_steps_225 ?_
        refine Go_iadd (pc := 226) dX8_steps_226 ?_
        refine Go_iconst (pc := 227) dX8_steps_227 ?_
        refine Go_iadd (pc := 228) dX8_steps_228 ?_
        refine Go_iload (pc := 229) dX8_steps_229 rfl ?_
        refine Go_if_eq (pc := 231) (tgt := 238) dX8_steps_231 (by decide) (by decide) (fun _ => ?_) (fun q => absurd q (by decide))
        refine Go_aload_n (pc := 238) dX8_steps_238 rfl (by decide) rfl ?_
        refine Go_iload (pc := 239) dX8_steps_239 rfl ?_
        refine Go_iconst (pc := 241) dX8_steps_241 ?_
        refine Go_invV (pc := 242) (y := yX8_sh) (avs := [.inl i, .inl 3]) (k := 16) (rest := [.inl ((7 + (7 * i)) + 3), .inr 17]) (x := .inl (sc (updI Q (63 + 4 * j + 3) v) i 3))  (d' := d - 1) dX8_steps_242 ln_X8_59 mo_X8_sh vo_X8_sh rfl (rc_16) rfl rfl (Nat.le_of_ble_eq_true rfl) (by omega) (Nat.le_of_ble_eq_true rfl) rfl (s_X8_sh (by omega) (by first | omega | (simp only [Nat.reduceAdd, setR_s]; omega)) (by first | omega | (simp only [Nat.reduceAdd, setR_s]; omega)) (by decide) (by decide)) ?_
        refine Go_iastore (pc := 245) dX8_steps_245 (by decide) rfl (by omega) (by omega) ?_
        refine Go_M (M1 := setR (setR M 23 mv) 17 (updI (updI Q (63 + 4 * j + 3) v) ((7 + (7 * i)) + 3) (sc (updI Q (63 + 4 * j + 3) v) i 3))) (by funext q; simp only [setR]; (repeat' split) <;> first | rfl | omega | simp_all) ?_
        refine Go_aload_n (pc := 246) dX8_steps_246 rfl (by decide) rfl ?_
        refine Go_getr (pc := 247) (r := 17) dX8_steps_247 fo_X8_7 (by decide) rfl rfl (by decide) ?_
        refine Go_iconst (pc := 250) dX8_steps_250 ?_
        refine Go_dup2 (pc := 251) dX8_steps_251 ?_
        refine Go_iaload (pc := 252) (z := (updI (updI Q (63 + 4 * j + 3) v) ((7 + (7 * i)) + 3) (sc (updI Q (63 + 4 * j + 3) v) i 3)) 4) dX8_steps_252 (by decide) rfl (by decide) (by decide) (rfl) ?_
        refine Go_iload (pc := 253) dX8_steps_253 rfl ?_
        refine Go_if_eq (pc := 255) (tgt := 262) dX8_steps_255 (by decide) (by decide) (fun _ => ?_) (fun q => absurd q (by decide))
        refine Go_iconst (pc := 262) dX8_steps_262 ?_
        refine Go_iadd (pc := 263) dX8_steps_263 ?_
        refine Go_iastore (pc := 264) dX8_steps_264 (by decide) rfl (by decide) (by decide) ?_
        refine Go_M (M1 := setR (setR M 23 mv) 17 (updI (updI (updI Q (63 + 4 * j + 3) v) ((7 + (7 * i)) + 3) (sc (updI Q (63 + 4 * j + 3) v) i 3)) 4 (((updI (updI Q (63 + 4 * j + 3) v) ((7 + (7 * i)) + 3) (sc (updI Q (63 + 4 * j + 3) v) i 3)) 4) + 0))) (setR_top _ _ _ _ _) ?_
        refine Go_iinc (pc := 265) (L' := [some (.inr 16), some (.inl j), some (.inl z), some (.inl u), some (.inl w), some (.inl (i + 1)), some (.inl ((sc (updI Q (63 + 4 * j + 3) v) i 0) - (sc (updI Q (63 + 4 * j + 3) v) (i + 1) 0))), some (.inl 0)]) dX8_steps_265 rfl (by decide) rfl ?_
        refine Go_goto (pc := 268) (tgt := 124) dX8_steps_268 (by decide) ?_
        sorry
      · refine Go_aload_n (pc := 166) dX8_steps_166 rfl (by decide) rfl ?_
        refine Go_getr (pc := 167) (r := 23) dX8_steps_167 fo_X8_29 (by decide) rfl rfl (by decide) ?_
        refine Go_iload (pc := 170) dX8_steps_170 rfl ?_
        refine Go_iaload (pc := 172) (z := mv i) dX8_steps_172 (by decide) rfl (by omega) (by omega) (rfl) ?_
        refine Go_aload_n (pc := 173) dX8_steps_173 rfl (by decide) rfl ?_
        refine Go_getr (pc := 174) (r := 23) dX8_steps_174 fo_X8_29 (by decide) rfl rfl (by decide) ?_
        refine Go_iload (pc := 177) dX8_steps_177 rfl ?_
        refine Go_iconst (pc := 179) dX8_steps_179 ?_
        refine Go_iadd (pc := 180) dX8_steps_180 ?_
        refine Go_iaload (pc := 181) (z := mv (i + 1)) dX8_steps_181 (by decide) rfl (by omega) (by omega) (rfl) ?_
        refine Go_imul (pc := 182) dX8_steps_182 ?_
        refine Go_if_ge (pc := 183) (tgt := 212) dX8_steps_183 (by decide) (by omega) (fun c183 => ?_) (fun c183 => ?_)
        · refine Go_iconst (pc := 212) dX8_steps_212 ?_
          refine Go_istore (pc := 213) (L' := [some (.inr 16), some (.inl j), some (.inl z), some (.inl u), some (.inl w), some (.inl i), some (.inl ((sc (updI Q (63 + 4 * j + 3) v) i 0) - (sc (updI Q (63 + 4 * j + 3) v) (i + 1) 0))), some (.inl 0)]) dX8_steps_213 (by decide) rfl ?_
          refine Go_aload_n (pc := 215) dX8_steps_215 rfl (by decide) rfl ?_
          refine Go_getr (pc := 216) (r := 17) dX8_steps_216 fo_X8_7 (by decide) rfl rfl (by decide) ?_
          refine Go_bipush (pc := 219) dX8_steps_219 (by decide) (by decide) ?_
          refine Go_bipush (pc := 221) dX8_steps_221 (by decide) (by decide) ?_
          refine Go_iload (pc := 223) dX8_steps_223 rfl ?_
          refine Go_imul (pc := 225) dX8_steps_225 ?_
          refine Go_iadd (pc := 226) dX8_steps_226 ?_
          refine Go_iconst (pc := 227) dX8_steps_227 ?_
          refine Go_iadd (pc := 228) dX8_steps_228 ?_
          refine Go_iload (pc := 229) dX8_steps_229 rfl ?_
          refine Go_if_eq (pc := 231) (tgt := 238) dX8_steps_231 (by decide) (by decide) (fun _ => ?_) (fun q => absurd q (by decide))
          refine Go_aload_n (pc := 238) dX8_steps_238 rfl (by decide) rfl ?_
          refine Go_iload (pc := 239) dX8_steps_239 rfl ?_
          refine Go_iconst (pc := 241) dX8_steps_241 ?_
          refine Go_invV (pc := 242) (y := yX8_sh) (avs := [.inl i, .inl 3]) (k := 16) (rest := [.inl ((7 + (7 * i)) + 3), .inr 17]) (x := .inl (sc (updI Q (63 + 4 * j + 3) v) i 3))  (d' := d - 1) dX8_steps_242 ln_X8_59 mo_X8_sh vo_X8_sh rfl (rc_16) rfl rfl (Nat.le_of_ble_eq_true rfl) (by omega) (Nat.le_of_ble_eq_true rfl) rfl (s_X8_sh (by omega) (by first | omega | (simp only [Nat.reduceAdd, setR_s]; omega)) (by first | omega | (simp only [Nat.reduceAdd, setR_s]; omega)) (by decide) (by decide)) ?_
          refine Go_iastore (pc := 245) dX8_steps_245 (by decide) rfl (by omega) (by omega) ?_
          refine Go_M (M1 := setR (setR M 23 mv) 17 (updI (updI Q (63 + 4 * j + 3) v) ((7 + (7 * i)) + 3) (sc (updI Q (63 + 4 * j + 3) v) i 3))) (by funext q; simp only [setR]; (repeat' split) <;> first | rfl | omega | simp_all) ?_
          refine Go_aload_n (pc := 246) dX8_steps_246 rfl (by decide) rfl ?_
          refine Go_getr (pc := 247) (r := 17) dX8_steps_247 fo_X8_7 (by decide) rfl rfl (by decide) ?_
          refine Go_iconst (pc := 250) dX8_steps_250 ?_
          refine Go_dup2 (pc := 251) dX8_steps_251 ?_
          refine Go_iaload (pc := 252) (z := (updI (updI Q (63 + 4 * j + 3) v) ((7 + (7 * i)) + 3) (sc (updI Q (63 + 4 * j + 3) v) i 3)) 4) dX8_steps_252 (by decide) rfl (by decide) (by decide) (rfl) ?_
          refine Go_iload (pc := 253) dX8_steps_253 rfl ?_
          refine Go_if_eq (pc := 255) (tgt := 262) dX8_steps_255 (by decide) (by decide) (fun _ => ?_) (fun q => absurd q (by decide))
          refine Go_iconst (pc := 262) dX8_steps_262 ?_
          refine Go_iadd (pc := 263) dX8_steps_263 ?_
          refine Go_iastore (pc := 264) dX8_steps_264 (by decide) rfl (by decide) (by decide) ?_
          refine Go_M (M1 := setR (setR M 23 mv) 17 (updI (updI (updI Q (63 + 4 * j + 3) v) ((7 + (7 * i)) + 3) (sc (updI Q (63 + 4 * j + 3) v) i 3)) 4 (((updI (updI Q (63 + 4 * j + 3) v) ((7 + (7 * i)) + 3) (sc (updI Q (63 + 4 * j + 3) v) i 3)) 4) + 0))) (setR_top _ _ _ _ _) ?_
          refine Go_iinc (pc := 265) (L' := [some (.inr 16), some (.inl j), some (.inl z), some (.inl u), some (.inl w), some (.inl (i + 1)), some (.inl ((sc (updI Q (63 + 4 * j + 3) v) i 0) - (sc (updI Q (63 + 4 * j + 3) v) (i + 1) 0))), some (.inl 0)]) dX8_steps_265 rfl (by decide) rfl ?_
          refine Go_goto (pc := 268) (tgt := 124) dX8_steps_268 (by decide) ?_
          sorry
        · refine Go_iload (pc := 186) dX8_steps_186 rfl ?_
          refine Go_if_ge (pc := 188) (tgt := 197) dX8_steps_188 (by decide) (by omega) (fun c188 => ?_) (fun c188 => ?_)
          · refine Go_iload (pc := 197) dX8_steps_197 rfl ?_
            refine Go_aload_n (pc := 199) dX8_steps_199 rfl (by decide) rfl ?_
            refine Go_getr (pc := 200) (r := 17) dX8_steps_200 fo_X8_7 (by decide) rfl rfl (by decide) ?_
            refine Go_iconst (pc := 203) dX8_steps_203 ?_
            refine Go_iaload (pc := 204) (z := (updI Q (63 + 4 * j + 3) v) 5) dX8_steps_204 (by decide) rfl (by decide) (by decide) (rfl) ?_
            refine Go_icmp_lt (pc := 205) (tgt := 212) dX8_steps_205 (by decide) (by omega) (by omega) (fun c205 => ?_) (fun c205 => ?_)
            · refine Go_iconst (pc := 212) dX8_steps_212 ?_
              refine Go_istore (pc := 213) (L' := [some (.inr 16), some (.inl j), some (.inl z), some (.inl u), some (.inl w), some (.inl i), some (.inl ((sc (updI Q (63 + 4 * j + 3) v) i 0) - (sc (updI Q (63 + 4 * j + 3) v) (i + 1) 0))), some (.inl 0)]) dX8_steps_213 (by decide) rfl ?_
              refine Go_aload_n (pc := 215) dX8_steps_215 rfl (by decide) rfl ?_
              refine Go_getr (pc := 216) (r := 17) dX8_steps_216 fo_X8_7 (by decide) rfl rfl (by decide) ?_
              refine Go_bipush (pc := 219) dX8_steps_219 (by decide) (by decide) ?_
              refine Go_bipush (pc := 221) dX8_steps_221 (by decide) (by decide) ?_
              refine Go_iload (pc := 223) dX8_steps_223 rfl ?_
              refine Go_imul (pc := 225) dX8_steps_225 ?_
              refine Go_iadd (pc := 226) dX8_steps_226 ?_
              refine Go_iconst (pc := 227) dX8_steps_227 ?_
              refine Go_iadd (pc := 228) dX8_steps_228 ?_
              refine Go_iload (pc := 229) dX8_steps_229 rfl ?_
              refine Go_if_eq (pc := 231) (tgt := 238) dX8_steps_231 (by decide) (by decide) (fun _ => ?_) (fun q => absurd q (by decide))
              refine Go_aload_n (pc := 238) dX8_steps_238 rfl (by decide) rfl ?_
              refine Go_iload (pc := 239) dX8_steps_239 rfl ?_
              refine Go_iconst (pc := 241) dX8_steps_241 ?_
              refine Go_invV (pc := 242) (y := yX8_sh) (avs := [.inl i, .inl 3]) (k := 16) (rest := [.inl ((7 + (7 * i)) + 3), .inr 17]) (x := .inl (sc (updI Q (63 + 4 * j + 3) v) i 3))  (d' := d - 1) dX8_steps_242 ln_X8_59 mo_X8_sh vo_X8_sh rfl (rc_16) rfl rfl (Nat.le_of_ble_eq_true rfl) (by omega) (Nat.le_of_ble_eq_true rfl) rfl (s_X8_sh (by omega) (by first | omega | (simp only [Nat.reduceAdd, setR_s]; omega)) (by first | omega | (simp only [Nat.reduceAdd, setR_s]; omega)) (by decide) (by decide)) ?_
              refine Go_iastore (pc := 245) dX8_steps_245 (by decide) rfl (by omega) (by omega) ?_
              refine Go_M (M1 := setR (setR M 23 mv) 17 (updI (updI Q (63 + 4 * j + 3) v) ((7 + (7 * i)) + 3) (sc (updI Q (63 + 4 * j + 3) v) i 3))) (by funext q; simp only [setR]; (repeat' split) <;> first | rfl | omega | simp_all) ?_
              refine Go_aload_n (pc := 246) dX8_steps_246 rfl (by decide) rfl ?_
              refine Go_getr (pc := 247) (r := 17) dX8_steps_247 fo_X8_7 (by decide) rfl rfl (by decide) ?_
              refine Go_iconst (pc := 250) dX8_steps_250 ?_
              refine Go_dup2 (pc := 251) dX8_steps_251 ?_
              refine Go_iaload (pc := 252) (z := (updI (updI Q (63 + 4 * j + 3) v) ((7 + (7 * i)) + 3) (sc (updI Q (63 + 4 * j + 3) v) i 3)) 4) dX8_steps_252 (by decide) rfl (by decide) (by decide) (rfl) ?_
              refine Go_iload (pc := 253) dX8_steps_253 rfl ?_
              refine Go_if_eq (pc := 255) (tgt := 262) dX8_steps_255 (by decide) (by decide) (fun _ => ?_) (fun q => absurd q (by decide))
              refine Go_iconst (pc := 262) dX8_steps_262 ?_
              refine Go_iadd (pc := 263) dX8_steps_263 ?_
              refine Go_iastore (pc := 264) dX8_steps_264 (by decide) rfl (by decide) (by decide) ?_
              refine Go_M (M1 := setR (setR M 23 mv) 17 (updI (updI (updI Q (63 + 4 * j + 3) v) ((7 + (7 * i)) + 3) (sc (updI Q (63 + 4 * j + 3) v) i 3)) 4 (((updI (updI Q (63 + 4 * j + 3) v) ((7 + (7 * i)) + 3) (sc (updI Q (63 + 4 * j + 3) v) i 3)) 4) + 0))) (setR_top _ _ _ _ _) ?_
              refine Go_iinc (pc := 265) (L' := [some (.inr 16), some (.inl j), some (.inl z), some (.inl u), some (.inl w), some (.inl (i + 1)), some (.inl ((sc (updI Q (63 + 4 * j + 3) v) i 0) - (sc (updI Q (63 + 4 * j + 3) v) (i + 1) 0))), some (.inl 0)]) dX8_steps_265 rfl (by decide) rfl ?_
              refine Go_goto (pc := 268) (tgt := 124) dX8_steps_268 (by decide) ?_
              sorry
            · refine Go_iconst (pc := 208) dX8_steps_208 ?_
              refine Go_goto (pc := 209) (tgt := 213) dX8_steps_209 (by decide) ?_
              refine Go_istore (pc := 213) (L' := [some (.inr 16), some (.inl j), some (.inl z), some (.inl u), some (.inl w), some (.inl i), some (.inl ((sc (updI Q (63 + 4 * j + 3) v) i 0) - (sc (updI Q (63 + 4 * j + 3) v) (i + 1) 0))), some (.inl 1)]) dX8_steps_213 (by decide) rfl ?_
              refine Go_aload_n (pc := 215) dX8_steps_215 rfl (by decide) rfl ?_
              refine Go_getr (pc := 216) (r := 17) dX8_steps_216 fo_X8_7 (by decide) rfl rfl (by decide) ?_
              refine Go_bipush (pc := 219) dX8_steps_219 (by decide) (by decide) ?_
              refine Go_bipush (pc := 221) dX8_steps_221 (by decide) (by decide) ?_
              refine Go_iload (pc := 223) dX8_steps_223 rfl ?_
              refine Go_imul (pc := 225) dX8_steps_225 ?_
              refine Go_iadd (pc := 226) dX8_steps_226 ?_
              refine Go_iconst (pc := 227) dX8_steps_227 ?_
              refine Go_iadd (pc := 228) dX8_steps_228 ?_
              refine Go_iload (pc := 229) dX8_steps_229 rfl ?_
              refine Go_if_eq (pc := 231) (tgt := 238) dX8_steps_231 (by decide) (by decide) (fun q => absurd q (by decide)) (fun _ => ?_)
              refine Go_iconst (pc := 234) dX8_steps_234 ?_
              refine Go_goto (pc := 235) (tgt := 245) dX8_steps_235 (by decide) ?_
              refine Go_iastore (pc := 245) dX8_steps_245 (by decide) rfl (by omega) (by omega) ?_
              refine Go_M (M1 := setR (setR M 23 mv) 17 (updI (updI Q (63 + 4 * j + 3) v) ((7 + (7 * i)) + 3) 1)) (by funext q; simp only [setR]; (repeat' split) <;> first | rfl | omega | simp_all) ?_
              refine Go_aload_n (pc := 246) dX8_steps_246 rfl (by decide) rfl ?_
              refine Go_getr (pc := 247) (r := 17) dX8_steps_247 fo_X8_7 (by decide) rfl rfl (by decide) ?_
              refine Go_iconst (pc := 250) dX8_steps_250 ?_
              refine Go_dup2 (pc := 251) dX8_steps_251 ?_
              refine Go_iaload (pc := 252) (z := (updI (updI Q (63 + 4 * j + 3) v) ((7 + (7 * i)) + 3) 1) 4) dX8_steps_252 (by decide) rfl (by decide) (by decide) (rfl) ?_
              refine Go_iload (pc := 253) dX8_steps_253 rfl ?_
              refine Go_if_eq (pc := 255) (tgt := 262) dX8_steps_255 (by decide) (by decide) (fun q => absurd q (by decide)) (fun _ => ?_)
              refine Go_iconst (pc := 258) dX8_steps_258 ?_
              refine Go_goto (pc := 259) (tgt := 263) dX8_steps_259 (by decide) ?_
              refine Go_iadd (pc := 263) dX8_steps_263 ?_
              refine Go_iastore (pc := 264) dX8_steps_264 (by decide) rfl (by decide) (by decide) ?_
              refine Go_M (M1 := setR (setR M 23 mv) 17 (updI (updI (updI Q (63 + 4 * j + 3) v) ((7 + (7 * i)) + 3) 1) 4 (((updI (updI Q (63 + 4 * j + 3) v) ((7 + (7 * i)) + 3) 1) 4) + 1))) (setR_top _ _ _ _ _) ?_
              refine Go_iinc (pc := 265) (L' := [some (.inr 16), some (.inl j), some (.inl z), some (.inl u), some (.inl w), some (.inl (i + 1)), some (.inl ((sc (updI Q (63 + 4 * j + 3) v) i 0) - (sc (updI Q (63 + 4 * j + 3) v) (i + 1) 0))), some (.inl 1)]) dX8_steps_265 rfl (by decide) rfl ?_
              refine Go_goto (pc := 268) (tgt := 124) dX8_steps_268 (by decide) ?_
              sorry
          · refine Go_iload (pc := 191) dX8_steps_191 rfl ?_
            refine Go_ineg (pc := 193) dX8_steps_193 ?_
            refine Go_goto (pc := 194) (tgt := 199) dX8_steps_194 (by decide) ?_
            refine Go_aload_n (pc := 199) dX8_steps_199 rfl (by decide) rfl ?_
            refine Go_getr (pc := 200) (r := 17) dX8_steps_200 fo_X8_7 (by decide) rfl rfl (by decide) ?_
            refine Go_iconst (pc := 203) dX8_steps_203 ?_
            refine Go_iaload (pc := 204) (z := (updI Q (63 + 4 * j + 3) v) 5) dX8_steps_204 (by decide) rfl (by decide) (by decide) (rfl) ?_
            refine Go_icmp_lt (pc := 205) (tgt := 212) dX8_steps_205 (by decide) (by omega) (by omega) (fun c205a => ?_) (fun c205a => ?_)
            · refine Go_iconst (pc := 212) dX8_steps_212 ?_
              refine Go_istore (pc := 213) (L' := [some (.inr 16), some (.inl j), some (.inl z), some (.inl u), some (.inl w), some (.inl i), some (.inl ((sc (updI Q (63 + 4 * j + 3) v) i 0) - (sc (updI Q (63 + 4 * j + 3) v) (i + 1) 0))), some (.inl 0)]) dX8_steps_213 (by decide) rfl ?_
              refine Go_aload_n (pc := 215) dX8_steps_215 rfl (by decide) rfl ?_
              refine Go_getr (pc := 216) (r := 17) dX8_steps_216 fo_X8_7 (by decide) rfl rfl (by decide) ?_
              refine Go_bipush (pc := 219) dX8_steps_219 (by decide) (by decide) ?_
              refine Go_bipush (pc := 221) dX8_steps_221 (by decide) (by decide) ?_
              refine Go_iload (pc := 223) dX8_steps_223 rfl ?_
              refine Go_imul (pc := 225) dX8_steps_225 ?_
              refine Go_iadd (pc := 226) dX8_steps_226 ?_
              refine Go_iconst (pc := 227) dX8_steps_227 ?_
              refine Go_iadd (pc := 228) dX8_steps_228 ?_
              refine Go_iload (pc := 229) dX8_steps_229 rfl ?_
              refine Go_if_eq (pc := 231) (tgt := 238) dX8_steps_231 (by decide) (by decide) (fun _ => ?_) (fun q => absurd q (by decide))
              refine Go_aload_n (pc := 238) dX8_steps_238 rfl (by decide) rfl ?_
              refine Go_iload (pc := 239) dX8_steps_239 rfl ?_
              refine Go_iconst (pc := 241) dX8_steps_241 ?_
              refine Go_invV (pc := 242) (y := yX8_sh) (avs := [.inl i, .inl 3]) (k := 16) (rest := [.inl ((7 + (7 * i)) + 3), .inr 17]) (x := .inl (sc (updI Q (63 + 4 * j + 3) v) i 3))  (d' := d - 1) dX8_steps_242 ln_X8_59 mo_X8_sh vo_X8_sh rfl (rc_16) rfl rfl (Nat.le_of_ble_eq_true rfl) (by omega) (Nat.le_of_ble_eq_true rfl) rfl (s_X8_sh (by omega) (by first | omega | (simp only [Nat.reduceAdd, setR_s]; omega)) (by first | omega | (simp only [Nat.reduceAdd, setR_s]; omega)) (by decide) (by decide)) ?_
              refine Go_iastore (pc := 245) dX8_steps_245 (by decide) rfl (by omega) (by omega) ?_
              refine Go_M (M1 := setR (setR M 23 mv) 17 (updI (updI Q (63 + 4 * j + 3) v) ((7 + (7 * i)) + 3) (sc (updI Q (63 + 4 * j + 3) v) i 3))) (by funext q; simp only [setR]; (repeat' split) <;> first | rfl | omega | simp_all) ?_
              refine Go_aload_n (pc := 246) dX8_steps_246 rfl (by decide) rfl ?_
              refine Go_getr (pc := 247) (r := 17) dX8_steps_247 fo_X8_7 (by decide) rfl rfl (by decide) ?_
              refine Go_iconst (pc := 250) dX8_steps_250 ?_
              refine Go_dup2 (pc := 251) dX8_steps_251 ?_
              refine Go_iaload (pc := 252) (z := (updI (updI Q (63 + 4 * j + 3) v) ((7 + (7 * i)) + 3) (sc (updI Q (63 + 4 * j + 3) v) i 3)) 4) dX8_steps_252 (by decide) rfl (by decide) (by decide) (rfl) ?_
              refine Go_iload (pc := 253) dX8_steps_253 rfl ?_
              refine Go_if_eq (pc := 255) (tgt := 262) dX8_steps_255 (by decide) (by decide) (fun _ => ?_) (fun q => absurd q (by decide))
              refine Go_iconst (pc := 262) dX8_steps_262 ?_
              refine Go_iadd (pc := 263) dX8_steps_263 ?_
              refine Go_iastore (pc := 264) dX8_steps_264 (by decide) rfl (by decide) (by decide) ?_
              refine Go_M (M1 := setR (setR M 23 mv) 17 (updI (updI (updI Q (63 + 4 * j + 3) v) ((7 + (7 * i)) + 3) (sc (updI Q (63 + 4 * j + 3) v) i 3)) 4 (((updI (updI Q (63 + 4 * j + 3) v) ((7 + (7 * i)) + 3) (sc (updI Q (63 + 4 * j + 3) v) i 3)) 4) + 0))) (setR_top _ _ _ _ _) ?_
              refine Go_iinc (pc := 265) (L' := [some (.inr 16), some (.inl j), some (.inl z), some (.inl u), some (.inl w), some (.inl (i + 1)), some (.inl ((sc (updI Q (63 + 4 * j + 3) v) i 0) - (sc (updI Q (63 + 4 * j + 3) v) (i + 1) 0))), some (.inl 0)]) dX8_steps_265 rfl (by decide) rfl ?_
              refine Go_goto (pc := 268) (tgt := 124) dX8_steps_268 (by decide) ?_
              sorry
            · refine Go_iconst (pc := 208) dX8_steps_208 ?_
              refine Go_goto (pc := 209) (tgt := 213) dX8_steps_209 (by decide) ?_
              refine Go_istore (pc := 213) (L' := [some (.inr 16), some (.inl j), some (.inl z), some (.inl u), some (.inl w), some (.inl i), some (.inl ((sc (updI Q (63 + 4 * j + 3) v) i 0) - (sc (updI Q (63 + 4 * j + 3) v) (i + 1) 0))), some (.inl 1)]) dX8_steps_213 (by decide) rfl ?_
              refine Go_aload_n (pc := 215) dX8_steps_215 rfl (by decide) rfl ?_
              refine Go_getr (pc := 216) (r := 17) dX8_steps_216 fo_X8_7 (by decide) rfl rfl (by decide) ?_
              refine Go_bipush (pc := 219) dX8_steps_219 (by decide) (by decide) ?_
              refine Go_bipush (pc := 221) dX8_steps_221 (by decide) (by decide) ?_
              refine Go_iload (pc := 223) dX8_steps_223 rfl ?_
              refine Go_imul (pc := 225) dX8_steps_225 ?_
              refine Go_iadd (pc := 226) dX8_steps_226 ?_
              refine Go_iconst (pc := 227) dX8_steps_227 ?_
              refine Go_iadd (pc := 228) dX8_steps_228 ?_
              refine Go_iload (pc := 229) dX8_steps_229 rfl ?_
              refine Go_if_eq (pc := 231) (tgt := 238) dX8_steps_231 (by decide) (by decide) (fun q => absurd q (by decide)) (fun _ => ?_)
              refine Go_iconst (pc := 234) dX8_steps_234 ?_
              refine Go_goto (pc := 235) (tgt := 245) dX8_steps_235 (by decide) ?_
              refine Go_iastore (pc := 245) dX8_steps_245 (by decide) rfl (by omega) (by omega) ?_
              refine Go_M (M1 := setR (setR M 23 mv) 17 (updI (updI Q (63 + 4 * j + 3) v) ((7 + (7 * i)) + 3) 1)) (by funext q; simp only [setR]; (repeat' split) <;> first | rfl | omega | simp_all) ?_
              refine Go_aload_n (pc := 246) dX8_steps_246 rfl (by decide) rfl ?_
              refine Go_getr (pc := 247) (r := 17) dX8_steps_247 fo_X8_7 (by decide) rfl rfl (by decide) ?_
              refine Go_iconst (pc := 250) dX8_steps_250 ?_
              refine Go_dup2 (pc := 251) dX8_steps_251 ?_
              refine Go_iaload (pc := 252) (z := (updI (updI Q (63 + 4 * j + 3) v) ((7 + (7 * i)) + 3) 1) 4) dX8_steps_252 (by decide) rfl (by decide) (by decide) (rfl) ?_
              refine Go_iload (pc := 253) dX8_steps_253 rfl ?_
              refine Go_if_eq (pc := 255) (tgt := 262) dX8_steps_255 (by decide) (by decide) (fun q => absurd q (by decide)) (fun _ => ?_)
              refine Go_iconst (pc := 258) dX8_steps_258 ?_
              refine Go_goto (pc := 259) (tgt := 263) dX8_steps_259 (by decide) ?_
              refine Go_iadd (pc := 263) dX8_steps_263 ?_
              refine Go_iastore (pc := 264) dX8_steps_264 (by decide) rfl (by decide) (by decide) ?_
              refine Go_M (M1 := setR (setR M 23 mv) 17 (updI (updI (updI Q (63 + 4 * j + 3) v) ((7 + (7 * i)) + 3) 1) 4 (((updI (updI Q (63 + 4 * j + 3) v) ((7 + (7 * i)) + 3) 1) 4) + 1))) (setR_top _ _ _ _ _) ?_
              refine Go_iinc (pc := 265) (L' := [some (.inr 16), some (.inl j), some (.inl z), some (.inl u), some (.inl w), some (.inl (i + 1)), some (.inl ((sc (updI Q (63 + 4 * j + 3) v) i 0) - (sc (updI Q (63 + 4 * j + 3) v) (i + 1) 0))), some (.inl 1)]) dX8_steps_265 rfl (by decide) rfl ?_
              refine Go_goto (pc := 268) (tgt := 124) dX8_steps_268 (by decide) ?_
              sorry
