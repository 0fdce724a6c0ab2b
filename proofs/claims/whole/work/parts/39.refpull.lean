/-! the reference: jams -/
theorem sc_u {f : Int → Int} {X v k c : Int} (hX : 63 ≤ X) (c0 : 0 ≤ c) (c1 : c < 7) : sc (updI f X v) k c = sc f k c := by
  by_cases h : 0 ≤ k ∧ k < 8
  · rw [sc_in _ _ h.1 h.2, sc_in _ _ h.1 h.2, updI_n (by omega)]
  · rw [sc_out _ _ h, sc_out _ _ h]
theorem updI_eq {f : Int → Int} {j v : Int} (h : v = f j) : updI f j v = f := by rw [h, updI_id]
theorem updI_mv {mv : Int → Int} {b i y : Int} (h : b ≤ i) : updI (mvU mv b i y) i y = mvU mv b (i + 1) y := by
  funext q
  unfold mvU
  by_cases z : q = i
  · subst z
    rw [updI_s, if_pos (by omega)]
  · rw [updI_n z]
    by_cases y : b ≤ q ∧ q < i
    · rw [if_pos y, if_pos (by omega)]
    · rw [if_neg y, if_neg (by omega)]
theorem mvU_0 (mv : Int → Int) {b e : Int} (y : Int) (h : e ≤ b) : mvU mv b e y = mv := by
  funext q
  unfold mvU
  rw [if_neg (by omega)]
theorem s_X8_jams {d : Nat} (hd : 1 ≤ d) {b u w j : Int} {M : gMem} (hW : Wf (M 17)) (b0 : 0 ≤ b) (b1 : b < M 17 0) : Go d RX8 cX8_jams 11 (some .boolean) 0 [some (.inr 16), some (.inl b), some (.inl (endG (M 17) b)), some (.inl u), some (.inl w), none, none, none, none, none, none] [] M (some (.inl (b2i (¬ gand (gm b (endG (M 17) b)) u = 0 ∧ ¬ gand (gm b (endG (M 17) b)) w = 0)))) (setR (setR M 17 (gst u w (M 17, M 23, j) b).1) 23 (gst u w (M 17, M 23, j) b).2.1) := by
  have hn := hW.n
  have hg := grp_end hW b0 b1
  have he : endG (M 17) b = endG (M 17) b := rfl
  generalize hE : endG (M 17) b = e at hg he ⊢
  obtain ⟨_, be, e1, hk, hz⟩ := hg
  have cu : gand (gm b e) u = gand u (gshl 2 e - gshl 1 b) := gand_cm _ _
  have cw : gand (gm b e) w = gand w (gshl 2 e - gshl 1 b) := gand_cm _ _
  -- all deeper
  have K1 : ∀ hu hw : Int, ∀ i, b ≤ i → i ≤ e → ∀ x y : Option MV, Go d RX8 cX8_jams 11 (some .boolean) 51 [some (.inr 16), some (.inl b), some (.inl e), some (.inl u), some (.inl w), some (.inl (gm b e)), some (.inl hu), some (.inl hw), some (.inl i), x, y] [] (setR M 17 (deepR (M 17) b i)) (some (.inl 1)) (setR M 17 (deepR (M 17) b e)) := by
    intro hu hw
    refine up_ind b e _ (fun i h0 h1 ih x y => ?_)
    have es : sc (deepR (M 17) b i) i 3 = sc (M 17) i 3 := by rw [deepR_sc (by omega) (by omega) (by decide) (by decide), if_neg (by omega)]
    have hs : sc (M 17) i 3 = M 17 (7 + 7 * i + 3) := sc_in _ _ (by omega) (by omega)
    have hk2 : deepR (M 17) b i (7 + 7 * i + 3) = M 17 (7 + 7 * i + 3) := deepR_f (by omega)
    have hkn := hW.kn i
    refine Go_iload (pc := 51) dX8_jams_51 rfl ?_
    refine Go_iload_n (pc := 53) dX8_jams_53 rfl rfl ?_
    refine Go_icmp_ge (pc := 54) (tgt := 97) dX8_jams_54 (by decide) (by omega) (by omega) (fun c54 => ?_) (fun c54 => ?_)
    · refine Go_iconst (pc := 97) dX8_jams_97 ?_
      exact Go_zreturn (pc := 98) dX8_jams_98 rfl (by decide) rfl (by rw [show i = e by omega])
    · refine Go_aload_n (pc := 57) dX8_jams_57 rfl (by decide) rfl ?_
      refine Go_getr (pc := 58) (r := 17) dX8_jams_58 fo_X8_7 (by decide) rfl rfl (by decide) ?_
      refine Go_bipush (pc := 61) dX8_jams_61 (by decide) (by decide) ?_
      refine Go_bipush (pc := 63) dX8_jams_63 (by decide) (by decide) ?_
      refine Go_iload (pc := 65) dX8_jams_65 rfl ?_
      refine Go_imul (pc := 67) dX8_jams_67 ?_
      refine Go_iadd (pc := 68) dX8_jams_68 ?_
      refine Go_iconst (pc := 69) dX8_jams_69 ?_
      refine Go_iadd (pc := 70) dX8_jams_70 ?_
      refine Go_dup2 (pc := 71) dX8_jams_71 ?_
      refine Go_iaload (pc := 72) (z := (deepR (M 17) b i) ((7 + (7 * i)) + 3)) dX8_jams_72 (by decide) rfl (by omega) (by omega) (rfl) ?_
      refine Go_aload_n (pc := 73) dX8_jams_73 rfl (by decide) rfl ?_
      refine Go_iload (pc := 74) dX8_jams_74 rfl ?_
      refine Go_iconst (pc := 76) dX8_jams_76 ?_
      refine Go_invV (pc := 77) (y := yX8_sh) (avs := [.inl i, .inl 3]) (k := 16) (rest := [.inl ((deepR (M 17) b i) ((7 + (7 * i)) + 3)), .inl ((7 + (7 * i)) + 3), .inr 17]) (x := .inl (sc (deepR (M 17) b i) i 3))  (d' := d - 1) dX8_jams_77 ln_X8_59 mo_X8_sh vo_X8_sh rfl (rc_16) rfl rfl (Nat.le_of_ble_eq_true rfl) (by omega) (Nat.le_of_ble_eq_true rfl) rfl (s_X8_sh (by omega) (by first | omega | (simp only [Nat.reduceAdd, setR_s]; omega)) (by first | omega | (simp only [Nat.reduceAdd, setR_s]; omega)) (by decide) (by decide)) ?_
      refine Go_iconst (pc := 80) dX8_jams_80 ?_
      refine Go_icmp_ge (pc := 81) (tgt := 88) dX8_jams_81 (by decide) (by first | exact hW.rs _ _ (by decide) | exact hW2.rs _ _ (by decide) | omega) (by decide) (fun c81 => ?_) (fun c81 => ?_)
      · refine Go_iconst (pc := 88) dX8_jams_88 ?_
        refine Go_iadd (pc := 89) dX8_jams_89 ?_
        refine Go_iastore (pc := 90) dX8_jams_90 (by decide) rfl (by omega) (by omega) ?_
        refine Go_M (M1 := setR M 17 (updI (deepR (M 17) b i) ((7 + (7 * i)) + 3) (((deepR (M 17) b i) ((7 + (7 * i)) + 3)) + 0))) (setR_top _ _ _ _ _) ?_
        refine Go_iinc (pc := 91) (L' := [some (.inr 16), some (.inl b), some (.inl e), some (.inl u), some (.inl w), some (.inl (gm b e)), some (.inl hu), some (.inl hw), some (.inl (i + 1)), x, y]) dX8_jams_91 rfl (by decide) rfl ?_
        refine Go_goto (pc := 94) (tgt := 51) dX8_jams_94 (by decide) ?_
        refine Go_M ?_ (ih (by omega) _ _)
        rw [← deepR_s h0, hk2]
        congr 2
        first | (rw [if_neg (by omega)]; omega) | (rw [if_pos (by omega)])
      · refine Go_iconst (pc := 84) dX8_jams_84 ?_
        refine Go_goto (pc := 85) (tgt := 89) dX8_jams_85 (by decide) ?_
        refine Go_iadd (pc := 89) dX8_jams_89 ?_
        refine Go_iastore (pc := 90) dX8_jams_90 (by decide) rfl (by omega) (by omega) ?_
        refine Go_M (M1 := setR M 17 (updI (deepR (M 17) b i) ((7 + (7 * i)) + 3) (((deepR (M 17) b i) ((7 + (7 * i)) + 3)) + 1))) (setR_top _ _ _ _ _) ?_
        refine Go_iinc (pc := 91) (L' := [some (.inr 16), some (.inl b), some (.inl e), some (.inl u), some (.inl w), some (.inl (gm b e)), some (.inl hu), some (.inl hw), some (.inl (i + 1)), x, y]) dX8_jams_91 rfl (by decide) rfl ?_
        refine Go_goto (pc := 94) (tgt := 51) dX8_jams_94 (by decide) ?_
        refine Go_M ?_ (ih (by omega) _ _)
        rw [← deepR_s h0, hk2]
        congr 2
        first | (rw [if_neg (by omega)]; omega) | (rw [if_pos (by omega)])
  -- nothing moves
  have K0 : ∀ g hu hw y i : Int, b ≤ i → i ≤ e + 1 → Go d RX8 cX8_jams 11 (some .boolean) 135 [some (.inr 16), some (.inl b), some (.inl e), some (.inl u), some (.inl w), some (.inl g), some (.inl hu), some (.inl hw), some (.inl y), some (.inl 0), some (.inl i)] [] M (some (.inl 0)) M := by
    intro g hu hw y
    refine up_ind b (e + 1) _ (fun i h0 h1 ih => ?_)
    refine Go_iload (pc := 135) dX8_jams_135 rfl ?_
    refine Go_iload_n (pc := 137) dX8_jams_137 rfl rfl ?_
    refine Go_icmp_gt (pc := 138) (tgt := 178) dX8_jams_138 (by decide) (by omega) (by omega) (fun c138 => ?_) (fun c138 => ?_)
    · refine Go_iload_n (pc := 178) dX8_jams_178 rfl rfl ?_
      refine Go_istore (pc := 179) (L' := [some (.inr 16), some (.inl b), some (.inl e), some (.inl u), some (.inl w), some (.inl g), some (.inl hu), some (.inl hw), some (.inl y), some (.inl 0), some (.inl b)]) dX8_jams_179 (by decide) rfl ?_
      refine Go_iload (pc := 181) dX8_jams_181 rfl ?_
      refine Go_iload_n (pc := 183) dX8_jams_183 rfl rfl ?_
      refine Go_icmp_gt (pc := 184) (tgt := 225) dX8_jams_184 (by decide) (by omega) (by omega) (fun c184 => ?_) (fun c184 => ?_)
      · refine Go_iconst (pc := 225) dX8_jams_225 ?_
        exact Go_zreturn (pc := 226) dX8_jams_226 rfl (by decide) (by first | rfl | (simp_all; done)) rfl
      · refine Go_iload (pc := 187) dX8_jams_187 rfl ?_
        refine Go_if_eq (pc := 189) (tgt := 225) dX8_jams_189 (by decide) (by decide) (fun _ => ?_) (fun q => absurd q (by decide))
        refine Go_iconst (pc := 225) dX8_jams_225 ?_
        exact Go_zreturn (pc := 226) dX8_jams_226 rfl (by decide) (by first | rfl | (simp_all; done)) rfl
    · refine Go_iload (pc := 141) dX8_jams_141 rfl ?_
      refine Go_if_eq (pc := 143) (tgt := 169) dX8_jams_143 (by decide) (by decide) (fun _ => ?_) (fun q => absurd q (by decide))
      refine Go_iconst (pc := 169) dX8_jams_169 ?_
      refine Go_istore (pc := 170) (L' := [some (.inr 16), some (.inl b), some (.inl e), some (.inl u), some (.inl w), some (.inl g), some (.inl hu), some (.inl hw), some (.inl y), some (.inl 0), some (.inl i)]) dX8_jams_170 (by decide) rfl ?_
      refine Go_iinc (pc := 172) (L' := [some (.inr 16), some (.inl b), some (.inl e), some (.inl u), some (.inl w), some (.inl g), some (.inl hu), some (.inl hw), some (.inl y), some (.inl 0), some (.inl (i + 1))]) dX8_jams_172 rfl (by decide) rfl ?_
      refine Go_goto (pc := 175) (tgt := 135) dX8_jams_175 (by decide) ?_
      exact ih (by omega)
  -- they move
  have K3 : ∀ g hu hw y : Int, (y = 1 ∨ y = -1) → ∀ i : Int, b ≤ i → i ≤ e + 1 → Go d RX8 cX8_jams 11 (some .boolean) 181 [some (.inr 16), some (.inl b), some (.inl e), some (.inl u), some (.inl w), some (.inl g), some (.inl hu), some (.inl hw), some (.inl y), some (.inl 1), some (.inl i)] [] (setR (setR M 17 (movR (M 17) b i y)) 23 (mvU (M 23) b i y)) (some (.inl 0)) (setR (setR M 17 (movR (M 17) b (e + 1) y)) 23 (mvU (M 23) b (e + 1) y)) := by
    intro g hu hw y hy
    refine up_ind b (e + 1) _ (fun i h0 h1 ih => ?_)
    have e0 : movR (M 17) b i y (7 + 7 * i) = M 17 (7 + 7 * i) := movR_f (by omega)
    have e3 := movR_s (P := M 17) (b := b) (i := i) (by' := y) h0
    rw [show 7 + 7 * i + 0 = 7 + 7 * i by omega] at e3
    refine Go_iload (pc := 181) dX8_jams_181 rfl ?_
    refine Go_iload_n (pc := 183) dX8_jams_183 rfl rfl ?_
    refine Go_icmp_gt (pc := 184) (tgt := 225) dX8_jams_184 (by decide) (by omega) (by omega) (fun c184 => ?_) (fun c184 => ?_)
    · refine Go_iconst (pc := 225) dX8_jams_225 ?_
      exact Go_zreturn (pc := 226) dX8_jams_226 rfl (by decide) rfl (by rw [show i = e + 1 by omega])
    · refine Go_iload (pc := 187) dX8_jams_187 rfl ?_
      refine Go_if_eq (pc := 189) (tgt := 225) dX8_jams_189 (by decide) (by decide) (fun q => absurd q (by decide)) (fun _ => ?_)
      refine Go_aload_n (pc := 192) dX8_jams_192 rfl (by decide) rfl ?_
      refine Go_getr (pc := 193) (r := 17) dX8_jams_193 fo_X8_7 (by decide) rfl rfl (by decide) ?_
      refine Go_bipush (pc := 196) dX8_jams_196 (by decide) (by decide) ?_
      refine Go_bipush (pc := 198) dX8_jams_198 (by decide) (by decide) ?_
      refine Go_iload (pc := 200) dX8_jams_200 rfl ?_
      refine Go_imul (pc := 202) dX8_jams_202 ?_
      refine Go_iadd (pc := 203) dX8_jams_203 ?_
      refine Go_dup2 (pc := 204) dX8_jams_204 ?_
      refine Go_iaload (pc := 205) (z := (movR (M 17) b i y) (7 + (7 * i))) dX8_jams_205 (by decide) rfl (by omega) (by omega) (rfl) ?_
      refine Go_iload (pc := 206) dX8_jams_206 rfl ?_
      refine Go_iadd (pc := 208) dX8_jams_208 ?_
      refine Go_iastore (pc := 209) dX8_jams_209 (by decide) rfl (by omega) (by omega) ?_
      refine Go_M (M1 := setR (setR M 23 (mvU (M 23) b i y)) 17 (updI (movR (M 17) b i y) (7 + (7 * i)) (((movR (M 17) b i y) (7 + (7 * i))) + y))) (by funext q; simp only [setR]; (repeat' split) <;> first | rfl | omega | simp_all) ?_
      refine Go_aload_n (pc := 210) dX8_jams_210 rfl (by decide) rfl ?_
      refine Go_getr (pc := 211) (r := 23) dX8_jams_211 fo_X8_29 (by decide) rfl rfl (by decide) ?_
      refine Go_iload (pc := 214) dX8_jams_214 rfl ?_
      refine Go_iload (pc := 216) dX8_jams_216 rfl ?_
      refine Go_iastore (pc := 218) dX8_jams_218 (by decide) rfl (by omega) (by omega) ?_
      refine Go_M (M1 := setR (setR M 17 (updI (movR (M 17) b i y) (7 + (7 * i)) (((movR (M 17) b i y) (7 + (7 * i))) + y))) 23 (updI (mvU (M 23) b i y) i y)) (by funext q; simp only [setR]; (repeat' split) <;> first | rfl | omega | simp_all) ?_
      refine Go_iinc (pc := 219) (L' := [some (.inr 16), some (.inl b), some (.inl e), some (.inl u), some (.inl w), some (.inl g), some (.inl hu), some (.inl hw), some (.inl y), some (.inl 1), some (.inl (i + 1))]) dX8_jams_219 rfl (by decide) rfl ?_
      refine Go_goto (pc := 222) (tgt := 181) dX8_jams_222 (by decide) ?_
      exact Go_M (by rw [e0, e3, updI_mv h0]) (ih (by omega))
  have K2 : ∀ g hu hw y : Int, (y = 1 ∨ y = -1) → ∀ i : Int, b ≤ i → i ≤ e + 1 → (∀ x, b ≤ x → x < i → ¬ badP (M 17) b e y x) → Go d RX8 cX8_jams 11 (some .boolean) 135 [some (.inr 16), some (.inl b), some (.inl e), some (.inl u), some (.inl w), some (.inl g), some (.inl hu), some (.inl hw), some (.inl y), some (.inl 1), some (.inl i)] [] M (some (.inl 0)) (if badZ (M 17) b e y (M 17 0) = 0 then setR (setR M 17 (movR (M 17) b (e + 1) y)) 23 (mvU (M 23) b (e + 1) y) else M) := by
    intro g hu hw y hy
    refine up_ind b (e + 1) _ (fun i h0 h1 ih hb => ?_)
    have hht := hW.ht i
    have nz : badP (M 17) b e y i → ¬ badZ (M 17) b e y (M 17 0) = 0 := fun p z => (badZ_0 hn.1).mp z i (by omega) (by omega) p
    refine Go_iload (pc := 135) dX8_jams_135 rfl ?_
    refine Go_iload_n (pc := 137) dX8_jams_137 rfl rfl ?_
    refine Go_icmp_gt (pc := 138) (tgt := 178) dX8_jams_138 (by decide) (by omega) (by omega) (fun c138 => ?_) (fun c138 => ?_)
    · refine Go_iload_n (pc := 178) dX8_jams_178 rfl rfl ?_
      refine Go_istore (pc := 179) (L' := [some (.inr 16), some (.inl b), some (.inl e), some (.inl u), some (.inl w), some (.inl g), some (.inl hu), some (.inl hw), some (.inl y), some (.inl 1), some (.inl b)]) dX8_jams_179 (by decide) rfl ?_
      have hz : badZ (M 17) b e y (M 17 0) = 0 := (badZ_0 hn.1).mpr (fun k k0 k1 p => hb k p.1 (by have := p.2.1; omega) p)
      rw [if_pos hz]
      exact Go_M (by rw [movR_0 _ _ (Int.le_refl b), mvU_0 _ _ (Int.le_refl b), setR_id, setR_id]) (K3 _ _ _ y hy b (Int.le_refl b) (by omega))
    · refine Go_iload (pc := 141) dX8_jams_141 rfl ?_
      refine Go_if_eq (pc := 143) (tgt := 169) dX8_jams_143 (by decide) (by decide) (fun q => absurd q (by decide)) (fun _ => ?_)
      refine Go_aload_n (pc := 146) dX8_jams_146 rfl (by decide) rfl ?_
      refine Go_iload (pc := 147) dX8_jams_147 rfl ?_
      refine Go_iconst (pc := 149) dX8_jams_149 ?_
      refine Go_invV (pc := 150) (y := yX8_sh) (avs := [.inl i, .inl 0]) (k := 16) (rest := []) (x := .inl (sc (M 17) i 0))  (d' := d - 1) dX8_jams_150 ln_X8_59 mo_X8_sh vo_X8_sh rfl (rc_16) rfl rfl (Nat.le_of_ble_eq_true rfl) (by omega) (Nat.le_of_ble_eq_true rfl) rfl (s_X8_sh (by omega) (by first | omega | (simp only [Nat.reduceAdd, setR_s]; omega)) (by first | omega | (simp only [Nat.reduceAdd, setR_s]; omega)) (by decide) (by decide)) ?_
      refine Go_iload (pc := 153) dX8_jams_153 rfl ?_
      refine Go_iadd (pc := 155) dX8_jams_155 ?_
      refine Go_iconst (pc := 156) dX8_jams_156 ?_
      refine Go_bipush (pc := 157) dX8_jams_157 (by decide) (by decide) ?_
      refine Go_invS (pc := 159) (y := yX8_in) (avs := [.inl ((sc (M 17) i 0) + y), .inl 0, .inl 9]) (rest := []) (x := .inl (b2i (0 ≤ ((sc (M 17) i 0) + y) ∧ ((sc (M 17) i 0) + y) ≤ 9)))  (d' := d - 1) dX8_jams_159 ln_X8_38 mo_X8_in so_X8_in rfl rfl rfl (Nat.le_of_ble_eq_true rfl) (by omega) (Nat.le_of_ble_eq_true rfl) rfl (s_X8_in (by omega) (by omega) (by decide) (by decide)) ?_
      refine Go_ifeqB (pc := 162) (tgt := 169) dX8_jams_162 (by decide) (fun c162 => ?_) (fun c162 => ?_)
      · refine Go_iconst (pc := 169) dX8_jams_169 ?_
        refine Go_istore (pc := 170) (L' := [some (.inr 16), some (.inl b), some (.inl e), some (.inl u), some (.inl w), some (.inl g), some (.inl hu), some (.inl hw), some (.inl y), some (.inl 0), some (.inl i)]) dX8_jams_170 (by decide) rfl ?_
        refine Go_iinc (pc := 172) (L' := [some (.inr 16), some (.inl b), some (.inl e), some (.inl u), some (.inl w), some (.inl g), some (.inl hu), some (.inl hw), some (.inl y), some (.inl 0), some (.inl (i + 1))]) dX8_jams_172 rfl (by decide) rfl ?_
        refine Go_goto (pc := 175) (tgt := 135) dX8_jams_175 (by decide) ?_
        rw [if_neg (nz ⟨by omega, by omega, by omega⟩)]
        exact K0 _ _ _ y _ (by omega) (by omega)
      · refine Go_iconst (pc := 165) dX8_jams_165 ?_
        refine Go_goto (pc := 166) (tgt := 170) dX8_jams_166 (by decide) ?_
        refine Go_istore (pc := 170) (L' := [some (.inr 16), some (.inl b), some (.inl e), some (.inl u), some (.inl w), some (.inl g), some (.inl hu), some (.inl hw), some (.inl y), some (.inl 1), some (.inl i)]) dX8_jams_170 (by decide) rfl ?_
        refine Go_iinc (pc := 172) (L' := [some (.inr 16), some (.inl b), some (.inl e), some (.inl u), some (.inl w), some (.inl g), some (.inl hu), some (.inl hw), some (.inl y), some (.inl 1), some (.inl (i + 1))]) dX8_jams_172 rfl (by decide) rfl ?_
        refine Go_goto (pc := 175) (tgt := 135) dX8_jams_175 (by decide) ?_
        exact ih (by omega) (fun x x0 x1 p => by
        by_cases q : x = i
        · subst q
          exact p.2.2 (by omega)
        · exact hb x x0 (by omega) p)
  have Gn := @gst_no u w b (M 17) (M 23) j
  have Gj := @gst_jam u w b (M 17) (M 23) j
  have Gu0 := @gst_u0 u w b (M 17) (M 23) j
  have Gu1 := @gst_u1 u w b (M 17) (M 23) j
  have Gd0 := @gst_d0 u w b (M 17) (M 23) j
  have Gd1 := @gst_d1 u w b (M 17) (M 23) j
  rw [hE] at Gn Gj Gu0 Gu1 Gd0 Gd1
  rw [cu, cw] at *
  refine Go_iconst (pc := 0) dX8_jams_0 ?_
  refine Go_iload_n (pc := 1) dX8_jams_1 rfl rfl ?_
  refine Go_ishl (pc := 2) dX8_jams_2 ?_
  refine Go_iconst (pc := 3) dX8_jams_3 ?_
  refine Go_iload_n (pc := 4) dX8_jams_4 rfl rfl ?_
  refine Go_ishl (pc := 5) dX8_jams_5 ?_
  refine Go_isub (pc := 6) dX8_jams_6 ?_
  refine Go_istore (pc := 7) (L' := [some (.inr 16), some (.inl b), some (.inl e), some (.inl u), some (.inl w), some (.inl ((gshl 2 e) - (gshl 1 b))), none, none, none, none, none]) dX8_jams_7 (by decide) rfl ?_
  refine Go_iload_n (pc := 9) dX8_jams_9 rfl rfl ?_
  refine Go_iload (pc := 10) dX8_jams_10 rfl ?_
  refine Go_iand (pc := 12) dX8_jams_12 ?_
  refine Go_if_eq (pc := 13) (tgt := 20) dX8_jams_13 (by decide) (inR_gand _ _) (fun c13 => ?_) (fun c13 => ?_)
  · refine Go_iconst (pc := 20) dX8_jams_20 ?_
    refine Go_istore (pc := 21) (L' := [some (.inr 16), some (.inl b), some (.inl e), some (.inl u), some (.inl w), some (.inl ((gshl 2 e) - (gshl 1 b))), some (.inl 0), none, none, none, none]) dX8_jams_21 (by decide) rfl ?_
    refine Go_iload (pc := 23) dX8_jams_23 rfl ?_
    refine Go_iload (pc := 25) dX8_jams_25 rfl ?_
    refine Go_iand (pc := 27) dX8_jams_27 ?_
    refine Go_if_eq (pc := 28) (tgt := 35) dX8_jams_28 (by decide) (inR_gand _ _) (fun c28 => ?_) (fun c28 => ?_)
    · refine Go_iconst (pc := 35) dX8_jams_35 ?_
      refine Go_istore (pc := 36) (L' := [some (.inr 16), some (.inl b), some (.inl e), some (.inl u), some (.inl w), some (.inl ((gshl 2 e) - (gshl 1 b))), some (.inl 0), some (.inl 0), none, none, none]) dX8_jams_36 (by decide) rfl ?_
      refine Go_iload (pc := 38) dX8_jams_38 rfl ?_
      refine Go_if_eq (pc := 40) (tgt := 99) dX8_jams_40 (by decide) (by decide) (fun _ => ?_) (fun q => absurd q (by decide))
      refine Go_iload (pc := 99) dX8_jams_99 rfl ?_
      refine Go_if_eq (pc := 101) (tgt := 108) dX8_jams_101 (by decide) (by decide) (fun _ => ?_) (fun q => absurd q (by decide))
      refine Go_iload (pc := 108) dX8_jams_108 rfl ?_
      refine Go_if_eq (pc := 110) (tgt := 117) dX8_jams_110 (by decide) (by decide) (fun _ => ?_) (fun q => absurd q (by decide))
      refine Go_iconst (pc := 117) dX8_jams_117 ?_
      refine Go_istore (pc := 118) (L' := [some (.inr 16), some (.inl b), some (.inl e), some (.inl u), some (.inl w), some (.inl ((gshl 2 e) - (gshl 1 b))), some (.inl 0), some (.inl 0), some (.inl 0), none, none]) dX8_jams_118 (by decide) rfl ?_
      refine Go_iload (pc := 120) dX8_jams_120 rfl ?_
      refine Go_if_eq (pc := 122) (tgt := 129) dX8_jams_122 (by decide) (by decide) (fun _ => ?_) (fun q => absurd q (by decide))
      refine Go_iconst (pc := 129) dX8_jams_129 ?_
      refine Go_istore (pc := 130) (L' := [some (.inr 16), some (.inl b), some (.inl e), some (.inl u), some (.inl w), some (.inl ((gshl 2 e) - (gshl 1 b))), some (.inl 0), some (.inl 0), some (.inl 0), some (.inl 0), none]) dX8_jams_130 (by decide) rfl ?_
      refine Go_iload_n (pc := 132) dX8_jams_132 rfl rfl ?_
      refine Go_istore (pc := 133) (L' := [some (.inr 16), some (.inl b), some (.inl e), some (.inl u), some (.inl w), some (.inl ((gshl 2 e) - (gshl 1 b))), some (.inl 0), some (.inl 0), some (.inl 0), some (.inl 0), some (.inl b)]) dX8_jams_133 (by decide) rfl ?_
      rw [Gn c13 (by assumption), b2i_f (fun z => z.1 c13)]
      exact Go_v rfl (by rw [setR_id, setR_id]) (K0 _ _ _ _ b (Int.le_refl b) (by omega))
    · refine Go_iconst (pc := 31) dX8_jams_31 ?_
      refine Go_goto (pc := 32) (tgt := 36) dX8_jams_32 (by decide) ?_
      refine Go_istore (pc := 36) (L' := [some (.inr 16), some (.inl b), some (.inl e), some (.inl u), some (.inl w), some (.inl ((gshl 2 e) - (gshl 1 b))), some (.inl 0), some (.inl 1), none, none, none]) dX8_jams_36 (by decide) rfl ?_
      refine Go_iload (pc := 38) dX8_jams_38 rfl ?_
      refine Go_if_eq (pc := 40) (tgt := 99) dX8_jams_40 (by decide) (by decide) (fun _ => ?_) (fun q => absurd q (by decide))
      refine Go_iload (pc := 99) dX8_jams_99 rfl ?_
      refine Go_if_eq (pc := 101) (tgt := 108) dX8_jams_101 (by decide) (by decide) (fun _ => ?_) (fun q => absurd q (by decide))
      refine Go_iload (pc := 108) dX8_jams_108 rfl ?_
      refine Go_if_eq (pc := 110) (tgt := 117) dX8_jams_110 (by decide) (by decide) (fun q => absurd q (by decide)) (fun _ => ?_)
      refine Go_iconst (pc := 113) dX8_jams_113 ?_
      refine Go_goto (pc := 114) (tgt := 118) dX8_jams_114 (by decide) ?_
      refine Go_istore (pc := 118) (L' := [some (.inr 16), some (.inl b), some (.inl e), some (.inl u), some (.inl w), some (.inl ((gshl 2 e) - (gshl 1 b))), some (.inl 0), some (.inl 1), some (.inl (-1)), none, none]) dX8_jams_118 (by decide) rfl ?_
      refine Go_iload (pc := 120) dX8_jams_120 rfl ?_
      refine Go_if_eq (pc := 122) (tgt := 129) dX8_jams_122 (by decide) (by decide) (fun q => absurd q (by decide)) (fun _ => ?_)
      refine Go_iconst (pc := 125) dX8_jams_125 ?_
      refine Go_goto (pc := 126) (tgt := 130) dX8_jams_126 (by decide) ?_
      refine Go_istore (pc := 130) (L' := [some (.inr 16), some (.inl b), some (.inl e), some (.inl u), some (.inl w), some (.inl ((gshl 2 e) - (gshl 1 b))), some (.inl 0), some (.inl 1), some (.inl (-1)), some (.inl 1), none]) dX8_jams_130 (by decide) rfl ?_
      refine Go_iload_n (pc := 132) dX8_jams_132 rfl rfl ?_
      refine Go_istore (pc := 133) (L' := [some (.inr 16), some (.inl b), some (.inl e), some (.inl u), some (.inl w), some (.inl ((gshl 2 e) - (gshl 1 b))), some (.inl 0), some (.inl 1), some (.inl (-1)), some (.inl 1), some (.inl b)]) dX8_jams_133 (by decide) rfl ?_
      rw [b2i_f (fun z => z.1 c13)]
      refine Go_v rfl ?_ (K2 _ _ _ (-1) (by decide) b (Int.le_refl b) (by omega) (fun x x0 x1 => by omega))
      by_cases z : badZ (M 17) b e (-1) (M 17 0) = 0
      · rw [if_pos z, Gd1 c13 (by assumption) z]
      · rw [if_neg z, Gd0 c13 (by assumption) z, setR_id, setR_id]
  · refine Go_iconst (pc := 16) dX8_jams_16 ?_
    refine Go_goto (pc := 17) (tgt := 21) dX8_jams_17 (by decide) ?_
    refine Go_istore (pc := 21) (L' := [some (.inr 16), some (.inl b), some (.inl e), some (.inl u), some (.inl w), some (.inl ((gshl 2 e) - (gshl 1 b))), some (.inl 1), none, none, none, none]) dX8_jams_21 (by decide) rfl ?_
    refine Go_iload (pc := 23) dX8_jams_23 rfl ?_
    refine Go_iload (pc := 25) dX8_jams_25 rfl ?_
    refine Go_iand (pc := 27) dX8_jams_27 ?_
    refine Go_if_eq (pc := 28) (tgt := 35) dX8_jams_28 (by decide) (inR_gand _ _) (fun c28a => ?_) (fun c28a => ?_)
    · refine Go_iconst (pc := 35) dX8_jams_35 ?_
      refine Go_istore (pc := 36) (L' := [some (.inr 16), some (.inl b), some (.inl e), some (.inl u), some (.inl w), some (.inl ((gshl 2 e) - (gshl 1 b))), some (.inl 1), some (.inl 0), none, none, none]) dX8_jams_36 (by decide) rfl ?_
      refine Go_iload (pc := 38) dX8_jams_38 rfl ?_
      refine Go_if_eq (pc := 40) (tgt := 99) dX8_jams_40 (by decide) (by decide) (fun q => absurd q (by decide)) (fun _ => ?_)
      refine Go_iload (pc := 43) dX8_jams_43 rfl ?_
      refine Go_if_eq (pc := 45) (tgt := 99) dX8_jams_45 (by decide) (by decide) (fun _ => ?_) (fun q => absurd q (by decide))
      refine Go_iload (pc := 99) dX8_jams_99 rfl ?_
      refine Go_if_eq (pc := 101) (tgt := 108) dX8_jams_101 (by decide) (by decide) (fun q => absurd q (by decide)) (fun _ => ?_)
      refine Go_iconst (pc := 104) dX8_jams_104 ?_
      refine Go_goto (pc := 105) (tgt := 118) dX8_jams_105 (by decide) ?_
      refine Go_istore (pc := 118) (L' := [some (.inr 16), some (.inl b), some (.inl e), some (.inl u), some (.inl w), some (.inl ((gshl 2 e) - (gshl 1 b))), some (.inl 1), some (.inl 0), some (.inl 1), none, none]) dX8_jams_118 (by decide) rfl ?_
      refine Go_iload (pc := 120) dX8_jams_120 rfl ?_
      refine Go_if_eq (pc := 122) (tgt := 129) dX8_jams_122 (by decide) (by decide) (fun q => absurd q (by decide)) (fun _ => ?_)
      refine Go_iconst (pc := 125) dX8_jams_125 ?_
      refine Go_goto (pc := 126) (tgt := 130) dX8_jams_126 (by decide) ?_
      refine Go_istore (pc := 130) (L' := [some (.inr 16), some (.inl b), some (.inl e), some (.inl u), some (.inl w), some (.inl ((gshl 2 e) - (gshl 1 b))), some (.inl 1), some (.inl 0), some (.inl 1), some (.inl 1), none]) dX8_jams_130 (by decide) rfl ?_
      refine Go_iload_n (pc := 132) dX8_jams_132 rfl rfl ?_
      refine Go_istore (pc := 133) (L' := [some (.inr 16), some (.inl b), some (.inl e), some (.inl u), some (.inl w), some (.inl ((gshl 2 e) - (gshl 1 b))), some (.inl 1), some (.inl 0), some (.inl 1), some (.inl 1), some (.inl b)]) dX8_jams_133 (by decide) rfl ?_
      rw [b2i_f (fun z => absurd (by assumption) z.2)]
      refine Go_v rfl ?_ (K2 _ _ _ 1 (by decide) b (Int.le_refl b) (by omega) (fun x x0 x1 => by omega))
      by_cases z : badZ (M 17) b e 1 (M 17 0) = 0
      · rw [if_pos z, Gu1 c13 (by assumption) z]
      · rw [if_neg z, Gu0 c13 (by assumption) z, setR_id, setR_id]
    · refine Go_iconst (pc := 31) dX8_jams_31 ?_
      refine Go_goto (pc := 32) (tgt := 36) dX8_jams_32 (by decide) ?_
      refine Go_istore (pc := 36) (L' := [some (.inr 16), some (.inl b), some (.inl e), some (.inl u), some (.inl w), some (.inl ((gshl 2 e) - (gshl 1 b))), some (.inl 1), some (.inl 1), none, none, none]) dX8_jams_36 (by decide) rfl ?_
      refine Go_iload (pc := 38) dX8_jams_38 rfl ?_
      refine Go_if_eq (pc := 40) (tgt := 99) dX8_jams_40 (by decide) (by decide) (fun q => absurd q (by decide)) (fun _ => ?_)
      refine Go_iload (pc := 43) dX8_jams_43 rfl ?_
      refine Go_if_eq (pc := 45) (tgt := 99) dX8_jams_45 (by decide) (by decide) (fun q => absurd q (by decide)) (fun _ => ?_)
      refine Go_iload_n (pc := 48) dX8_jams_48 rfl rfl ?_
      refine Go_istore (pc := 49) (L' := [some (.inr 16), some (.inl b), some (.inl e), some (.inl u), some (.inl w), some (.inl ((gshl 2 e) - (gshl 1 b))), some (.inl 1), some (.inl 1), some (.inl b), none, none]) dX8_jams_49 (by decide) rfl ?_
      rw [Gj c13 (by assumption), b2i_t ⟨c13, by assumption⟩]
      exact Go_M (by rw [deepR_0 _ (Int.le_refl b), setR_id]) (Go_v rfl (by rw [setR_id2 M (by decide)]) (K1 _ _ b (Int.le_refl b) be _ _))
