/-! what both answer of themselves -/
theorem s_X0_states {d : Nat} (hd : 0 ≤ d) {M : gMem} : Go d RX0 cX0_states 1 (some .int) 0 [some (.inr 5)] [] M (some (.inl (M 5 1))) M := by
  refine Go_aload_n (pc := 0) dX0_states_0 rfl (by decide) rfl ?_
  refine Go_geti (pc := 1) (z := M 5 1) dX0_states_1 fo_X0_17 (by decide) rfl rfl (rfl) ?_
  exact Go_ireturn (pc := 4) dX0_states_4 rfl (by first | rfl | (simp_all; done)) rfl
theorem s_X5_length {d : Nat} (hd : 0 ≤ d) {M : gMem} : Go d RX5 cX5_length 1 (some .int) 0 [some (.inr 7)] [] M (some (.inl (M 7 1))) M := by
  refine Go_aload_n (pc := 0) dX5_length_0 rfl (by decide) rfl ?_
  refine Go_geti (pc := 1) (z := M 7 1) dX5_length_1 fo_X5_15 (by decide) rfl rfl (rfl) ?_
  exact Go_ireturn (pc := 4) dX5_length_4 rfl (by first | rfl | (simp_all; done)) rfl
def markF (f : Int → Int) (a : Int) : Int := if sc f a 0 = sc f a 6 then 1 else if 0 < sc f (a - 1) 3 ∨ 0 < sc f a 3 then 2 else 0
theorem s_X7_placeMark {d : Nat} (hd : 2 ≤ d) {a : Int} {M : gMem} (hW : Wf (M 2)) (a0 : 0 ≤ a) (a1 : a < M 2 0) : Go d RX7 cX7_placeMark 2 (some .int) 0 [some (.inr 0), some (.inl a)] [] M (some (.inl (markF (M 2) a))) M := by
  have hn := hW.n
  refine Go_aload_n (pc := 0) dX7_placeMark_0 rfl (by decide) rfl ?_
  refine Go_getr (pc := 1) (r := 1) dX7_placeMark_1 fo_X7_10 (by decide) rfl rfl (by decide) ?_
  refine Go_iload_n (pc := 4) dX7_placeMark_4 rfl rfl ?_
  refine Go_invV (pc := 5) (y := yX1_isStanding) (avs := [.inl a]) (k := 1) (rest := []) (x := .inl (b2i (sc (M 2) a 0 = sc (M 2) a 6)))  (d' := d - 1) dX7_placeMark_5 ln_X7_205 mo_X1_isStanding vo_X1_isStanding rfl (rc_1) rfl rfl (Nat.le_of_ble_eq_true rfl) (by omega) (Nat.le_of_ble_eq_true rfl) rfl (s_X1_isStanding (by omega) (by decide) (by omega) hW) ?_
  refine Go_ifeqB (pc := 8) (tgt := 13) dX7_placeMark_8 (by decide) (fun c8 => ?_) (fun c8 => ?_)
  · refine Go_aload_n (pc := 13) dX7_placeMark_13 rfl (by decide) rfl ?_
    refine Go_getr (pc := 14) (r := 1) dX7_placeMark_14 fo_X7_10 (by decide) rfl rfl (by decide) ?_
    refine Go_iload_n (pc := 17) dX7_placeMark_17 rfl rfl ?_
    refine Go_invV (pc := 18) (y := yX1_isTangled) (avs := [.inl a]) (k := 1) (rest := []) (x := .inl (b2i (0 < sc (M 2) (a - 1) 3 ∨ 0 < sc (M 2) a 3)))  (d' := d - 1) dX7_placeMark_18 ln_X7_208 mo_X1_isTangled vo_X1_isTangled rfl (rc_1) rfl rfl (Nat.le_of_ble_eq_true rfl) (by omega) (Nat.le_of_ble_eq_true rfl) rfl (s_X1_isTangled (by omega) (by decide) (by first | omega | (simp only [Nat.reduceAdd]; omega)) (by first | omega | (simp only [Nat.reduceAdd]; omega)) hW) ?_
    refine Go_ifeqB (pc := 21) (tgt := 28) dX7_placeMark_21 (by decide) (fun c21 => ?_) (fun c21 => ?_)
    · refine Go_iconst (pc := 28) dX7_placeMark_28 ?_
      exact Go_ireturn (pc := 29) dX7_placeMark_29 rfl (by unfold markF; repeat (first | rw [if_pos (by omega)] | rw [if_neg (by omega)])) rfl
    · refine Go_iconst (pc := 24) dX7_placeMark_24 ?_
      refine Go_goto (pc := 25) (tgt := 29) dX7_placeMark_25 (by decide) ?_
      exact Go_ireturn (pc := 29) dX7_placeMark_29 rfl (by unfold markF; repeat (first | rw [if_pos (by omega)] | rw [if_neg (by omega)])) rfl
  · refine Go_iconst (pc := 11) dX7_placeMark_11 ?_
    exact Go_ireturn (pc := 12) dX7_placeMark_12 rfl (by unfold markF; repeat (first | rw [if_pos (by omega)] | rw [if_neg (by omega)])) rfl
def shadeF (f : Int → Int) (a c : Int) : Int :=
  if ¬ (0 ≤ a ∧ a < f 0) ∨ c < 0 ∨ 9 < c then -1000001 else if c = 4 then gm (begG f a) (endG f a) else if c = 5 then lightF (sc f a 1) (f 2) (sc f a 0) else if c = 6 then sc f a 4 else if c = 7 then sc f a 5
  else if c = 8 then (if 0 ≤ sc f a 6 then sc f a 6 else -1000004) else if c = 9 then (if 0 ≤ sc f a 6 then markF f a else -1000004) else sc f a c
theorem s_X7_shadeOf {d : Nat} (hd : 4 ≤ d) {a c : Int} {M : gMem} (hW : Wf (M 2)) (ha : inR a) (hc : inR c) : Go d RX7 cX7_shadeOf 3 (some .int) 0 [some (.inr 0), some (.inl a), some (.inl c)] [] M (some (.inl (shadeF (M 2) a c))) M := by
  have hn := hW.n
  refine Go_aload_n (pc := 0) dX7_shadeOf_0 rfl (by decide) rfl ?_
  refine Go_getr (pc := 1) (r := 1) dX7_shadeOf_1 fo_X7_10 (by decide) rfl rfl (by decide) ?_
  refine Go_iload_n (pc := 4) dX7_shadeOf_4 rfl rfl ?_
  refine Go_invV (pc := 5) (y := yX1_hasShade) (avs := [.inl a]) (k := 1) (rest := []) (x := .inl (b2i (0 ≤ a ∧ a < M 2 0)))  (d' := d - 1) dX7_shadeOf_5 ln_X7_91 mo_X1_hasShade vo_X1_hasShade rfl (rc_1) rfl rfl (Nat.le_of_ble_eq_true rfl) (by omega) (Nat.le_of_ble_eq_true rfl) rfl (s_X1_hasShade (by omega) (by decide) (by omega) hW) ?_
  refine Go_ifneB (pc := 8) (tgt := 14) dX7_shadeOf_8 (by decide) (fun c8 => ?_) (fun c8 => ?_)
  · refine Go_iload_n (pc := 14) dX7_shadeOf_14 rfl rfl ?_
    rcases (by omega : c = 0 ∨ c = 1 ∨ c = 2 ∨ c = 3 ∨ c = 4 ∨ c = 5 ∨ c = 6 ∨ c = 7 ∨ c = 8 ∨ c = 9 ∨ (c < 0 ∨ 9 < c)) with c15 | c15 | c15 | c15 | c15 | c15 | c15 | c15 | c15 | c15 | c15
    · refine Go_tsIn (pc := 15) (tgt := 68) dX7_shadeOf_15 (by omega) (by omega) (by omega) (by rw [c15]; rfl) (by decide) ?_
      refine Go_aload_n (pc := 68) dX7_shadeOf_68 rfl (by decide) rfl ?_
      refine Go_getr (pc := 69) (r := 1) dX7_shadeOf_69 fo_X7_10 (by decide) rfl rfl (by decide) ?_
      refine Go_iload_n (pc := 72) dX7_shadeOf_72 rfl rfl ?_
      refine Go_iconst (pc := 73) dX7_shadeOf_73 ?_
      refine Go_invV (pc := 74) (y := yX1_ofShade) (avs := [.inl a, .inl 0]) (k := 1) (rest := []) (x := .inl (sc (M 2) a 0))  (d' := d - 1) dX7_shadeOf_74 ln_X7_95 mo_X1_ofShade vo_X1_ofShade rfl (rc_1) rfl rfl (Nat.le_of_ble_eq_true rfl) (by omega) (Nat.le_of_ble_eq_true rfl) rfl (s_X1_ofShade (by omega) (by decide) (by omega) (by decide) (by decide)) ?_
      exact Go_ireturn (pc := 77) dX7_shadeOf_77 rfl (by unfold shadeF; (repeat (first | rw [if_pos (by omega)] | rw [if_neg (by omega)])); first | done | rfl | rw [c15]) rfl
    · refine Go_tsIn (pc := 15) (tgt := 78) dX7_shadeOf_15 (by omega) (by omega) (by omega) (by rw [c15]; rfl) (by decide) ?_
      refine Go_aload_n (pc := 78) dX7_shadeOf_78 rfl (by decide) rfl ?_
      refine Go_getr (pc := 79) (r := 1) dX7_shadeOf_79 fo_X7_10 (by decide) rfl rfl (by decide) ?_
      refine Go_iload_n (pc := 82) dX7_shadeOf_82 rfl rfl ?_
      refine Go_iconst (pc := 83) dX7_shadeOf_83 ?_
      refine Go_invV (pc := 84) (y := yX1_ofShade) (avs := [.inl a, .inl 1]) (k := 1) (rest := []) (x := .inl (sc (M 2) a 1))  (d' := d - 1) dX7_shadeOf_84 ln_X7_95 mo_X1_ofShade vo_X1_ofShade rfl (rc_1) rfl rfl (Nat.le_of_ble_eq_true rfl) (by omega) (Nat.le_of_ble_eq_true rfl) rfl (s_X1_ofShade (by omega) (by decide) (by omega) (by decide) (by decide)) ?_
      exact Go_ireturn (pc := 87) dX7_shadeOf_87 rfl (by unfold shadeF; (repeat (first | rw [if_pos (by omega)] | rw [if_neg (by omega)])); first | done | rfl | rw [c15]) rfl
    · refine Go_tsIn (pc := 15) (tgt := 88) dX7_shadeOf_15 (by omega) (by omega) (by omega) (by rw [c15]; rfl) (by decide) ?_
      refine Go_aload_n (pc := 88) dX7_shadeOf_88 rfl (by decide) rfl ?_
      refine Go_getr (pc := 89) (r := 1) dX7_shadeOf_89 fo_X7_10 (by decide) rfl rfl (by decide) ?_
      refine Go_iload_n (pc := 92) dX7_shadeOf_92 rfl rfl ?_
      refine Go_iconst (pc := 93) dX7_shadeOf_93 ?_
      refine Go_invV (pc := 94) (y := yX1_ofShade) (avs := [.inl a, .inl 2]) (k := 1) (rest := []) (x := .inl (sc (M 2) a 2))  (d' := d - 1) dX7_shadeOf_94 ln_X7_95 mo_X1_ofShade vo_X1_ofShade rfl (rc_1) rfl rfl (Nat.le_of_ble_eq_true rfl) (by omega) (Nat.le_of_ble_eq_true rfl) rfl (s_X1_ofShade (by omega) (by decide) (by omega) (by decide) (by decide)) ?_
      exact Go_ireturn (pc := 97) dX7_shadeOf_97 rfl (by unfold shadeF; (repeat (first | rw [if_pos (by omega)] | rw [if_neg (by omega)])); first | done | rfl | rw [c15]) rfl
    · refine Go_tsIn (pc := 15) (tgt := 98) dX7_shadeOf_15 (by omega) (by omega) (by omega) (by rw [c15]; rfl) (by decide) ?_
      refine Go_aload_n (pc := 98) dX7_shadeOf_98 rfl (by decide) rfl ?_
      refine Go_getr (pc := 99) (r := 1) dX7_shadeOf_99 fo_X7_10 (by decide) rfl rfl (by decide) ?_
      refine Go_iload_n (pc := 102) dX7_shadeOf_102 rfl rfl ?_
      refine Go_iconst (pc := 103) dX7_shadeOf_103 ?_
      refine Go_invV (pc := 104) (y := yX1_ofShade) (avs := [.inl a, .inl 3]) (k := 1) (rest := []) (x := .inl (sc (M 2) a 3))  (d' := d - 1) dX7_shadeOf_104 ln_X7_95 mo_X1_ofShade vo_X1_ofShade rfl (rc_1) rfl rfl (Nat.le_of_ble_eq_true rfl) (by omega) (Nat.le_of_ble_eq_true rfl) rfl (s_X1_ofShade (by omega) (by decide) (by omega) (by decide) (by decide)) ?_
      exact Go_ireturn (pc := 107) dX7_shadeOf_107 rfl (by unfold shadeF; (repeat (first | rw [if_pos (by omega)] | rw [if_neg (by omega)])); first | done | rfl | rw [c15]) rfl
    · refine Go_tsIn (pc := 15) (tgt := 108) dX7_shadeOf_15 (by omega) (by omega) (by omega) (by rw [c15]; rfl) (by decide) ?_
      refine Go_aload_n (pc := 108) dX7_shadeOf_108 rfl (by decide) rfl ?_
      refine Go_getr (pc := 109) (r := 1) dX7_shadeOf_109 fo_X7_10 (by decide) rfl rfl (by decide) ?_
      refine Go_iload_n (pc := 112) dX7_shadeOf_112 rfl rfl ?_
      refine Go_invV (pc := 113) (y := yX1_groupOf) (avs := [.inl a]) (k := 1) (rest := []) (x := .inl (gm (begG (M 2) a) (endG (M 2) a)))  (d' := d - 1) dX7_shadeOf_113 ln_X7_99 mo_X1_groupOf vo_X1_groupOf rfl (rc_1) rfl rfl (Nat.le_of_ble_eq_true rfl) (by omega) (Nat.le_of_ble_eq_true rfl) rfl (s_X1_groupOf (by omega) (by decide) hW (by first | omega | (simp only [Nat.reduceAdd]; omega)) (by first | omega | (simp only [Nat.reduceAdd]; omega))) ?_
      exact Go_ireturn (pc := 116) dX7_shadeOf_116 rfl (by unfold shadeF; (repeat (first | rw [if_pos (by omega)] | rw [if_neg (by omega)])); first | done | rfl | rw [c15]) rfl
    · refine Go_tsIn (pc := 15) (tgt := 117) dX7_shadeOf_15 (by omega) (by omega) (by omega) (by rw [c15]; rfl) (by decide) ?_
      refine Go_aload_n (pc := 117) dX7_shadeOf_117 rfl (by decide) rfl ?_
      refine Go_getr (pc := 118) (r := 1) dX7_shadeOf_118 fo_X7_10 (by decide) rfl rfl (by decide) ?_
      refine Go_iload_n (pc := 121) dX7_shadeOf_121 rfl rfl ?_
      refine Go_invS (pc := 122) (y := yX4_lightBehind) (avs := [.inr 1, .inl a]) (rest := []) (x := .inl (lightF (sc (M 2) a 1) (M 2 2) (sc (M 2) a 0)))  (d' := d - 1) dX7_shadeOf_122 ln_X7_102 mo_X4_lightBehind so_X4_lightBehind rfl rfl rfl (Nat.le_of_ble_eq_true rfl) (by omega) (Nat.le_of_ble_eq_true rfl) rfl (s_X4_lightBehind (by omega) (by decide) hW (by first | omega | (simp only [Nat.reduceAdd]; omega)) (by first | omega | (simp only [Nat.reduceAdd]; omega))) ?_
      exact Go_ireturn (pc := 125) dX7_shadeOf_125 rfl (by unfold shadeF; (repeat (first | rw [if_pos (by omega)] | rw [if_neg (by omega)])); first | done | rfl | rw [c15]) rfl
    · refine Go_tsIn (pc := 15) (tgt := 126) dX7_shadeOf_15 (by omega) (by omega) (by omega) (by rw [c15]; rfl) (by decide) ?_
      refine Go_aload_n (pc := 126) dX7_shadeOf_126 rfl (by decide) rfl ?_
      refine Go_getr (pc := 127) (r := 1) dX7_shadeOf_127 fo_X7_10 (by decide) rfl rfl (by decide) ?_
      refine Go_iload_n (pc := 130) dX7_shadeOf_130 rfl rfl ?_
      refine Go_iconst (pc := 131) dX7_shadeOf_131 ?_
      refine Go_invV (pc := 132) (y := yX1_ofShade) (avs := [.inl a, .inl 4]) (k := 1) (rest := []) (x := .inl (sc (M 2) a 4))  (d' := d - 1) dX7_shadeOf_132 ln_X7_95 mo_X1_ofShade vo_X1_ofShade rfl (rc_1) rfl rfl (Nat.le_of_ble_eq_true rfl) (by omega) (Nat.le_of_ble_eq_true rfl) rfl (s_X1_ofShade (by omega) (by decide) (by omega) (by decide) (by decide)) ?_
      exact Go_ireturn (pc := 135) dX7_shadeOf_135 rfl (by unfold shadeF; (repeat (first | rw [if_pos (by omega)] | rw [if_neg (by omega)])); first | done | rfl | rw [c15]) rfl
    · refine Go_tsIn (pc := 15) (tgt := 136) dX7_shadeOf_15 (by omega) (by omega) (by omega) (by rw [c15]; rfl) (by decide) ?_
      refine Go_aload_n (pc := 136) dX7_shadeOf_136 rfl (by decide) rfl ?_
      refine Go_getr (pc := 137) (r := 1) dX7_shadeOf_137 fo_X7_10 (by decide) rfl rfl (by decide) ?_
      refine Go_iload_n (pc := 140) dX7_shadeOf_140 rfl rfl ?_
      refine Go_iconst (pc := 141) dX7_shadeOf_141 ?_
      refine Go_invV (pc := 142) (y := yX1_ofShade) (avs := [.inl a, .inl 5]) (k := 1) (rest := []) (x := .inl (sc (M 2) a 5))  (d' := d - 1) dX7_shadeOf_142 ln_X7_95 mo_X1_ofShade vo_X1_ofShade rfl (rc_1) rfl rfl (Nat.le_of_ble_eq_true rfl) (by omega) (Nat.le_of_ble_eq_true rfl) rfl (s_X1_ofShade (by omega) (by decide) (by omega) (by decide) (by decide)) ?_
      exact Go_ireturn (pc := 145) dX7_shadeOf_145 rfl (by unfold shadeF; (repeat (first | rw [if_pos (by omega)] | rw [if_neg (by omega)])); first | done | rfl | rw [c15]) rfl
    · refine Go_tsIn (pc := 15) (tgt := 146) dX7_shadeOf_15 (by omega) (by omega) (by omega) (by rw [c15]; rfl) (by decide) ?_
      refine Go_aload_n (pc := 146) dX7_shadeOf_146 rfl (by decide) rfl ?_
      refine Go_getr (pc := 147) (r := 1) dX7_shadeOf_147 fo_X7_10 (by decide) rfl rfl (by decide) ?_
      refine Go_iload_n (pc := 150) dX7_shadeOf_150 rfl rfl ?_
      refine Go_invV (pc := 151) (y := yX1_isTold) (avs := [.inl a]) (k := 1) (rest := []) (x := .inl (b2i ((0 ≤ a ∧ a < M 2 0) ∧ 0 ≤ sc (M 2) a 6)))  (d' := d - 1) dX7_shadeOf_151 ln_X7_107 mo_X1_isTold vo_X1_isTold rfl (rc_1) rfl rfl (Nat.le_of_ble_eq_true rfl) (by omega) (Nat.le_of_ble_eq_true rfl) rfl (s_X1_isTold (by omega) (by decide) (by omega) hW) ?_
      refine Go_ifeqB (pc := 154) (tgt := 170) dX7_shadeOf_154 (by decide) (fun c154 => ?_) (fun c154 => ?_)
      · refine Go_ldc (pc := 170) (n := -1000004) rfl kc_X7_110 dX7_shadeOf_170 ?_
        exact Go_ireturn (pc := 172) dX7_shadeOf_172 rfl (by unfold shadeF; (repeat (first | rw [if_pos (by omega)] | rw [if_neg (by omega)])); first | done | rfl | rw [c15]) rfl
      · refine Go_aload_n (pc := 157) dX7_shadeOf_157 rfl (by decide) rfl ?_
        refine Go_getr (pc := 158) (r := 1) dX7_shadeOf_158 fo_X7_10 (by decide) rfl rfl (by decide) ?_
        refine Go_iload_n (pc := 161) dX7_shadeOf_161 rfl rfl ?_
        refine Go_bipush (pc := 162) dX7_shadeOf_162 (by decide) (by decide) ?_
        refine Go_invV (pc := 164) (y := yX1_ofShade) (avs := [.inl a, .inl 6]) (k := 1) (rest := []) (x := .inl (sc (M 2) a 6))  (d' := d - 1) dX7_shadeOf_164 ln_X7_95 mo_X1_ofShade vo_X1_ofShade rfl (rc_1) rfl rfl (Nat.le_of_ble_eq_true rfl) (by omega) (Nat.le_of_ble_eq_true rfl) rfl (s_X1_ofShade (by omega) (by decide) (by omega) (by decide) (by decide)) ?_
        refine Go_goto (pc := 167) (tgt := 172) dX7_shadeOf_167 (by decide) ?_
        exact Go_ireturn (pc := 172) dX7_shadeOf_172 rfl (by unfold shadeF; (repeat (first | rw [if_pos (by omega)] | rw [if_neg (by omega)])); first | done | rfl | rw [c15]) rfl
    · refine Go_tsIn (pc := 15) (tgt := 173) dX7_shadeOf_15 (by omega) (by omega) (by omega) (by rw [c15]; rfl) (by decide) ?_
      refine Go_aload_n (pc := 173) dX7_shadeOf_173 rfl (by decide) rfl ?_
      refine Go_getr (pc := 174) (r := 1) dX7_shadeOf_174 fo_X7_10 (by decide) rfl rfl (by decide) ?_
      refine Go_iload_n (pc := 177) dX7_shadeOf_177 rfl rfl ?_
      refine Go_invV (pc := 178) (y := yX1_isTold) (avs := [.inl a]) (k := 1) (rest := []) (x := .inl (b2i ((0 ≤ a ∧ a < M 2 0) ∧ 0 ≤ sc (M 2) a 6)))  (d' := d - 1) dX7_shadeOf_178 ln_X7_107 mo_X1_isTold vo_X1_isTold rfl (rc_1) rfl rfl (Nat.le_of_ble_eq_true rfl) (by omega) (Nat.le_of_ble_eq_true rfl) rfl (s_X1_isTold (by omega) (by decide) (by omega) hW) ?_
      refine Go_ifeqB (pc := 181) (tgt := 192) dX7_shadeOf_181 (by decide) (fun c181 => ?_) (fun c181 => ?_)
      · refine Go_ldc (pc := 192) (n := -1000004) rfl kc_X7_110 dX7_shadeOf_192 ?_
        exact Go_ireturn (pc := 194) dX7_shadeOf_194 rfl (by unfold shadeF; (repeat (first | rw [if_pos (by omega)] | rw [if_neg (by omega)])); first | done | rfl | rw [c15]) rfl
      · refine Go_aload_n (pc := 184) dX7_shadeOf_184 rfl (by decide) rfl ?_
        refine Go_iload_n (pc := 185) dX7_shadeOf_185 rfl rfl ?_
        refine Go_invV (pc := 186) (y := yX7_placeMark) (avs := [.inl a]) (k := 0) (rest := []) (x := .inl (markF (M 2) a))  (d' := d - 1) dX7_shadeOf_186 ln_X7_111 mo_X7_placeMark vo_X7_placeMark rfl (rc_0) rfl rfl (Nat.le_of_ble_eq_true rfl) (by omega) (Nat.le_of_ble_eq_true rfl) rfl (s_X7_placeMark (by omega) hW (by first | omega | (simp only [Nat.reduceAdd]; omega)) (by first | omega | (simp only [Nat.reduceAdd]; omega))) ?_
        refine Go_goto (pc := 189) (tgt := 194) dX7_shadeOf_189 (by decide) ?_
        exact Go_ireturn (pc := 194) dX7_shadeOf_194 rfl (by unfold shadeF; (repeat (first | rw [if_pos (by omega)] | rw [if_neg (by omega)])); first | done | rfl | rw [c15]) rfl
    · refine Go_tsOut (pc := 15) (tgt := 195) dX7_shadeOf_15 (by omega) c15 (by decide) ?_
      refine Go_ldc (pc := 195) (n := -1000001) rfl kc_X7_94 dX7_shadeOf_195 ?_
      exact Go_ireturn (pc := 197) dX7_shadeOf_197 rfl (by unfold shadeF; (repeat (first | rw [if_pos (by omega)] | rw [if_neg (by omega)])); first | done | rfl | rw [c15]) rfl
  · refine Go_ldc (pc := 11) (n := -1000001) rfl kc_X7_94 dX7_shadeOf_11 ?_
    exact Go_ireturn (pc := 13) dX7_shadeOf_13 rfl (by unfold shadeF; (repeat (first | rw [if_pos (by omega)] | rw [if_neg (by omega)])); first | done | rfl | rw [c15]) rfl
theorem s_X8_shadeOf {d : Nat} (hd : 4 ≤ d) {a c : Int} {M : gMem} (hW : Wf (M 17)) (ha : inR a) (hc : inR c) : Go d RX8 cX8_shadeOf 3 (some .int) 0 [some (.inr 16), some (.inl a), some (.inl c)] [] M (some (.inl (shadeF (M 17) a c))) M := by
  have hn := hW.n
  have hr := hW.hr
  have ht := hW.ht a
  refine Go_aload_n (pc := 0) dX8_shadeOf_0 rfl (by decide) rfl ?_
  refine Go_iload_n (pc := 1) dX8_shadeOf_1 rfl rfl ?_
  refine Go_invV (pc := 2) (y := yX8_isShade) (avs := [.inl a]) (k := 16) (rest := []) (x := .inl (b2i (0 ≤ a ∧ a < M 17 0)))  (d' := d - 1) dX8_shadeOf_2 ln_X8_90 mo_X8_isShade vo_X8_isShade rfl (rc_16) rfl rfl (Nat.le_of_ble_eq_true rfl) (by omega) (Nat.le_of_ble_eq_true rfl) rfl (s_X8_isShade (by omega) (by omega) hW) ?_
  refine Go_ifeqB (pc := 5) (tgt := 18) dX8_shadeOf_5 (by decide) (fun c5 => ?_) (fun c5 => ?_)
  · refine Go_ldc (pc := 18) (n := -1000001) rfl kc_X8_42 dX8_shadeOf_18 ?_
    exact Go_ireturn (pc := 20) dX8_shadeOf_20 rfl (by unfold shadeF markF; (repeat (first | rw [if_pos (by omega)] | rw [if_neg (by omega)])); first | done | rfl | (rw [c22]; rfl)) rfl
  · refine Go_iload_n (pc := 8) dX8_shadeOf_8 rfl rfl ?_
    refine Go_iconst (pc := 9) dX8_shadeOf_9 ?_
    refine Go_bipush (pc := 10) dX8_shadeOf_10 (by decide) (by decide) ?_
    refine Go_invS (pc := 12) (y := yX8_in) (avs := [.inl c, .inl 0, .inl 9]) (rest := []) (x := .inl (b2i (0 ≤ c ∧ c ≤ 9)))  (d' := d - 1) dX8_shadeOf_12 ln_X8_38 mo_X8_in so_X8_in rfl rfl rfl (Nat.le_of_ble_eq_true rfl) (by omega) (Nat.le_of_ble_eq_true rfl) rfl (s_X8_in (by omega) (by omega) (by decide) (by decide)) ?_
    refine Go_ifneB (pc := 15) (tgt := 21) dX8_shadeOf_15 (by decide) (fun c15 => ?_) (fun c15 => ?_)
    · refine Go_iload_n (pc := 21) dX8_shadeOf_21 rfl rfl ?_
      rcases (by omega : c = 4 ∨ c = 5 ∨ c = 6 ∨ c = 7 ∨ c = 8 ∨ c = 9 ∨ (c < 4 ∨ 9 < c)) with c22 | c22 | c22 | c22 | c22 | c22 | c22
      · refine Go_tsIn (pc := 22) (tgt := 60) dX8_shadeOf_22 (by omega) (by omega) (by omega) (by rw [c22]; rfl) (by decide) ?_
        refine Go_aload_n (pc := 60) dX8_shadeOf_60 rfl (by decide) rfl ?_
        refine Go_iload_n (pc := 61) dX8_shadeOf_61 rfl rfl ?_
        refine Go_invV (pc := 62) (y := yX8_groupOf) (avs := [.inl a]) (k := 16) (rest := []) (x := .inl (gm (begG (M 17) a) (endG (M 17) a)))  (d' := d - 1) dX8_shadeOf_62 ln_X8_120 mo_X8_groupOf vo_X8_groupOf rfl (rc_16) rfl rfl (Nat.le_of_ble_eq_true rfl) (by omega) (Nat.le_of_ble_eq_true rfl) rfl (s_X8_groupOf (by omega) hW (by first | omega | (simp only [Nat.reduceAdd]; omega)) (by first | omega | (simp only [Nat.reduceAdd]; omega))) ?_
        exact Go_ireturn (pc := 65) dX8_shadeOf_65 rfl (by unfold shadeF markF; (repeat (first | rw [if_pos (by omega)] | rw [if_neg (by omega)])); first | done | rfl | (rw [c22]; rfl)) rfl
      · refine Go_tsIn (pc := 22) (tgt := 66) dX8_shadeOf_22 (by omega) (by omega) (by omega) (by rw [c22]; rfl) (by decide) ?_
        refine Go_aload_n (pc := 66) dX8_shadeOf_66 rfl (by decide) rfl ?_
        refine Go_iload_n (pc := 67) dX8_shadeOf_67 rfl rfl ?_
        refine Go_aload_n (pc := 68) dX8_shadeOf_68 rfl (by decide) rfl ?_
        refine Go_getr (pc := 69) (r := 17) dX8_shadeOf_69 fo_X8_7 (by decide) rfl rfl (by decide) ?_
        refine Go_iconst (pc := 72) dX8_shadeOf_72 ?_
        refine Go_iaload (pc := 73) (z := M 17 2) dX8_shadeOf_73 (by decide) rfl (by decide) (by decide) (rfl) ?_
        refine Go_aload_n (pc := 74) dX8_shadeOf_74 rfl (by decide) rfl ?_
        refine Go_iload_n (pc := 75) dX8_shadeOf_75 rfl rfl ?_
        refine Go_iconst (pc := 76) dX8_shadeOf_76 ?_
        refine Go_invV (pc := 77) (y := yX8_sh) (avs := [.inl a, .inl 0]) (k := 16) (rest := [.inl (M 17 2), .inl a, .inr 16]) (x := .inl (sc (M 17) a 0))  (d' := d - 1) dX8_shadeOf_77 ln_X8_59 mo_X8_sh vo_X8_sh rfl (rc_16) rfl rfl (Nat.le_of_ble_eq_true rfl) (by omega) (Nat.le_of_ble_eq_true rfl) rfl (s_X8_sh (by omega) (by first | omega | (simp only [Nat.reduceAdd]; omega)) (by first | omega | (simp only [Nat.reduceAdd]; omega)) (by decide) (by decide)) ?_
        refine Go_invV (pc := 80) (y := yX8_light) (avs := [.inl a, .inl (M 17 2), .inl (sc (M 17) a 0)]) (k := 16) (rest := []) (x := .inl (lightF (sc (M 17) a 1) (M 17 2) (sc (M 17) a 0)))  (d' := d - 1) dX8_shadeOf_80 ln_X8_106 mo_X8_light vo_X8_light rfl (rc_16) rfl rfl (Nat.le_of_ble_eq_true rfl) (by omega) (Nat.le_of_ble_eq_true rfl) rfl (s_X8_light (by omega) hW (by first | omega | (simp only [Nat.reduceAdd]; omega)) (by first | omega | (simp only [Nat.reduceAdd]; omega)) (by omega) (by omega)) ?_
        exact Go_ireturn (pc := 83) dX8_shadeOf_83 rfl (by unfold shadeF markF; (repeat (first | rw [if_pos (by omega)] | rw [if_neg (by omega)])); first | done | rfl | (rw [c22]; rfl)) rfl
      · refine Go_tsIn (pc := 22) (tgt := 84) dX8_shadeOf_22 (by omega) (by omega) (by omega) (by rw [c22]; rfl) (by decide) ?_
        refine Go_aload_n (pc := 84) dX8_shadeOf_84 rfl (by decide) rfl ?_
        refine Go_iload_n (pc := 85) dX8_shadeOf_85 rfl rfl ?_
        refine Go_iload_n (pc := 86) dX8_shadeOf_86 rfl rfl ?_
        refine Go_iconst (pc := 87) dX8_shadeOf_87 ?_
        refine Go_isub (pc := 88) dX8_shadeOf_88 ?_
        refine Go_invV (pc := 89) (y := yX8_sh) (avs := [.inl a, .inl (c - 2)]) (k := 16) (rest := []) (x := .inl (sc (M 17) a (c - 2)))  (d' := d - 1) dX8_shadeOf_89 ln_X8_59 mo_X8_sh vo_X8_sh rfl (rc_16) rfl rfl (Nat.le_of_ble_eq_true rfl) (by omega) (Nat.le_of_ble_eq_true rfl) rfl (s_X8_sh (by omega) (by first | omega | (simp only [Nat.reduceAdd]; omega)) (by first | omega | (simp only [Nat.reduceAdd]; omega)) (by first | omega | (simp only [Nat.reduceAdd]; omega)) (by first | omega | (simp only [Nat.reduceAdd]; omega))) ?_
        exact Go_ireturn (pc := 92) dX8_shadeOf_92 rfl (by unfold shadeF markF; (repeat (first | rw [if_pos (by omega)] | rw [if_neg (by omega)])); first | done | rfl | (rw [c22]; rfl)) rfl
      · refine Go_tsIn (pc := 22) (tgt := 84) dX8_shadeOf_22 (by omega) (by omega) (by omega) (by rw [c22]; rfl) (by decide) ?_
        refine Go_aload_n (pc := 84) dX8_shadeOf_84 rfl (by decide) rfl ?_
        refine Go_iload_n (pc := 85) dX8_shadeOf_85 rfl rfl ?_
        refine Go_iload_n (pc := 86) dX8_shadeOf_86 rfl rfl ?_
        refine Go_iconst (pc := 87) dX8_shadeOf_87 ?_
        refine Go_isub (pc := 88) dX8_shadeOf_88 ?_
        refine Go_invV (pc := 89) (y := yX8_sh) (avs := [.inl a, .inl (c - 2)]) (k := 16) (rest := []) (x := .inl (sc (M 17) a (c - 2)))  (d' := d - 1) dX8_shadeOf_89 ln_X8_59 mo_X8_sh vo_X8_sh rfl (rc_16) rfl rfl (Nat.le_of_ble_eq_true rfl) (by omega) (Nat.le_of_ble_eq_true rfl) rfl (s_X8_sh (by omega) (by first | omega | (simp only [Nat.reduceAdd]; omega)) (by first | omega | (simp only [Nat.reduceAdd]; omega)) (by first | omega | (simp only [Nat.reduceAdd]; omega)) (by first | omega | (simp only [Nat.reduceAdd]; omega))) ?_
        exact Go_ireturn (pc := 92) dX8_shadeOf_92 rfl (by unfold shadeF markF; (repeat (first | rw [if_pos (by omega)] | rw [if_neg (by omega)])); first | done | rfl | (rw [c22]; rfl)) rfl
      · refine Go_tsIn (pc := 22) (tgt := 93) dX8_shadeOf_22 (by omega) (by omega) (by omega) (by rw [c22]; rfl) (by decide) ?_
        refine Go_aload_n (pc := 93) dX8_shadeOf_93 rfl (by decide) rfl ?_
        refine Go_iload_n (pc := 94) dX8_shadeOf_94 rfl rfl ?_
        refine Go_invV (pc := 95) (y := yX8_isTold) (avs := [.inl a]) (k := 16) (rest := []) (x := .inl (b2i (0 ≤ sc (M 17) a 6)))  (d' := d - 1) dX8_shadeOf_95 ln_X8_100 mo_X8_isTold vo_X8_isTold rfl (rc_16) rfl rfl (Nat.le_of_ble_eq_true rfl) (by omega) (Nat.le_of_ble_eq_true rfl) rfl (s_X8_isTold (by omega) hW (by first | omega | (simp only [Nat.reduceAdd]; omega)) (by first | omega | (simp only [Nat.reduceAdd]; omega))) ?_
        refine Go_ifeqB (pc := 98) (tgt := 111) dX8_shadeOf_98 (by decide) (fun c98 => ?_) (fun c98 => ?_)
        · refine Go_ldc (pc := 111) (n := -1000004) rfl kc_X8_123 dX8_shadeOf_111 ?_
          exact Go_ireturn (pc := 113) dX8_shadeOf_113 rfl (by unfold shadeF markF; (repeat (first | rw [if_pos (by omega)] | rw [if_neg (by omega)])); first | done | rfl | (rw [c22]; rfl)) rfl
        · refine Go_aload_n (pc := 101) dX8_shadeOf_101 rfl (by decide) rfl ?_
          refine Go_iload_n (pc := 102) dX8_shadeOf_102 rfl rfl ?_
          refine Go_bipush (pc := 103) dX8_shadeOf_103 (by decide) (by decide) ?_
          refine Go_invV (pc := 105) (y := yX8_sh) (avs := [.inl a, .inl 6]) (k := 16) (rest := []) (x := .inl (sc (M 17) a 6))  (d' := d - 1) dX8_shadeOf_105 ln_X8_59 mo_X8_sh vo_X8_sh rfl (rc_16) rfl rfl (Nat.le_of_ble_eq_true rfl) (by omega) (Nat.le_of_ble_eq_true rfl) rfl (s_X8_sh (by omega) (by first | omega | (simp only [Nat.reduceAdd]; omega)) (by first | omega | (simp only [Nat.reduceAdd]; omega)) (by decide) (by decide)) ?_
          refine Go_goto (pc := 108) (tgt := 113) dX8_shadeOf_108 (by decide) ?_
          exact Go_ireturn (pc := 113) dX8_shadeOf_113 rfl (by unfold shadeF markF; (repeat (first | rw [if_pos (by omega)] | rw [if_neg (by omega)])); first | done | rfl | (rw [c22]; rfl)) rfl
      · refine Go_tsIn (pc := 22) (tgt := 114) dX8_shadeOf_22 (by omega) (by omega) (by omega) (by rw [c22]; rfl) (by decide) ?_
        refine Go_aload_n (pc := 114) dX8_shadeOf_114 rfl (by decide) rfl ?_
        refine Go_iload_n (pc := 115) dX8_shadeOf_115 rfl rfl ?_
        refine Go_invV (pc := 116) (y := yX8_isTold) (avs := [.inl a]) (k := 16) (rest := []) (x := .inl (b2i (0 ≤ sc (M 17) a 6)))  (d' := d - 1) dX8_shadeOf_116 ln_X8_100 mo_X8_isTold vo_X8_isTold rfl (rc_16) rfl rfl (Nat.le_of_ble_eq_true rfl) (by omega) (Nat.le_of_ble_eq_true rfl) rfl (s_X8_isTold (by omega) hW (by first | omega | (simp only [Nat.reduceAdd]; omega)) (by first | omega | (simp only [Nat.reduceAdd]; omega))) ?_
        refine Go_ifneB (pc := 119) (tgt := 127) dX8_shadeOf_119 (by decide) (fun c119 => ?_) (fun c119 => ?_)
        · refine Go_aload_n (pc := 127) dX8_shadeOf_127 rfl (by decide) rfl ?_
          refine Go_iload_n (pc := 128) dX8_shadeOf_128 rfl rfl ?_
          refine Go_invV (pc := 129) (y := yX8_stands) (avs := [.inl a]) (k := 16) (rest := []) (x := .inl (b2i (sc (M 17) a 0 = sc (M 17) a 6)))  (d' := d - 1) dX8_shadeOf_129 ln_X8_87 mo_X8_stands vo_X8_stands rfl (rc_16) rfl rfl (Nat.le_of_ble_eq_true rfl) (by omega) (Nat.le_of_ble_eq_true rfl) rfl (s_X8_stands (by omega) hW (by first | omega | (simp only [Nat.reduceAdd]; omega)) (by first | omega | (simp only [Nat.reduceAdd]; omega))) ?_
          refine Go_ifeqB (pc := 132) (tgt := 139) dX8_shadeOf_132 (by decide) (fun c132 => ?_) (fun c132 => ?_)
          · refine Go_aload_n (pc := 139) dX8_shadeOf_139 rfl (by decide) rfl ?_
            refine Go_iload_n (pc := 140) dX8_shadeOf_140 rfl rfl ?_
            refine Go_invV (pc := 141) (y := yX8_isTangled) (avs := [.inl a]) (k := 16) (rest := []) (x := .inl (b2i (0 < sc (M 17) (a - 1) 3 ∨ 0 < sc (M 17) a 3)))  (d' := d - 1) dX8_shadeOf_141 ln_X8_124 mo_X8_isTangled vo_X8_isTangled rfl (rc_16) rfl rfl (Nat.le_of_ble_eq_true rfl) (by omega) (Nat.le_of_ble_eq_true rfl) rfl (s_X8_isTangled (by omega) hW (by first | omega | (simp only [Nat.reduceAdd]; omega)) (by first | omega | (simp only [Nat.reduceAdd]; omega))) ?_
            refine Go_ifeqB (pc := 144) (tgt := 151) dX8_shadeOf_144 (by decide) (fun c144 => ?_) (fun c144 => ?_)
            · refine Go_iconst (pc := 151) dX8_shadeOf_151 ?_
              exact Go_ireturn (pc := 152) dX8_shadeOf_152 rfl (by unfold shadeF markF; (repeat (first | rw [if_pos (by omega)] | rw [if_neg (by omega)])); first | done | rfl | (rw [c22]; rfl)) rfl
            · refine Go_iconst (pc := 147) dX8_shadeOf_147 ?_
              refine Go_goto (pc := 148) (tgt := 152) dX8_shadeOf_148 (by decide) ?_
              exact Go_ireturn (pc := 152) dX8_shadeOf_152 rfl (by unfold shadeF markF; (repeat (first | rw [if_pos (by omega)] | rw [if_neg (by omega)])); first | done | rfl | (rw [c22]; rfl)) rfl
          · refine Go_iconst (pc := 135) dX8_shadeOf_135 ?_
            refine Go_goto (pc := 136) (tgt := 152) dX8_shadeOf_136 (by decide) ?_
            exact Go_ireturn (pc := 152) dX8_shadeOf_152 rfl (by unfold shadeF markF; (repeat (first | rw [if_pos (by omega)] | rw [if_neg (by omega)])); first | done | rfl | (rw [c22]; rfl)) rfl
        · refine Go_ldc (pc := 122) (n := -1000004) rfl kc_X8_123 dX8_shadeOf_122 ?_
          refine Go_goto (pc := 124) (tgt := 152) dX8_shadeOf_124 (by decide) ?_
          exact Go_ireturn (pc := 152) dX8_shadeOf_152 rfl (by unfold shadeF markF; (repeat (first | rw [if_pos (by omega)] | rw [if_neg (by omega)])); first | done | rfl | (rw [c22]; rfl)) rfl
      · refine Go_tsOut (pc := 22) (tgt := 153) dX8_shadeOf_22 (by omega) c22 (by decide) ?_
        refine Go_aload_n (pc := 153) dX8_shadeOf_153 rfl (by decide) rfl ?_
        refine Go_iload_n (pc := 154) dX8_shadeOf_154 rfl rfl ?_
        refine Go_iload_n (pc := 155) dX8_shadeOf_155 rfl rfl ?_
        refine Go_invV (pc := 156) (y := yX8_sh) (avs := [.inl a, .inl c]) (k := 16) (rest := []) (x := .inl (sc (M 17) a c))  (d' := d - 1) dX8_shadeOf_156 ln_X8_59 mo_X8_sh vo_X8_sh rfl (rc_16) rfl rfl (Nat.le_of_ble_eq_true rfl) (by omega) (Nat.le_of_ble_eq_true rfl) rfl (s_X8_sh (by omega) (by first | omega | (simp only [Nat.reduceAdd]; omega)) (by first | omega | (simp only [Nat.reduceAdd]; omega)) (by first | omega | (simp only [Nat.reduceAdd]; omega)) (by first | omega | (simp only [Nat.reduceAdd]; omega))) ?_
        exact Go_ireturn (pc := 159) dX8_shadeOf_159 rfl (by unfold shadeF markF; (repeat (first | rw [if_pos (by omega)] | rw [if_neg (by omega)])); first | done | rfl | (rw [c22]; rfl)) rfl
    · refine Go_ldc (pc := 18) (n := -1000001) rfl kc_X8_42 dX8_shadeOf_18 ?_
      exact Go_ireturn (pc := 20) dX8_shadeOf_20 rfl (by unfold shadeF markF; (repeat (first | rw [if_pos (by omega)] | rw [if_neg (by omega)])); first | done | rfl | (rw [c22]; rfl)) rfl
def stringF (f : Int → Int) (a c : Int) : Int := if ¬ (0 ≤ a ∧ a < f 1) ∨ c < 0 ∨ 3 < c then -1000001 else if c = 2 then tc f a 2 + 100000 else tc f a c
theorem s_X7_stringOf {d : Nat} (hd : 4 ≤ d) {a c : Int} {M : gMem} (hW : Wf (M 2)) (ha : inR a) (hc : inR c) : Go d RX7 cX7_stringOf 3 (some .int) 0 [some (.inr 0), some (.inl a), some (.inl c)] [] M (some (.inl (stringF (M 2) a c))) M := by
  have hn := hW.t
  refine Go_aload_n (pc := 0) dX7_stringOf_0 rfl (by decide) rfl ?_
  refine Go_getr (pc := 1) (r := 1) dX7_stringOf_1 fo_X7_10 (by decide) rfl rfl (by decide) ?_
  refine Go_iload_n (pc := 4) dX7_stringOf_4 rfl rfl ?_
  refine Go_invV (pc := 5) (y := yX1_hasString) (avs := [.inl a]) (k := 1) (rest := []) (x := .inl (b2i (0 ≤ a ∧ a < M 2 1)))  (d' := d - 1) dX7_stringOf_5 ln_X7_114 mo_X1_hasString vo_X1_hasString rfl (rc_1) rfl rfl (Nat.le_of_ble_eq_true rfl) (by omega) (Nat.le_of_ble_eq_true rfl) rfl (s_X1_hasString (by omega) (by decide) (by omega) hW) ?_
  refine Go_ifneB (pc := 8) (tgt := 14) dX7_stringOf_8 (by decide) (fun c8 => ?_) (fun c8 => ?_)
  · refine Go_iload_n (pc := 14) dX7_stringOf_14 rfl rfl ?_
    rcases (by omega : c = 0 ∨ c = 1 ∨ c = 2 ∨ c = 3 ∨ (c < 0 ∨ 3 < c)) with c15 | c15 | c15 | c15 | c15
    · refine Go_tsIn (pc := 15) (tgt := 44) dX7_stringOf_15 (by omega) (by omega) (by omega) (by rw [c15]; rfl) (by decide) ?_
      refine Go_aload_n (pc := 44) dX7_stringOf_44 rfl (by decide) rfl ?_
      refine Go_getr (pc := 45) (r := 1) dX7_stringOf_45 fo_X7_10 (by decide) rfl rfl (by decide) ?_
      refine Go_iload_n (pc := 48) dX7_stringOf_48 rfl rfl ?_
      refine Go_iconst (pc := 49) dX7_stringOf_49 ?_
      refine Go_invV (pc := 50) (y := yX1_ofString) (avs := [.inl a, .inl 0]) (k := 1) (rest := []) (x := .inl (tc (M 2) a 0))  (d' := d - 1) dX7_stringOf_50 ln_X7_117 mo_X1_ofString vo_X1_ofString rfl (rc_1) rfl rfl (Nat.le_of_ble_eq_true rfl) (by omega) (Nat.le_of_ble_eq_true rfl) rfl (s_X1_ofString (by omega) (by decide) (by omega) (by decide) (by decide)) ?_
      exact Go_ireturn (pc := 53) dX7_stringOf_53 rfl (by unfold stringF; (repeat (first | rw [if_pos (by omega)] | rw [if_neg (by omega)])); first | done | rfl | rw [c15]) rfl
    · refine Go_tsIn (pc := 15) (tgt := 54) dX7_stringOf_15 (by omega) (by omega) (by omega) (by rw [c15]; rfl) (by decide) ?_
      refine Go_aload_n (pc := 54) dX7_stringOf_54 rfl (by decide) rfl ?_
      refine Go_getr (pc := 55) (r := 1) dX7_stringOf_55 fo_X7_10 (by decide) rfl rfl (by decide) ?_
      refine Go_iload_n (pc := 58) dX7_stringOf_58 rfl rfl ?_
      refine Go_iconst (pc := 59) dX7_stringOf_59 ?_
      refine Go_invV (pc := 60) (y := yX1_ofString) (avs := [.inl a, .inl 1]) (k := 1) (rest := []) (x := .inl (tc (M 2) a 1))  (d' := d - 1) dX7_stringOf_60 ln_X7_117 mo_X1_ofString vo_X1_ofString rfl (rc_1) rfl rfl (Nat.le_of_ble_eq_true rfl) (by omega) (Nat.le_of_ble_eq_true rfl) rfl (s_X1_ofString (by omega) (by decide) (by omega) (by decide) (by decide)) ?_
      exact Go_ireturn (pc := 63) dX7_stringOf_63 rfl (by unfold stringF; (repeat (first | rw [if_pos (by omega)] | rw [if_neg (by omega)])); first | done | rfl | rw [c15]) rfl
    · refine Go_tsIn (pc := 15) (tgt := 64) dX7_stringOf_15 (by omega) (by omega) (by omega) (by rw [c15]; rfl) (by decide) ?_
      refine Go_aload_n (pc := 64) dX7_stringOf_64 rfl (by decide) rfl ?_
      refine Go_getr (pc := 65) (r := 1) dX7_stringOf_65 fo_X7_10 (by decide) rfl rfl (by decide) ?_
      refine Go_iload_n (pc := 68) dX7_stringOf_68 rfl rfl ?_
      refine Go_iconst (pc := 69) dX7_stringOf_69 ?_
      refine Go_invV (pc := 70) (y := yX1_ofString) (avs := [.inl a, .inl 2]) (k := 1) (rest := []) (x := .inl (tc (M 2) a 2))  (d' := d - 1) dX7_stringOf_70 ln_X7_117 mo_X1_ofString vo_X1_ofString rfl (rc_1) rfl rfl (Nat.le_of_ble_eq_true rfl) (by omega) (Nat.le_of_ble_eq_true rfl) rfl (s_X1_ofString (by omega) (by decide) (by omega) (by decide) (by decide)) ?_
      refine Go_ldc (pc := 73) (n := 100000) rfl kc_X7_120 dX7_stringOf_73 ?_
      refine Go_iadd (pc := 75) dX7_stringOf_75 ?_
      exact Go_ireturn (pc := 76) dX7_stringOf_76 rfl (by unfold stringF; (repeat (first | rw [if_pos (by omega)] | rw [if_neg (by omega)])); first | done | rfl | rw [c15]) rfl
    · refine Go_tsIn (pc := 15) (tgt := 77) dX7_stringOf_15 (by omega) (by omega) (by omega) (by rw [c15]; rfl) (by decide) ?_
      refine Go_aload_n (pc := 77) dX7_stringOf_77 rfl (by decide) rfl ?_
      refine Go_getr (pc := 78) (r := 1) dX7_stringOf_78 fo_X7_10 (by decide) rfl rfl (by decide) ?_
      refine Go_iload_n (pc := 81) dX7_stringOf_81 rfl rfl ?_
      refine Go_iconst (pc := 82) dX7_stringOf_82 ?_
      refine Go_invV (pc := 83) (y := yX1_ofString) (avs := [.inl a, .inl 3]) (k := 1) (rest := []) (x := .inl (tc (M 2) a 3))  (d' := d - 1) dX7_stringOf_83 ln_X7_117 mo_X1_ofString vo_X1_ofString rfl (rc_1) rfl rfl (Nat.le_of_ble_eq_true rfl) (by omega) (Nat.le_of_ble_eq_true rfl) rfl (s_X1_ofString (by omega) (by decide) (by omega) (by decide) (by decide)) ?_
      exact Go_ireturn (pc := 86) dX7_stringOf_86 rfl (by unfold stringF; (repeat (first | rw [if_pos (by omega)] | rw [if_neg (by omega)])); first | done | rfl | rw [c15]) rfl
    · refine Go_tsOut (pc := 15) (tgt := 87) dX7_stringOf_15 (by omega) c15 (by decide) ?_
      refine Go_ldc (pc := 87) (n := -1000001) rfl kc_X7_94 dX7_stringOf_87 ?_
      exact Go_ireturn (pc := 89) dX7_stringOf_89 rfl (by unfold stringF; (repeat (first | rw [if_pos (by omega)] | rw [if_neg (by omega)])); first | done | rfl | rw [c15]) rfl
  · refine Go_ldc (pc := 11) (n := -1000001) rfl kc_X7_94 dX7_stringOf_11 ?_
    exact Go_ireturn (pc := 13) dX7_stringOf_13 rfl (by unfold stringF; (repeat (first | rw [if_pos (by omega)] | rw [if_neg (by omega)])); first | done | rfl | rw [c15]) rfl
theorem s_X8_stringOf {d : Nat} (hd : 4 ≤ d) {a c : Int} {M : gMem} (hW : Wf (M 17)) (ha : inR a) (hc : inR c) : Go d RX8 cX8_stringOf 3 (some .int) 0 [some (.inr 16), some (.inl a), some (.inl c)] [] M (some (.inl (stringF (M 17) a c))) M := by
  have hn := hW.t
  refine Go_aload_n (pc := 0) dX8_stringOf_0 rfl (by decide) rfl ?_
  refine Go_iload_n (pc := 1) dX8_stringOf_1 rfl rfl ?_
  refine Go_invV (pc := 2) (y := yX8_isString) (avs := [.inl a]) (k := 16) (rest := []) (x := .inl (b2i (0 ≤ a ∧ a < M 17 1)))  (d' := d - 1) dX8_stringOf_2 ln_X8_73 mo_X8_isString vo_X8_isString rfl (rc_16) rfl rfl (Nat.le_of_ble_eq_true rfl) (by omega) (Nat.le_of_ble_eq_true rfl) rfl (s_X8_isString (by omega) (by omega) hW) ?_
  refine Go_ifeqB (pc := 5) (tgt := 17) dX8_stringOf_5 (by decide) (fun c5 => ?_) (fun c5 => ?_)
  · refine Go_ldc (pc := 17) (n := -1000001) rfl kc_X8_42 dX8_stringOf_17 ?_
    exact Go_ireturn (pc := 19) dX8_stringOf_19 rfl (by unfold stringF; (repeat (first | rw [if_pos (by omega)] | rw [if_neg (by omega)])); first | done | rfl | rw [Int.add_zero] | (rw [show c = 2 by omega])) rfl
  · refine Go_iload_n (pc := 8) dX8_stringOf_8 rfl rfl ?_
    refine Go_iconst (pc := 9) dX8_stringOf_9 ?_
    refine Go_iconst (pc := 10) dX8_stringOf_10 ?_
    refine Go_invS (pc := 11) (y := yX8_in) (avs := [.inl c, .inl 0, .inl 3]) (rest := []) (x := .inl (b2i (0 ≤ c ∧ c ≤ 3)))  (d' := d - 1) dX8_stringOf_11 ln_X8_38 mo_X8_in so_X8_in rfl rfl rfl (Nat.le_of_ble_eq_true rfl) (by omega) (Nat.le_of_ble_eq_true rfl) rfl (s_X8_in (by omega) (by omega) (by decide) (by decide)) ?_
    refine Go_ifneB (pc := 14) (tgt := 20) dX8_stringOf_14 (by decide) (fun c14 => ?_) (fun c14 => ?_)
    · refine Go_aload_n (pc := 20) dX8_stringOf_20 rfl (by decide) rfl ?_
      refine Go_iload_n (pc := 21) dX8_stringOf_21 rfl rfl ?_
      refine Go_iload_n (pc := 22) dX8_stringOf_22 rfl rfl ?_
      refine Go_invV (pc := 23) (y := yX8_st) (avs := [.inl a, .inl c]) (k := 16) (rest := []) (x := .inl (tc (M 17) a c))  (d' := d - 1) dX8_stringOf_23 ln_X8_63 mo_X8_st vo_X8_st rfl (rc_16) rfl rfl (Nat.le_of_ble_eq_true rfl) (by omega) (Nat.le_of_ble_eq_true rfl) rfl (s_X8_st (by omega) (by first | omega | (simp only [Nat.reduceAdd]; omega)) (by first | omega | (simp only [Nat.reduceAdd]; omega)) (by first | omega | (simp only [Nat.reduceAdd]; omega)) (by first | omega | (simp only [Nat.reduceAdd]; omega))) ?_
      refine Go_iload_n (pc := 26) dX8_stringOf_26 rfl rfl ?_
      refine Go_iconst (pc := 27) dX8_stringOf_27 ?_
      refine Go_icmp_ne (pc := 28) (tgt := 36) dX8_stringOf_28 (by decide) (by omega) (by decide) (fun c28 => ?_) (fun c28 => ?_)
      · refine Go_iconst (pc := 36) dX8_stringOf_36 ?_
        refine Go_iadd (pc := 37) dX8_stringOf_37 ?_
        exact Go_ireturn (pc := 38) dX8_stringOf_38 rfl (by unfold stringF; (repeat (first | rw [if_pos (by omega)] | rw [if_neg (by omega)])); first | done | rfl | rw [Int.add_zero] | (rw [show c = 2 by omega])) rfl
      · refine Go_ldc (pc := 31) (n := 100000) rfl kc_X8_127 dX8_stringOf_31 ?_
        refine Go_goto (pc := 33) (tgt := 37) dX8_stringOf_33 (by decide) ?_
        refine Go_iadd (pc := 37) dX8_stringOf_37 ?_
        exact Go_ireturn (pc := 38) dX8_stringOf_38 rfl (by unfold stringF; (repeat (first | rw [if_pos (by omega)] | rw [if_neg (by omega)])); first | done | rfl | rw [Int.add_zero] | (rw [show c = 2 by omega])) rfl
    · refine Go_ldc (pc := 17) (n := -1000001) rfl kc_X8_42 dX8_stringOf_17 ?_
      exact Go_ireturn (pc := 19) dX8_stringOf_19 rfl (by unfold stringF; (repeat (first | rw [if_pos (by omega)] | rw [if_neg (by omega)])); first | done | rfl | rw [Int.add_zero] | (rw [show c = 2 by omega])) rfl
def countF (f : Int → Int) (n t c : Int) : Int :=
  if c = 0 then f 0 else if c = 1 then f 1 else if c = 2 then knotsF f else if c = 3 then depthsF f else if c = 4 then f 0 - knotsF f else if c = 5 then f 2 else if c = 6 then f 3 else if c = 7 then toldF f else if c = 8 then standF f else if c = 9 then astrayF f
  else if c = 10 then f 4 else if c = 11 then n else if c = 12 then t else if c = 20 then f 5 else if c = 21 then f 6 else -1000001
theorem s_X7_count {d : Nat} (hd : 6 ≤ d) {c : Int} {M : gMem} (hW : Wf (M 2)) (hc : inR c) : Go d RX7 cX7_count 2 (some .int) 0 [some (.inr 0), some (.inl c)] [] M (some (.inl (countF (M 2) (M 5 1) (M 7 1) c))) M := by
  have hn := hW.n
  refine Go_iload_n (pc := 0) dX7_count_0 rfl rfl ?_
  rcases (by omega : c = 0 ∨ c = 1 ∨ c = 2 ∨ c = 3 ∨ c = 4 ∨ c = 5 ∨ c = 6 ∨ c = 7 ∨ c = 8 ∨ c = 9 ∨ c = 10 ∨ c = 11 ∨ c = 12 ∨ c = 13 ∨ c = 14 ∨ c = 15 ∨ c = 16 ∨ c = 17 ∨ c = 18 ∨ c = 19 ∨ c = 20 ∨ c = 21 ∨ (c < 0 ∨ 21 < c)) with c1 | c1 | c1 | c1 | c1 | c1 | c1 | c1 | c1 | c1 | c1 | c1 | c1 | c1 | c1 | c1 | c1 | c1 | c1 | c1 | c1 | c1 | c1
  · refine Go_tsIn (pc := 1) (tgt := 104) dX7_count_1 (by omega) (by omega) (by omega) (by rw [c1]; rfl) (by decide) ?_
    refine Go_aload_n (pc := 104) dX7_count_104 rfl (by decide) rfl ?_
    refine Go_getr (pc := 105) (r := 1) dX7_count_105 fo_X7_10 (by decide) rfl rfl (by decide) ?_
    refine Go_invV (pc := 108) (y := yX1_shades) (avs := []) (k := 1) (rest := []) (x := .inl (M 2 0))  (d' := d - 1) dX7_count_108 ln_X7_121 mo_X1_shades vo_X1_shades rfl (rc_1) rfl rfl (Nat.le_of_ble_eq_true rfl) (by omega) (Nat.le_of_ble_eq_true rfl) rfl (s_X1_shades (by omega) (by decide)) ?_
    exact Go_ireturn (pc := 111) dX7_count_111 rfl (by unfold countF; (repeat (first | rw [if_pos (by omega)] | rw [if_neg (by omega)])); try rfl) rfl
  · refine Go_tsIn (pc := 1) (tgt := 112) dX7_count_1 (by omega) (by omega) (by omega) (by rw [c1]; rfl) (by decide) ?_
    refine Go_aload_n (pc := 112) dX7_count_112 rfl (by decide) rfl ?_
    refine Go_getr (pc := 113) (r := 1) dX7_count_113 fo_X7_10 (by decide) rfl rfl (by decide) ?_
    refine Go_invV (pc := 116) (y := yX1_strings) (avs := []) (k := 1) (rest := []) (x := .inl (M 2 1))  (d' := d - 1) dX7_count_116 ln_X7_143 mo_X1_strings vo_X1_strings rfl (rc_1) rfl rfl (Nat.le_of_ble_eq_true rfl) (by omega) (Nat.le_of_ble_eq_true rfl) rfl (s_X1_strings (by omega) (by decide)) ?_
    exact Go_ireturn (pc := 119) dX7_count_119 rfl (by unfold countF; (repeat (first | rw [if_pos (by omega)] | rw [if_neg (by omega)])); try rfl) rfl
  · refine Go_tsIn (pc := 1) (tgt := 120) dX7_count_1 (by omega) (by omega) (by omega) (by rw [c1]; rfl) (by decide) ?_
    refine Go_aload_n (pc := 120) dX7_count_120 rfl (by decide) rfl ?_
    refine Go_getr (pc := 121) (r := 1) dX7_count_121 fo_X7_10 (by decide) rfl rfl (by decide) ?_
    refine Go_invV (pc := 124) (y := yX1_knots) (avs := []) (k := 1) (rest := []) (x := .inl (knotsF (M 2)))  (d' := d - 1) dX7_count_124 ln_X7_128 mo_X1_knots vo_X1_knots rfl (rc_1) rfl rfl (Nat.le_of_ble_eq_true rfl) (by omega) (Nat.le_of_ble_eq_true rfl) rfl (s_X1_knots (by omega) (by decide) hW) ?_
    exact Go_ireturn (pc := 127) dX7_count_127 rfl (by unfold countF; (repeat (first | rw [if_pos (by omega)] | rw [if_neg (by omega)])); try rfl) rfl
  · refine Go_tsIn (pc := 1) (tgt := 128) dX7_count_1 (by omega) (by omega) (by omega) (by rw [c1]; rfl) (by decide) ?_
    refine Go_aload_n (pc := 128) dX7_count_128 rfl (by decide) rfl ?_
    refine Go_getr (pc := 129) (r := 1) dX7_count_129 fo_X7_10 (by decide) rfl rfl (by decide) ?_
    refine Go_invV (pc := 132) (y := yX1_depths) (avs := []) (k := 1) (rest := []) (x := .inl (depthsF (M 2)))  (d' := d - 1) dX7_count_132 ln_X7_152 mo_X1_depths vo_X1_depths rfl (rc_1) rfl rfl (Nat.le_of_ble_eq_true rfl) (by omega) (Nat.le_of_ble_eq_true rfl) rfl (s_X1_depths (by omega) (by decide) hW) ?_
    exact Go_ireturn (pc := 135) dX7_count_135 rfl (by unfold countF; (repeat (first | rw [if_pos (by omega)] | rw [if_neg (by omega)])); try rfl) rfl
  · refine Go_tsIn (pc := 1) (tgt := 136) dX7_count_1 (by omega) (by omega) (by omega) (by rw [c1]; rfl) (by decide) ?_
    refine Go_aload_n (pc := 136) dX7_count_136 rfl (by decide) rfl ?_
    refine Go_getr (pc := 137) (r := 1) dX7_count_137 fo_X7_10 (by decide) rfl rfl (by decide) ?_
    refine Go_invV (pc := 140) (y := yX1_groups) (avs := []) (k := 1) (rest := []) (x := .inl (M 2 0 - knotsF (M 2)))  (d' := d - 1) dX7_count_140 ln_X7_155 mo_X1_groups vo_X1_groups rfl (rc_1) rfl rfl (Nat.le_of_ble_eq_true rfl) (by omega) (Nat.le_of_ble_eq_true rfl) rfl (s_X1_groups (by omega) (by decide) hW) ?_
    exact Go_ireturn (pc := 143) dX7_count_143 rfl (by unfold countF; (repeat (first | rw [if_pos (by omega)] | rw [if_neg (by omega)])); try rfl) rfl
  · refine Go_tsIn (pc := 1) (tgt := 144) dX7_count_1 (by omega) (by omega) (by omega) (by rw [c1]; rfl) (by decide) ?_
    refine Go_aload_n (pc := 144) dX7_count_144 rfl (by decide) rfl ?_
    refine Go_getr (pc := 145) (r := 1) dX7_count_145 fo_X7_10 (by decide) rfl rfl (by decide) ?_
    refine Go_iconst (pc := 148) dX7_count_148 ?_
    refine Go_invV (pc := 149) (y := yX1_number) (avs := [.inl 2]) (k := 1) (rest := []) (x := .inl (M 2 2))  (d' := d - 1) dX7_count_149 ln_X7_158 mo_X1_number vo_X1_number rfl (rc_1) rfl rfl (Nat.le_of_ble_eq_true rfl) (by omega) (Nat.le_of_ble_eq_true rfl) rfl (s_X1_number (by omega) (by decide) (by decide) (by decide)) ?_
    exact Go_ireturn (pc := 152) dX7_count_152 rfl (by unfold countF; (repeat (first | rw [if_pos (by omega)] | rw [if_neg (by omega)])); try rfl) rfl
  · refine Go_tsIn (pc := 1) (tgt := 153) dX7_count_1 (by omega) (by omega) (by omega) (by rw [c1]; rfl) (by decide) ?_
    refine Go_aload_n (pc := 153) dX7_count_153 rfl (by decide) rfl ?_
    refine Go_getr (pc := 154) (r := 1) dX7_count_154 fo_X7_10 (by decide) rfl rfl (by decide) ?_
    refine Go_iconst (pc := 157) dX7_count_157 ?_
    refine Go_invV (pc := 158) (y := yX1_number) (avs := [.inl 3]) (k := 1) (rest := []) (x := .inl (M 2 3))  (d' := d - 1) dX7_count_158 ln_X7_158 mo_X1_number vo_X1_number rfl (rc_1) rfl rfl (Nat.le_of_ble_eq_true rfl) (by omega) (Nat.le_of_ble_eq_true rfl) rfl (s_X1_number (by omega) (by decide) (by decide) (by decide)) ?_
    exact Go_ireturn (pc := 161) dX7_count_161 rfl (by unfold countF; (repeat (first | rw [if_pos (by omega)] | rw [if_neg (by omega)])); try rfl) rfl
  · refine Go_tsIn (pc := 1) (tgt := 162) dX7_count_1 (by omega) (by omega) (by omega) (by rw [c1]; rfl) (by decide) ?_
    refine Go_aload_n (pc := 162) dX7_count_162 rfl (by decide) rfl ?_
    refine Go_getr (pc := 163) (r := 1) dX7_count_163 fo_X7_10 (by decide) rfl rfl (by decide) ?_
    refine Go_invV (pc := 166) (y := yX1_told) (avs := []) (k := 1) (rest := []) (x := .inl (toldF (M 2)))  (d' := d - 1) dX7_count_166 ln_X7_146 mo_X1_told vo_X1_told rfl (rc_1) rfl rfl (Nat.le_of_ble_eq_true rfl) (by omega) (Nat.le_of_ble_eq_true rfl) rfl (s_X1_told (by omega) (by decide) hW) ?_
    exact Go_ireturn (pc := 169) dX7_count_169 rfl (by unfold countF; (repeat (first | rw [if_pos (by omega)] | rw [if_neg (by omega)])); try rfl) rfl
  · refine Go_tsIn (pc := 1) (tgt := 170) dX7_count_1 (by omega) (by omega) (by omega) (by rw [c1]; rfl) (by decide) ?_
    refine Go_aload_n (pc := 170) dX7_count_170 rfl (by decide) rfl ?_
    refine Go_getr (pc := 171) (r := 1) dX7_count_171 fo_X7_10 (by decide) rfl rfl (by decide) ?_
    refine Go_invV (pc := 174) (y := yX1_standing) (avs := []) (k := 1) (rest := []) (x := .inl (standF (M 2)))  (d' := d - 1) dX7_count_174 ln_X7_131 mo_X1_standing vo_X1_standing rfl (rc_1) rfl rfl (Nat.le_of_ble_eq_true rfl) (by omega) (Nat.le_of_ble_eq_true rfl) rfl (s_X1_standing (by omega) (by decide) hW) ?_
    exact Go_ireturn (pc := 177) dX7_count_177 rfl (by unfold countF; (repeat (first | rw [if_pos (by omega)] | rw [if_neg (by omega)])); try rfl) rfl
  · refine Go_tsIn (pc := 1) (tgt := 178) dX7_count_1 (by omega) (by omega) (by omega) (by rw [c1]; rfl) (by decide) ?_
    refine Go_aload_n (pc := 178) dX7_count_178 rfl (by decide) rfl ?_
    refine Go_getr (pc := 179) (r := 1) dX7_count_179 fo_X7_10 (by decide) rfl rfl (by decide) ?_
    refine Go_invV (pc := 182) (y := yX1_astrayAndTangled) (avs := []) (k := 1) (rest := []) (x := .inl (astrayF (M 2)))  (d' := d - 1) dX7_count_182 ln_X7_161 mo_X1_astrayAndTangled vo_X1_astrayAndTangled rfl (rc_1) rfl rfl (Nat.le_of_ble_eq_true rfl) (by omega) (Nat.le_of_ble_eq_true rfl) rfl (s_X1_astrayAndTangled (by omega) (by decide) hW) ?_
    exact Go_ireturn (pc := 185) dX7_count_185 rfl (by unfold countF; (repeat (first | rw [if_pos (by omega)] | rw [if_neg (by omega)])); try rfl) rfl
  · refine Go_tsIn (pc := 1) (tgt := 186) dX7_count_1 (by omega) (by omega) (by omega) (by rw [c1]; rfl) (by decide) ?_
    refine Go_aload_n (pc := 186) dX7_count_186 rfl (by decide) rfl ?_
    refine Go_getr (pc := 187) (r := 1) dX7_count_187 fo_X7_10 (by decide) rfl rfl (by decide) ?_
    refine Go_iconst (pc := 190) dX7_count_190 ?_
    refine Go_invV (pc := 191) (y := yX1_number) (avs := [.inl 4]) (k := 1) (rest := []) (x := .inl (M 2 4))  (d' := d - 1) dX7_count_191 ln_X7_158 mo_X1_number vo_X1_number rfl (rc_1) rfl rfl (Nat.le_of_ble_eq_true rfl) (by omega) (Nat.le_of_ble_eq_true rfl) rfl (s_X1_number (by omega) (by decide) (by decide) (by decide)) ?_
    exact Go_ireturn (pc := 194) dX7_count_194 rfl (by unfold countF; (repeat (first | rw [if_pos (by omega)] | rw [if_neg (by omega)])); try rfl) rfl
  · refine Go_tsIn (pc := 1) (tgt := 195) dX7_count_1 (by omega) (by omega) (by omega) (by rw [c1]; rfl) (by decide) ?_
    refine Go_aload_n (pc := 195) dX7_count_195 rfl (by decide) rfl ?_
    refine Go_getr (pc := 196) (r := 5) dX7_count_196 fo_X7_22 (by decide) rfl rfl (by decide) ?_
    refine Go_invV (pc := 199) (y := yX0_states) (avs := []) (k := 5) (rest := []) (x := .inl (M 5 1))  (d' := d - 1) dX7_count_199 ln_X7_164 mo_X0_states vo_X0_states rfl (rc_5) rfl rfl (Nat.le_of_ble_eq_true rfl) (by omega) (Nat.le_of_ble_eq_true rfl) rfl (s_X0_states (by omega)) ?_
    exact Go_ireturn (pc := 202) dX7_count_202 rfl (by unfold countF; (repeat (first | rw [if_pos (by omega)] | rw [if_neg (by omega)])); try rfl) rfl
  · refine Go_tsIn (pc := 1) (tgt := 203) dX7_count_1 (by omega) (by omega) (by omega) (by rw [c1]; rfl) (by decide) ?_
    refine Go_aload_n (pc := 203) dX7_count_203 rfl (by decide) rfl ?_
    refine Go_getr (pc := 204) (r := 7) dX7_count_204 fo_X7_29 (by decide) rfl rfl (by decide) ?_
    refine Go_invV (pc := 207) (y := yX5_length) (avs := []) (k := 7) (rest := []) (x := .inl (M 7 1))  (d' := d - 1) dX7_count_207 ln_X7_167 mo_X5_length vo_X5_length rfl (rc_7) rfl rfl (Nat.le_of_ble_eq_true rfl) (by omega) (Nat.le_of_ble_eq_true rfl) rfl (s_X5_length (by omega)) ?_
    exact Go_ireturn (pc := 210) dX7_count_210 rfl (by unfold countF; (repeat (first | rw [if_pos (by omega)] | rw [if_neg (by omega)])); try rfl) rfl
  · refine Go_tsIn (pc := 1) (tgt := 230) dX7_count_1 (by omega) (by omega) (by omega) (by rw [c1]; rfl) (by decide) ?_
    refine Go_ldc (pc := 230) (n := -1000001) rfl kc_X7_94 dX7_count_230 ?_
    exact Go_ireturn (pc := 232) dX7_count_232 rfl (by unfold countF; (repeat (first | rw [if_pos (by omega)] | rw [if_neg (by omega)])); try rfl) rfl
  · refine Go_tsIn (pc := 1) (tgt := 230) dX7_count_1 (by omega) (by omega) (by omega) (by rw [c1]; rfl) (by decide) ?_
    refine Go_ldc (pc := 230) (n := -1000001) rfl kc_X7_94 dX7_count_230 ?_
    exact Go_ireturn (pc := 232) dX7_count_232 rfl (by unfold countF; (repeat (first | rw [if_pos (by omega)] | rw [if_neg (by omega)])); try rfl) rfl
  · refine Go_tsIn (pc := 1) (tgt := 230) dX7_count_1 (by omega) (by omega) (by omega) (by rw [c1]; rfl) (by decide) ?_
    refine Go_ldc (pc := 230) (n := -1000001) rfl kc_X7_94 dX7_count_230 ?_
    exact Go_ireturn (pc := 232) dX7_count_232 rfl (by unfold countF; (repeat (first | rw [if_pos (by omega)] | rw [if_neg (by omega)])); try rfl) rfl
  · refine Go_tsIn (pc := 1) (tgt := 230) dX7_count_1 (by omega) (by omega) (by omega) (by rw [c1]; rfl) (by decide) ?_
    refine Go_ldc (pc := 230) (n := -1000001) rfl kc_X7_94 dX7_count_230 ?_
    exact Go_ireturn (pc := 232) dX7_count_232 rfl (by unfold countF; (repeat (first | rw [if_pos (by omega)] | rw [if_neg (by omega)])); try rfl) rfl
  · refine Go_tsIn (pc := 1) (tgt := 230) dX7_count_1 (by omega) (by omega) (by omega) (by rw [c1]; rfl) (by decide) ?_
    refine Go_ldc (pc := 230) (n := -1000001) rfl kc_X7_94 dX7_count_230 ?_
    exact Go_ireturn (pc := 232) dX7_count_232 rfl (by unfold countF; (repeat (first | rw [if_pos (by omega)] | rw [if_neg (by omega)])); try rfl) rfl
  · refine Go_tsIn (pc := 1) (tgt := 230) dX7_count_1 (by omega) (by omega) (by omega) (by rw [c1]; rfl) (by decide) ?_
    refine Go_ldc (pc := 230) (n := -1000001) rfl kc_X7_94 dX7_count_230 ?_
    exact Go_ireturn (pc := 232) dX7_count_232 rfl (by unfold countF; (repeat (first | rw [if_pos (by omega)] | rw [if_neg (by omega)])); try rfl) rfl
  · refine Go_tsIn (pc := 1) (tgt := 230) dX7_count_1 (by omega) (by omega) (by omega) (by rw [c1]; rfl) (by decide) ?_
    refine Go_ldc (pc := 230) (n := -1000001) rfl kc_X7_94 dX7_count_230 ?_
    exact Go_ireturn (pc := 232) dX7_count_232 rfl (by unfold countF; (repeat (first | rw [if_pos (by omega)] | rw [if_neg (by omega)])); try rfl) rfl
  · refine Go_tsIn (pc := 1) (tgt := 211) dX7_count_1 (by omega) (by omega) (by omega) (by rw [c1]; rfl) (by decide) ?_
    refine Go_aload_n (pc := 211) dX7_count_211 rfl (by decide) rfl ?_
    refine Go_getr (pc := 212) (r := 1) dX7_count_212 fo_X7_10 (by decide) rfl rfl (by decide) ?_
    refine Go_iconst (pc := 215) dX7_count_215 ?_
    refine Go_invV (pc := 216) (y := yX1_number) (avs := [.inl 5]) (k := 1) (rest := []) (x := .inl (M 2 5))  (d' := d - 1) dX7_count_216 ln_X7_158 mo_X1_number vo_X1_number rfl (rc_1) rfl rfl (Nat.le_of_ble_eq_true rfl) (by omega) (Nat.le_of_ble_eq_true rfl) rfl (s_X1_number (by omega) (by decide) (by decide) (by decide)) ?_
    exact Go_ireturn (pc := 219) dX7_count_219 rfl (by unfold countF; (repeat (first | rw [if_pos (by omega)] | rw [if_neg (by omega)])); try rfl) rfl
  · refine Go_tsIn (pc := 1) (tgt := 220) dX7_count_1 (by omega) (by omega) (by omega) (by rw [c1]; rfl) (by decide) ?_
    refine Go_aload_n (pc := 220) dX7_count_220 rfl (by decide) rfl ?_
    refine Go_getr (pc := 221) (r := 1) dX7_count_221 fo_X7_10 (by decide) rfl rfl (by decide) ?_
    refine Go_bipush (pc := 224) dX7_count_224 (by decide) (by decide) ?_
    refine Go_invV (pc := 226) (y := yX1_number) (avs := [.inl 6]) (k := 1) (rest := []) (x := .inl (M 2 6))  (d' := d - 1) dX7_count_226 ln_X7_158 mo_X1_number vo_X1_number rfl (rc_1) rfl rfl (Nat.le_of_ble_eq_true rfl) (by omega) (Nat.le_of_ble_eq_true rfl) rfl (s_X1_number (by omega) (by decide) (by decide) (by decide)) ?_
    exact Go_ireturn (pc := 229) dX7_count_229 rfl (by unfold countF; (repeat (first | rw [if_pos (by omega)] | rw [if_neg (by omega)])); try rfl) rfl
  · refine Go_tsOut (pc := 1) (tgt := 230) dX7_count_1 (by omega) c1 (by decide) ?_
    refine Go_ldc (pc := 230) (n := -1000001) rfl kc_X7_94 dX7_count_230 ?_
    exact Go_ireturn (pc := 232) dX7_count_232 rfl (by unfold countF; (repeat (first | rw [if_pos (by omega)] | rw [if_neg (by omega)])); try rfl) rfl
/-- the groups are as many as shades less knots -/
theorem grp_s {f : Int → Int} (hW : Wf f) {k : Int} (k0 : 0 ≤ k) (k1 : k < f 0) : sumZ (fun j => b2i (0 < sc f j 3)) (endG f k + 1) = sumZ (fun j => b2i (0 < sc f j 3)) k + (endG f k - k) := by
  have H : ∀ i : Int, k ≤ i → i ≤ f 0 - 1 → sumZ (fun j => b2i (0 < sc f j 3)) (endG f i + 1) = sumZ (fun j => b2i (0 < sc f j 3)) i + (endG f i - i) := by
    refine up_ind k (f 0 - 1) _ (fun i h0 h1 ih => ?_)
    have e : sumZ (fun j => b2i (0 < sc f j 3)) (i + 1) = sumZ (fun j => b2i (0 < sc f j 3)) i + b2i (0 < sc f i 3) := sumZ_s _ (by omega)
    by_cases h : i + 1 < f 0 ∧ 0 < sc f i 3
    · rw [endG_go h.1 h.2, ih (by omega), e, b2i_t h.2]
      omega
    · have hz : ¬ 0 < sc f i 3 := by
        intro q
        have := hW.kz (k := i)
        by_cases h2 : i + 1 < f 0
        · exact h ⟨h2, q⟩
        · have := this (by omega); omega
      rw [endG_st h, e, b2i_f hz]
      omega
  exact H k (Int.le_refl k) (by omega)
theorem s_X8_groups {d : Nat} (hd : 3 ≤ d) {M : gMem} (hW : Wf (M 17)) : Go d RX8 cX8_groups 3 (some .int) 0 [some (.inr 16), none, none] [] M (some (.inl (M 17 0 - knotsF (M 17)))) M := by
  have hn := hW.n
  have K : ∀ (m : Nat) (k : Int), (M 17 0 - k).toNat = m → 0 ≤ k → k ≤ M 17 0 → Go d RX8 cX8_groups 3 (some .int) 4 [some (.inr 16), some (.inl (k - sumZ (fun j => b2i (0 < sc (M 17) j 3)) k)), some (.inl k)] [] M (some (.inl (M 17 0 - knotsF (M 17)))) M := by
    intro m
    induction m using Nat.strongRecOn with
    | _ m ih =>
      intro k hm k0 k1
      refine Go_iload_n (pc := 4) dX8_groups_4 rfl rfl ?_
      refine Go_aload_n (pc := 5) dX8_groups_5 rfl (by decide) rfl ?_
      refine Go_getr (pc := 6) (r := 17) dX8_groups_6 fo_X8_7 (by decide) rfl rfl (by decide) ?_
      refine Go_iconst (pc := 9) dX8_groups_9 ?_
      refine Go_iaload (pc := 10) (z := M 17 0) dX8_groups_10 (by decide) rfl (by decide) (by decide) (rfl) ?_
      refine Go_icmp_ge (pc := 11) (tgt := 28) dX8_groups_11 (by decide) (by omega) (by omega) (fun c11 => ?_) (fun c11 => ?_)
      · refine Go_iload_n (pc := 28) dX8_groups_28 rfl rfl ?_
        exact Go_ireturn (pc := 29) dX8_groups_29 rfl (by rw [show k = M 17 0 by omega]; rfl) rfl
      · refine Go_iinc (pc := 14) (L' := [some (.inr 16), some (.inl ((k - sumZ (fun j => b2i (0 < sc (M 17) j 3)) k) + 1)), some (.inl k)]) dX8_groups_14 rfl (by decide) rfl ?_
        refine Go_aload_n (pc := 17) dX8_groups_17 rfl (by decide) rfl ?_
        refine Go_iload_n (pc := 18) dX8_groups_18 rfl rfl ?_
        refine Go_invV (pc := 19) (y := yX8_endOf) (avs := [.inl k]) (k := 16) (rest := []) (x := .inl (endG (M 17) k))  (d' := d - 1) dX8_groups_19 ln_X8_66 mo_X8_endOf vo_X8_endOf rfl (rc_16) rfl rfl (Nat.le_of_ble_eq_true rfl) (by omega) (Nat.le_of_ble_eq_true rfl) rfl (s_X8_endOf (by omega) hW (by first | omega | (simp only [Nat.reduceAdd]; omega)) (by first | omega | (simp only [Nat.reduceAdd]; omega))) ?_
        refine Go_iconst (pc := 22) dX8_groups_22 ?_
        refine Go_iadd (pc := 23) dX8_groups_23 ?_
        refine Go_istore_n (pc := 24) (L' := [some (.inr 16), some (.inl ((k - sumZ (fun j => b2i (0 < sc (M 17) j 3)) k) + 1)), some (.inl ((endG (M 17) k) + 1))]) dX8_groups_24 rfl (by decide) rfl ?_
        refine Go_goto (pc := 25) (tgt := 4) dX8_groups_25 (by decide) ?_
        have hb := endG_b (f := M 17) (k := k) (by omega)
        have e := grp_s hW k0 (by omega)
        exact Go_LS (by rw [show endG (M 17) k + 1 - sumZ (fun j => b2i (0 < sc (M 17) j 3)) (endG (M 17) k + 1) = k - sumZ (fun j => b2i (0 < sc (M 17) j 3)) k + 1 by omega]) rfl (ih _ (by omega) (endG (M 17) k + 1) rfl (by omega) (by omega))
  refine Go_iconst (pc := 0) dX8_groups_0 ?_
  refine Go_istore_n (pc := 1) (L' := [some (.inr 16), some (.inl 0), none]) dX8_groups_1 rfl (by decide) rfl ?_
  refine Go_iconst (pc := 2) dX8_groups_2 ?_
  refine Go_istore_n (pc := 3) (L' := [some (.inr 16), some (.inl 0), some (.inl 0)]) dX8_groups_3 rfl (by decide) rfl ?_
  exact K _ 0 rfl (by omega) (by omega)
theorem s_X8_count {d : Nat} (hd : 6 ≤ d) {c : Int} {M : gMem} (hW : Wf (M 17)) (hc : inR c) : Go d RX8 cX8_count 2 (some .int) 0 [some (.inr 16), some (.inl c)] [] M (some (.inl (countF (M 17) (M 16 4) (M 16 6) c))) M := by
  have hn := hW.n
  refine Go_iload_n (pc := 0) dX8_count_0 rfl rfl ?_
  rcases (by omega : c = 0 ∨ c = 1 ∨ c = 2 ∨ c = 3 ∨ c = 4 ∨ c = 5 ∨ c = 6 ∨ c = 7 ∨ c = 8 ∨ c = 9 ∨ c = 10 ∨ c = 11 ∨ c = 12 ∨ (c < 0 ∨ 12 < c)) with c1 | c1 | c1 | c1 | c1 | c1 | c1 | c1 | c1 | c1 | c1 | c1 | c1 | c1
  · refine Go_tsIn (pc := 1) (tgt := 68) dX8_count_1 (by omega) (by omega) (by omega) (by rw [c1]; rfl) (by decide) ?_
    refine Go_aload_n (pc := 68) dX8_count_68 rfl (by decide) rfl ?_
    refine Go_getr (pc := 69) (r := 17) dX8_count_69 fo_X8_7 (by decide) rfl rfl (by decide) ?_
    refine Go_iload_n (pc := 72) dX8_count_72 rfl rfl ?_
    refine Go_iaload (pc := 73) (z := M 17 c) dX8_count_73 (by decide) rfl (by omega) (by omega) (rfl) ?_
    exact Go_ireturn (pc := 74) dX8_count_74 rfl (by unfold countF; (repeat (first | rw [if_pos (by omega)] | rw [if_neg (by omega)])); first | done | rfl | (subst c1; rfl) | (rcases (by omega : c = 20 ∨ c = 21) with e | e <;> (subst e; rfl))) rfl
  · refine Go_tsIn (pc := 1) (tgt := 68) dX8_count_1 (by omega) (by omega) (by omega) (by rw [c1]; rfl) (by decide) ?_
    refine Go_aload_n (pc := 68) dX8_count_68 rfl (by decide) rfl ?_
    refine Go_getr (pc := 69) (r := 17) dX8_count_69 fo_X8_7 (by decide) rfl rfl (by decide) ?_
    refine Go_iload_n (pc := 72) dX8_count_72 rfl rfl ?_
    refine Go_iaload (pc := 73) (z := M 17 c) dX8_count_73 (by decide) rfl (by omega) (by omega) (rfl) ?_
    exact Go_ireturn (pc := 74) dX8_count_74 rfl (by unfold countF; (repeat (first | rw [if_pos (by omega)] | rw [if_neg (by omega)])); first | done | rfl | (subst c1; rfl) | (rcases (by omega : c = 20 ∨ c = 21) with e | e <;> (subst e; rfl))) rfl
  · refine Go_tsIn (pc := 1) (tgt := 75) dX8_count_1 (by omega) (by omega) (by omega) (by rw [c1]; rfl) (by decide) ?_
    refine Go_aload_n (pc := 75) dX8_count_75 rfl (by decide) rfl ?_
    refine Go_invV (pc := 76) (y := yX8_knots) (avs := []) (k := 16) (rest := []) (x := .inl (knotsF (M 17)))  (d' := d - 1) dX8_count_76 ln_X8_131 mo_X8_knots vo_X8_knots rfl (rc_16) rfl rfl (Nat.le_of_ble_eq_true rfl) (by omega) (Nat.le_of_ble_eq_true rfl) rfl (s_X8_knots (by omega) hW) ?_
    exact Go_ireturn (pc := 79) dX8_count_79 rfl (by unfold countF; (repeat (first | rw [if_pos (by omega)] | rw [if_neg (by omega)])); first | done | rfl | (subst c1; rfl) | (rcases (by omega : c = 20 ∨ c = 21) with e | e <;> (subst e; rfl))) rfl
  · refine Go_tsIn (pc := 1) (tgt := 80) dX8_count_1 (by omega) (by omega) (by omega) (by rw [c1]; rfl) (by decide) ?_
    refine Go_aload_n (pc := 80) dX8_count_80 rfl (by decide) rfl ?_
    refine Go_invV (pc := 81) (y := yX8_depths) (avs := []) (k := 16) (rest := []) (x := .inl (depthsF (M 17)))  (d' := d - 1) dX8_count_81 ln_X8_147 mo_X8_depths vo_X8_depths rfl (rc_16) rfl rfl (Nat.le_of_ble_eq_true rfl) (by omega) (Nat.le_of_ble_eq_true rfl) rfl (s_X8_depths (by omega) hW) ?_
    exact Go_ireturn (pc := 84) dX8_count_84 rfl (by unfold countF; (repeat (first | rw [if_pos (by omega)] | rw [if_neg (by omega)])); first | done | rfl | (subst c1; rfl) | (rcases (by omega : c = 20 ∨ c = 21) with e | e <;> (subst e; rfl))) rfl
  · refine Go_tsIn (pc := 1) (tgt := 85) dX8_count_1 (by omega) (by omega) (by omega) (by rw [c1]; rfl) (by decide) ?_
    refine Go_aload_n (pc := 85) dX8_count_85 rfl (by decide) rfl ?_
    refine Go_invV (pc := 86) (y := yX8_groups) (avs := []) (k := 16) (rest := []) (x := .inl (M 17 0 - knotsF (M 17)))  (d' := d - 1) dX8_count_86 ln_X8_150 mo_X8_groups vo_X8_groups rfl (rc_16) rfl rfl (Nat.le_of_ble_eq_true rfl) (by omega) (Nat.le_of_ble_eq_true rfl) rfl (s_X8_groups (by omega) hW) ?_
    exact Go_ireturn (pc := 89) dX8_count_89 rfl (by unfold countF; (repeat (first | rw [if_pos (by omega)] | rw [if_neg (by omega)])); first | done | rfl | (subst c1; rfl) | (rcases (by omega : c = 20 ∨ c = 21) with e | e <;> (subst e; rfl))) rfl
  · refine Go_tsIn (pc := 1) (tgt := 90) dX8_count_1 (by omega) (by omega) (by omega) (by rw [c1]; rfl) (by decide) ?_
    refine Go_aload_n (pc := 90) dX8_count_90 rfl (by decide) rfl ?_
    refine Go_getr (pc := 91) (r := 17) dX8_count_91 fo_X8_7 (by decide) rfl rfl (by decide) ?_
    refine Go_iconst (pc := 94) dX8_count_94 ?_
    refine Go_iload_n (pc := 95) dX8_count_95 rfl rfl ?_
    refine Go_iadd (pc := 96) dX8_count_96 ?_
    refine Go_iconst (pc := 97) dX8_count_97 ?_
    refine Go_isub (pc := 98) dX8_count_98 ?_
    refine Go_iaload (pc := 99) (z := M 17 ((2 + c) - 5)) dX8_count_99 (by decide) rfl (by omega) (by omega) (rfl) ?_
    exact Go_ireturn (pc := 100) dX8_count_100 rfl (by unfold countF; (repeat (first | rw [if_pos (by omega)] | rw [if_neg (by omega)])); first | done | rfl | (subst c1; rfl) | (rcases (by omega : c = 20 ∨ c = 21) with e | e <;> (subst e; rfl))) rfl
  · refine Go_tsIn (pc := 1) (tgt := 90) dX8_count_1 (by omega) (by omega) (by omega) (by rw [c1]; rfl) (by decide) ?_
    refine Go_aload_n (pc := 90) dX8_count_90 rfl (by decide) rfl ?_
    refine Go_getr (pc := 91) (r := 17) dX8_count_91 fo_X8_7 (by decide) rfl rfl (by decide) ?_
    refine Go_iconst (pc := 94) dX8_count_94 ?_
    refine Go_iload_n (pc := 95) dX8_count_95 rfl rfl ?_
    refine Go_iadd (pc := 96) dX8_count_96 ?_
    refine Go_iconst (pc := 97) dX8_count_97 ?_
    refine Go_isub (pc := 98) dX8_count_98 ?_
    refine Go_iaload (pc := 99) (z := M 17 ((2 + c) - 5)) dX8_count_99 (by decide) rfl (by omega) (by omega) (rfl) ?_
    exact Go_ireturn (pc := 100) dX8_count_100 rfl (by unfold countF; (repeat (first | rw [if_pos (by omega)] | rw [if_neg (by omega)])); first | done | rfl | (subst c1; rfl) | (rcases (by omega : c = 20 ∨ c = 21) with e | e <;> (subst e; rfl))) rfl
  · refine Go_tsIn (pc := 1) (tgt := 101) dX8_count_1 (by omega) (by omega) (by omega) (by rw [c1]; rfl) (by decide) ?_
    refine Go_aload_n (pc := 101) dX8_count_101 rfl (by decide) rfl ?_
    refine Go_invV (pc := 102) (y := yX8_allTold) (avs := []) (k := 16) (rest := []) (x := .inl (toldF (M 17)))  (d' := d - 1) dX8_count_102 ln_X8_103 mo_X8_allTold vo_X8_allTold rfl (rc_16) rfl rfl (Nat.le_of_ble_eq_true rfl) (by omega) (Nat.le_of_ble_eq_true rfl) rfl (s_X8_allTold (by omega) hW) ?_
    exact Go_ireturn (pc := 105) dX8_count_105 rfl (by unfold countF; (repeat (first | rw [if_pos (by omega)] | rw [if_neg (by omega)])); first | done | rfl | (subst c1; rfl) | (rcases (by omega : c = 20 ∨ c = 21) with e | e <;> (subst e; rfl))) rfl
  · refine Go_tsIn (pc := 1) (tgt := 106) dX8_count_1 (by omega) (by omega) (by omega) (by rw [c1]; rfl) (by decide) ?_
    refine Go_aload_n (pc := 106) dX8_count_106 rfl (by decide) rfl ?_
    refine Go_invV (pc := 107) (y := yX8_standing) (avs := []) (k := 16) (rest := []) (x := .inl (standF (M 17)))  (d' := d - 1) dX8_count_107 ln_X8_93 mo_X8_standing vo_X8_standing rfl (rc_16) rfl rfl (Nat.le_of_ble_eq_true rfl) (by omega) (Nat.le_of_ble_eq_true rfl) rfl (s_X8_standing (by omega) hW) ?_
    exact Go_ireturn (pc := 110) dX8_count_110 rfl (by unfold countF; (repeat (first | rw [if_pos (by omega)] | rw [if_neg (by omega)])); first | done | rfl | (subst c1; rfl) | (rcases (by omega : c = 20 ∨ c = 21) with e | e <;> (subst e; rfl))) rfl
  · refine Go_tsIn (pc := 1) (tgt := 111) dX8_count_1 (by omega) (by omega) (by omega) (by rw [c1]; rfl) (by decide) ?_
    refine Go_aload_n (pc := 111) dX8_count_111 rfl (by decide) rfl ?_
    refine Go_invV (pc := 112) (y := yX8_tangled) (avs := []) (k := 16) (rest := []) (x := .inl (astrayF (M 17)))  (d' := d - 1) dX8_count_112 ln_X8_153 mo_X8_tangled vo_X8_tangled rfl (rc_16) rfl rfl (Nat.le_of_ble_eq_true rfl) (by omega) (Nat.le_of_ble_eq_true rfl) rfl (s_X8_tangled (by omega) hW) ?_
    exact Go_ireturn (pc := 115) dX8_count_115 rfl (by unfold countF; (repeat (first | rw [if_pos (by omega)] | rw [if_neg (by omega)])); first | done | rfl | (subst c1; rfl) | (rcases (by omega : c = 20 ∨ c = 21) with e | e <;> (subst e; rfl))) rfl
  · refine Go_tsIn (pc := 1) (tgt := 116) dX8_count_1 (by omega) (by omega) (by omega) (by rw [c1]; rfl) (by decide) ?_
    refine Go_aload_n (pc := 116) dX8_count_116 rfl (by decide) rfl ?_
    refine Go_getr (pc := 117) (r := 17) dX8_count_117 fo_X8_7 (by decide) rfl rfl (by decide) ?_
    refine Go_iconst (pc := 120) dX8_count_120 ?_
    refine Go_iaload (pc := 121) (z := M 17 4) dX8_count_121 (by decide) rfl (by decide) (by decide) (rfl) ?_
    exact Go_ireturn (pc := 122) dX8_count_122 rfl (by unfold countF; (repeat (first | rw [if_pos (by omega)] | rw [if_neg (by omega)])); first | done | rfl | (subst c1; rfl) | (rcases (by omega : c = 20 ∨ c = 21) with e | e <;> (subst e; rfl))) rfl
  · refine Go_tsIn (pc := 1) (tgt := 123) dX8_count_1 (by omega) (by omega) (by omega) (by rw [c1]; rfl) (by decide) ?_
    refine Go_aload_n (pc := 123) dX8_count_123 rfl (by decide) rfl ?_
    refine Go_geti (pc := 124) (z := M 16 4) dX8_count_124 fo_X8_43 (by decide) rfl rfl (rfl) ?_
    exact Go_ireturn (pc := 127) dX8_count_127 rfl (by unfold countF; (repeat (first | rw [if_pos (by omega)] | rw [if_neg (by omega)])); first | done | rfl | (subst c1; rfl) | (rcases (by omega : c = 20 ∨ c = 21) with e | e <;> (subst e; rfl))) rfl
  · refine Go_tsIn (pc := 1) (tgt := 128) dX8_count_1 (by omega) (by omega) (by omega) (by rw [c1]; rfl) (by decide) ?_
    refine Go_aload_n (pc := 128) dX8_count_128 rfl (by decide) rfl ?_
    refine Go_geti (pc := 129) (z := M 16 6) dX8_count_129 fo_X8_156 (by decide) rfl rfl (rfl) ?_
    exact Go_ireturn (pc := 132) dX8_count_132 rfl (by unfold countF; (repeat (first | rw [if_pos (by omega)] | rw [if_neg (by omega)])); first | done | rfl | (subst c1; rfl) | (rcases (by omega : c = 20 ∨ c = 21) with e | e <;> (subst e; rfl))) rfl
  · refine Go_tsOut (pc := 1) (tgt := 133) dX8_count_1 (by omega) c1 (by decide) ?_
    refine Go_iload_n (pc := 133) dX8_count_133 rfl rfl ?_
    refine Go_bipush (pc := 134) dX8_count_134 (by decide) (by decide) ?_
    refine Go_bipush (pc := 136) dX8_count_136 (by decide) (by decide) ?_
    refine Go_invS (pc := 138) (y := yX8_in) (avs := [.inl c, .inl 20, .inl 21]) (rest := []) (x := .inl (b2i (20 ≤ c ∧ c ≤ 21)))  (d' := d - 1) dX8_count_138 ln_X8_38 mo_X8_in so_X8_in rfl rfl rfl (Nat.le_of_ble_eq_true rfl) (by omega) (Nat.le_of_ble_eq_true rfl) rfl (s_X8_in (by omega) (by omega) (by decide) (by decide)) ?_
    refine Go_ifeqB (pc := 141) (tgt := 158) dX8_count_141 (by decide) (fun c141 => ?_) (fun c141 => ?_)
    · refine Go_ldc (pc := 158) (n := -1000001) rfl kc_X8_42 dX8_count_158 ?_
      exact Go_ireturn (pc := 160) dX8_count_160 rfl (by unfold countF; (repeat (first | rw [if_pos (by omega)] | rw [if_neg (by omega)])); first | done | rfl | (subst c1; rfl) | (rcases (by omega : c = 20 ∨ c = 21) with e | e <;> (subst e; rfl))) rfl
    · refine Go_aload_n (pc := 144) dX8_count_144 rfl (by decide) rfl ?_
      refine Go_getr (pc := 145) (r := 17) dX8_count_145 fo_X8_7 (by decide) rfl rfl (by decide) ?_
      refine Go_iconst (pc := 148) dX8_count_148 ?_
      refine Go_iload_n (pc := 149) dX8_count_149 rfl rfl ?_
      refine Go_iadd (pc := 150) dX8_count_150 ?_
      refine Go_bipush (pc := 151) dX8_count_151 (by decide) (by decide) ?_
      refine Go_isub (pc := 153) dX8_count_153 ?_
      refine Go_iaload (pc := 154) (z := M 17 ((5 + c) - 20)) dX8_count_154 (by decide) rfl (by omega) (by omega) (rfl) ?_
      refine Go_goto (pc := 155) (tgt := 160) dX8_count_155 (by decide) ?_
      exact Go_ireturn (pc := 160) dX8_count_160 rfl (by unfold countF; (repeat (first | rw [if_pos (by omega)] | rw [if_neg (by omega)])); first | done | rfl | (subst c1; rfl) | (rcases (by omega : c = 20 ∨ c = 21) with e | e <;> (subst e; rfl))) rfl
theorem s_X8_bestHeight {d : Nat} (hd : 4 ≤ d) {a c : Int} {M : gMem} (hW : Wf (M 17)) (ha : inR a) (hc : inR c) : Go d RX8 cX8_bestHeight 8 (some .int) 0 [some (.inr 16), some (.inl a), some (.inl c), none, none, none, none, none] [] M (some (.inl (bestF (M 17) a c))) M := by
  have hn := hW.n
  have hA := hW.ah a
  have hr : ∀ q, 0 ≤ hoursF (M 17) a q ∧ hoursF (M 17) a q ≤ 24 := fun q => hoursF_b _ _ _
  have K1 : 0 ≤ a → a < M 17 0 → 0 ≤ c → c ≤ 1 → ∀ i : Int, 0 ≤ i → i < 10 → ∀ (S T : Int), -1 ≤ T → T ≤ 24 → Go d RX8 cX8_bestHeight 8 (some .int) 28 [some (.inr 16), some (.inl a), some (.inl c), some (.inl (if T < hoursF (M 17) a i then i else S)), some (.inl (max T (hoursF (M 17) a i))), some (.inl (i + 1)), some (.inl (hoursF (M 17) a i)), some (.inl 24)] [] M (some (.inl (bestF (M 17) a c))) M → ∀ t, 0 ≤ t → t ≤ 24 → Go d RX8 cX8_bestHeight 8 (some .int) 41 [some (.inr 16), some (.inl a), some (.inl c), some (.inl S), some (.inl T), some (.inl i), some (.inl (sumZ (fun t => b2i (wellP (M 17) a (lightF (sc (M 17) a 1) t i))) t)), some (.inl t)] [] M (some (.inl (bestF (M 17) a c))) M := by
    intro a0 a1 c0 c1 i i0 i1 S T hT1 hT2 kk
    refine up_ind 0 24 _ (fun t h0 h1 ih => ?_)
    have e : sumZ (fun t => b2i (wellP (M 17) a (lightF (sc (M 17) a 1) t i))) (t + 1) = sumZ (fun t => b2i (wellP (M 17) a (lightF (sc (M 17) a 1) t i))) t + b2i (wellP (M 17) a (lightF (sc (M 17) a 1) t i)) := sumZ_s _ h0
    have hbb : 0 ≤ sumZ (fun t => b2i (wellP (M 17) a (lightF (sc (M 17) a 1) t i))) t ∧ sumZ (fun t => b2i (wellP (M 17) a (lightF (sc (M 17) a 1) t i))) t ≤ t := sumZ_b01 h0 (fun i h0 h1 => b2i_b _)
    have hh := hr i
    rw [e] at ih
    generalize hU : sumZ (fun t => b2i (wellP (M 17) a (lightF (sc (M 17) a 1) t i))) t = U at ih hbb ⊢
    refine Go_iload (pc := 41) dX8_bestHeight_41 rfl ?_
    refine Go_bipush (pc := 43) dX8_bestHeight_43 (by decide) (by decide) ?_
    refine Go_icmp_ge (pc := 45) (tgt := 81) dX8_bestHeight_45 (by decide) (by omega) (by decide) (fun c45 => ?_) (fun c45 => ?_)
    · refine Go_iload (pc := 81) dX8_bestHeight_81 rfl ?_
      refine Go_iload (pc := 83) dX8_bestHeight_83 rfl ?_
      refine Go_icmp_le (pc := 85) (tgt := 93) dX8_bestHeight_85 (by decide) (by omega) (by omega) (fun c85 => ?_) (fun c85 => ?_)
      · refine Go_iload_n (pc := 93) dX8_bestHeight_93 rfl rfl ?_
        refine Go_istore_n (pc := 94) (L' := [some (.inr 16), some (.inl a), some (.inl c), some (.inl S), some (.inl T), some (.inl i), some (.inl U), some (.inl t)]) dX8_bestHeight_94 rfl (by decide) rfl ?_
        refine Go_iload (pc := 95) dX8_bestHeight_95 rfl ?_
        refine Go_iload (pc := 97) dX8_bestHeight_97 rfl ?_
        refine Go_icmp_le (pc := 99) (tgt := 107) dX8_bestHeight_99 (by decide) (by omega) (by omega) (fun c99 => ?_) (fun c99 => ?_)
        · refine Go_iload (pc := 107) dX8_bestHeight_107 rfl ?_
          refine Go_istore (pc := 109) (L' := [some (.inr 16), some (.inl a), some (.inl c), some (.inl S), some (.inl T), some (.inl i), some (.inl U), some (.inl t)]) dX8_bestHeight_109 (by decide) rfl ?_
          refine Go_iinc (pc := 111) (L' := [some (.inr 16), some (.inl a), some (.inl c), some (.inl S), some (.inl T), some (.inl (i + 1)), some (.inl U), some (.inl t)]) dX8_bestHeight_111 rfl (by decide) rfl ?_
          refine Go_goto (pc := 114) (tgt := 28) dX8_bestHeight_114 (by decide) ?_
          obtain rfl : t = 24 := by omega
          have eU : hoursF (M 17) a i = U := hU
          rw [eU] at kk
          first | (rw [if_pos (by omega), Int.max_eq_right (by omega)] at kk; exact kk) | (rw [if_neg (by omega), Int.max_eq_left (by omega)] at kk; exact kk) | omega
        · refine Go_iload (pc := 102) dX8_bestHeight_102 rfl ?_
          refine Go_goto (pc := 104) (tgt := 109) dX8_bestHeight_104 (by decide) ?_
          refine Go_istore (pc := 109) (L' := [some (.inr 16), some (.inl a), some (.inl c), some (.inl S), some (.inl U), some (.inl i), some (.inl U), some (.inl t)]) dX8_bestHeight_109 (by decide) rfl ?_
          refine Go_iinc (pc := 111) (L' := [some (.inr 16), some (.inl a), some (.inl c), some (.inl S), some (.inl U), some (.inl (i + 1)), some (.inl U), some (.inl t)]) dX8_bestHeight_111 rfl (by decide) rfl ?_
          refine Go_goto (pc := 114) (tgt := 28) dX8_bestHeight_114 (by decide) ?_
          obtain rfl : t = 24 := by omega
          have eU : hoursF (M 17) a i = U := hU
          rw [eU] at kk
          first | (rw [if_pos (by omega), Int.max_eq_right (by omega)] at kk; exact kk) | (rw [if_neg (by omega), Int.max_eq_left (by omega)] at kk; exact kk) | omega
      · refine Go_iload (pc := 88) dX8_bestHeight_88 rfl ?_
        refine Go_goto (pc := 90) (tgt := 94) dX8_bestHeight_90 (by decide) ?_
        refine Go_istore_n (pc := 94) (L' := [some (.inr 16), some (.inl a), some (.inl c), some (.inl i), some (.inl T), some (.inl i), some (.inl U), some (.inl t)]) dX8_bestHeight_94 rfl (by decide) rfl ?_
        refine Go_iload (pc := 95) dX8_bestHeight_95 rfl ?_
        refine Go_iload (pc := 97) dX8_bestHeight_97 rfl ?_
        refine Go_icmp_le (pc := 99) (tgt := 107) dX8_bestHeight_99 (by decide) (by omega) (by omega) (fun c99a => ?_) (fun c99a => ?_)
        · refine Go_iload (pc := 107) dX8_bestHeight_107 rfl ?_
          refine Go_istore (pc := 109) (L' := [some (.inr 16), some (.inl a), some (.inl c), some (.inl i), some (.inl T), some (.inl i), some (.inl U), some (.inl t)]) dX8_bestHeight_109 (by decide) rfl ?_
          refine Go_iinc (pc := 111) (L' := [some (.inr 16), some (.inl a), some (.inl c), some (.inl i), some (.inl T), some (.inl (i + 1)), some (.inl U), some (.inl t)]) dX8_bestHeight_111 rfl (by decide) rfl ?_
          refine Go_goto (pc := 114) (tgt := 28) dX8_bestHeight_114 (by decide) ?_
          obtain rfl : t = 24 := by omega
          have eU : hoursF (M 17) a i = U := hU
          rw [eU] at kk
          first | (rw [if_pos (by omega), Int.max_eq_right (by omega)] at kk; exact kk) | (rw [if_neg (by omega), Int.max_eq_left (by omega)] at kk; exact kk) | omega
        · refine Go_iload (pc := 102) dX8_bestHeight_102 rfl ?_
          refine Go_goto (pc := 104) (tgt := 109) dX8_bestHeight_104 (by decide) ?_
          refine Go_istore (pc := 109) (L' := [some (.inr 16), some (.inl a), some (.inl c), some (.inl i), some (.inl U), some (.inl i), some (.inl U), some (.inl t)]) dX8_bestHeight_109 (by decide) rfl ?_
          refine Go_iinc (pc := 111) (L' := [some (.inr 16), some (.inl a), some (.inl c), some (.inl i), some (.inl U), some (.inl (i + 1)), some (.inl U), some (.inl t)]) dX8_bestHeight_111 rfl (by decide) rfl ?_
          refine Go_goto (pc := 114) (tgt := 28) dX8_bestHeight_114 (by decide) ?_
          obtain rfl : t = 24 := by omega
          have eU : hoursF (M 17) a i = U := hU
          rw [eU] at kk
          first | (rw [if_pos (by omega), Int.max_eq_right (by omega)] at kk; exact kk) | (rw [if_neg (by omega), Int.max_eq_left (by omega)] at kk; exact kk) | omega
    · refine Go_iload (pc := 48) dX8_bestHeight_48 rfl ?_
      refine Go_aload_n (pc := 50) dX8_bestHeight_50 rfl (by decide) rfl ?_
      refine Go_iload_n (pc := 51) dX8_bestHeight_51 rfl rfl ?_
      refine Go_aload_n (pc := 52) dX8_bestHeight_52 rfl (by decide) rfl ?_
      refine Go_iload_n (pc := 53) dX8_bestHeight_53 rfl rfl ?_
      refine Go_iload (pc := 54) dX8_bestHeight_54 rfl ?_
      refine Go_iload (pc := 56) dX8_bestHeight_56 rfl ?_
      refine Go_invV (pc := 58) (y := yX8_light) (avs := [.inl a, .inl t, .inl i]) (k := 16) (rest := [.inl a, .inr 16, .inl U]) (x := .inl (lightF (sc (M 17) a 1) t i))  (d' := d - 1) dX8_bestHeight_58 ln_X8_106 mo_X8_light vo_X8_light rfl (rc_16) rfl rfl (Nat.le_of_ble_eq_true rfl) (by omega) (Nat.le_of_ble_eq_true rfl) rfl (s_X8_light (by omega) hW (by first | omega | (simp only [Nat.reduceAdd]; omega)) (by first | omega | (simp only [Nat.reduceAdd]; omega)) (by omega) (by omega)) ?_
      refine Go_invV (pc := 61) (y := yX8_isWell) (avs := [.inl a, .inl (lightF (sc (M 17) a 1) t i)]) (k := 16) (rest := [.inl U]) (x := .inl (b2i (wellP (M 17) a (lightF (sc (M 17) a 1) t i))))  (d' := d - 1) dX8_bestHeight_61 ln_X8_110 mo_X8_isWell vo_X8_isWell rfl (rc_16) rfl rfl (Nat.le_of_ble_eq_true rfl) (by omega) (Nat.le_of_ble_eq_true rfl) rfl (s_X8_isWell (by omega) hW (by first | omega | (simp only [Nat.reduceAdd]; omega)) (by first | omega | (simp only [Nat.reduceAdd]; omega)) (by first | omega | exact lightF_b (by omega) (by omega) (by omega))) ?_
      refine Go_ifeqB (pc := 64) (tgt := 71) dX8_bestHeight_64 (by decide) (fun c64 => ?_) (fun c64 => ?_)
      · refine Go_iconst (pc := 71) dX8_bestHeight_71 ?_
        refine Go_iadd (pc := 72) dX8_bestHeight_72 ?_
        refine Go_istore (pc := 73) (L' := [some (.inr 16), some (.inl a), some (.inl c), some (.inl S), some (.inl T), some (.inl i), some (.inl (U + 0)), some (.inl t)]) dX8_bestHeight_73 (by decide) rfl ?_
        refine Go_iinc (pc := 75) (L' := [some (.inr 16), some (.inl a), some (.inl c), some (.inl S), some (.inl T), some (.inl i), some (.inl (U + 0)), some (.inl (t + 1))]) dX8_bestHeight_75 rfl (by decide) rfl ?_
        refine Go_goto (pc := 78) (tgt := 41) dX8_bestHeight_78 (by decide) ?_
        exact Go_LS (by first | rw [b2i_t (by assumption)] | rw [b2i_f (by assumption)]) rfl (ih (by omega))
      · refine Go_iconst (pc := 67) dX8_bestHeight_67 ?_
        refine Go_goto (pc := 68) (tgt := 72) dX8_bestHeight_68 (by decide) ?_
        refine Go_iadd (pc := 72) dX8_bestHeight_72 ?_
        refine Go_istore (pc := 73) (L' := [some (.inr 16), some (.inl a), some (.inl c), some (.inl S), some (.inl T), some (.inl i), some (.inl (U + 1)), some (.inl t)]) dX8_bestHeight_73 (by decide) rfl ?_
        refine Go_iinc (pc := 75) (L' := [some (.inr 16), some (.inl a), some (.inl c), some (.inl S), some (.inl T), some (.inl i), some (.inl (U + 1)), some (.inl (t + 1))]) dX8_bestHeight_75 rfl (by decide) rfl ?_
        refine Go_goto (pc := 78) (tgt := 41) dX8_bestHeight_78 (by decide) ?_
        exact Go_LS (by first | rw [b2i_t (by assumption)] | rw [b2i_f (by assumption)]) rfl (ih (by omega))
  have K2 : 0 ≤ a → a < M 17 0 → 0 ≤ c → c ≤ 1 → ∀ i, 0 ≤ i → i ≤ 10 → ∀ x y : Option MV, Go d RX8 cX8_bestHeight 8 (some .int) 28 [some (.inr 16), some (.inl a), some (.inl c), some (.inl (bestZ (fun z => hoursF (M 17) a z) i)), some (.inl (if i = 0 then -1 else mostZ (fun z => hoursF (M 17) a z) i)), some (.inl i), x, y] [] M (some (.inl (bestF (M 17) a c))) M := by
    intro a0 a1 c0 c1
    refine up_ind 0 10 _ (fun i h0 h1 ih x y => ?_)
    have e1 : bestZ (fun z => hoursF (M 17) a z) (i + 1) = if mostZ (fun z => hoursF (M 17) a z) i < hoursF (M 17) a i then i else bestZ (fun z => hoursF (M 17) a z) i := bestZ_s _ h0
    have e2 : mostZ (fun z => hoursF (M 17) a z) (i + 1) = max (mostZ (fun z => hoursF (M 17) a z) i) (hoursF (M 17) a i) := mostZ_s _ h0
    have hb := mostZ_b (fun z => hoursF (M 17) a z) hr i
    have hi := hr i
    have e0 : i = 0 → bestZ (fun z => hoursF (M 17) a z) i = 0 ∧ mostZ (fun z => hoursF (M 17) a z) i = 0 := fun q => by rw [q]; exact ⟨rfl, rfl⟩
    rw [e1, e2] at ih
    generalize hS : bestZ (fun z => hoursF (M 17) a z) i = S at ih e0 ⊢
    generalize hT : mostZ (fun z => hoursF (M 17) a z) i = T at ih e0 hb ⊢
    generalize hq : (if i = 0 then -1 else T) = Q
    have hq2 : (i = 0 ∧ Q = -1) ∨ (¬ i = 0 ∧ Q = T) := by
      by_cases z : i = 0
      · rw [if_pos z] at hq; exact Or.inl ⟨z, hq.symm⟩
      · rw [if_neg z] at hq; exact Or.inr ⟨z, hq.symm⟩
    refine Go_iload (pc := 28) dX8_bestHeight_28 rfl ?_
    refine Go_bipush (pc := 30) dX8_bestHeight_30 (by decide) (by decide) ?_
    refine Go_icmp_ge (pc := 32) (tgt := 117) dX8_bestHeight_32 (by decide) (by omega) (by decide) (fun c32 => ?_) (fun c32 => ?_)
    · refine Go_iload_n (pc := 117) dX8_bestHeight_117 rfl rfl ?_
      refine Go_if_ne (pc := 118) (tgt := 125) dX8_bestHeight_118 (by decide) (by omega) (fun c118 => ?_) (fun c118 => ?_)
      · refine Go_iload (pc := 125) dX8_bestHeight_125 rfl ?_
        exact Go_ireturn (pc := 127) dX8_bestHeight_127 rfl (by unfold bestF; rw [if_neg (by omega)]; first | rw [if_pos (by omega), ← hS, show i = 10 by omega] | rw [if_neg (by omega), show Q = T by omega, ← hT, show i = 10 by omega]) rfl
      · refine Go_iload_n (pc := 121) dX8_bestHeight_121 rfl rfl ?_
        refine Go_goto (pc := 122) (tgt := 127) dX8_bestHeight_122 (by decide) ?_
        exact Go_ireturn (pc := 127) dX8_bestHeight_127 rfl (by unfold bestF; rw [if_neg (by omega)]; first | rw [if_pos (by omega), ← hS, show i = 10 by omega] | rw [if_neg (by omega), show Q = T by omega, ← hT, show i = 10 by omega]) rfl
    · refine Go_iconst (pc := 35) dX8_bestHeight_35 ?_
      refine Go_istore (pc := 36) (L' := [some (.inr 16), some (.inl a), some (.inl c), some (.inl S), some (.inl Q), some (.inl i), some (.inl 0), y]) dX8_bestHeight_36 (by decide) rfl ?_
      refine Go_iconst (pc := 38) dX8_bestHeight_38 ?_
      refine Go_istore (pc := 39) (L' := [some (.inr 16), some (.inl a), some (.inl c), some (.inl S), some (.inl Q), some (.inl i), some (.inl 0), some (.inl 0)]) dX8_bestHeight_39 (by decide) rfl ?_
      refine K1 a0 a1 c0 c1 i h0 (by omega) S Q (by omega) (by omega) ?_ 0 (by omega) (by omega)
      refine Go_LS ?_ rfl (ih (by omega) (some (.inl (hoursF (M 17) a i))) (some (.inl 24)))
      rw [if_neg (show ¬ i + 1 = 0 by omega), show max Q (hoursF (M 17) a i) = max T (hoursF (M 17) a i) by omega]
      rcases hq2 with z | z
      · rw [if_pos (by omega)]
        by_cases w : T < hoursF (M 17) a i
        · rw [if_pos w]
        · rw [if_neg w, (e0 z.1).1, z.1]
      · rw [z.2]
  refine Go_aload_n (pc := 0) dX8_bestHeight_0 rfl (by decide) rfl ?_
  refine Go_iload_n (pc := 1) dX8_bestHeight_1 rfl rfl ?_
  refine Go_invV (pc := 2) (y := yX8_isShade) (avs := [.inl a]) (k := 16) (rest := []) (x := .inl (b2i (0 ≤ a ∧ a < M 17 0)))  (d' := d - 1) dX8_bestHeight_2 ln_X8_90 mo_X8_isShade vo_X8_isShade rfl (rc_16) rfl rfl (Nat.le_of_ble_eq_true rfl) (by omega) (Nat.le_of_ble_eq_true rfl) rfl (s_X8_isShade (by omega) (by omega) hW) ?_
  refine Go_ifeqB (pc := 5) (tgt := 17) dX8_bestHeight_5 (by decide) (fun c5 => ?_) (fun c5 => ?_)
  · refine Go_ldc (pc := 17) (n := -1000001) rfl kc_X8_42 dX8_bestHeight_17 ?_
    exact Go_ireturn (pc := 19) dX8_bestHeight_19 rfl (by unfold bestF; rw [if_pos (by omega)]) rfl
  · refine Go_iload_n (pc := 8) dX8_bestHeight_8 rfl rfl ?_
    refine Go_iconst (pc := 9) dX8_bestHeight_9 ?_
    refine Go_iconst (pc := 10) dX8_bestHeight_10 ?_
    refine Go_invS (pc := 11) (y := yX8_in) (avs := [.inl c, .inl 0, .inl 1]) (rest := []) (x := .inl (b2i (0 ≤ c ∧ c ≤ 1)))  (d' := d - 1) dX8_bestHeight_11 ln_X8_38 mo_X8_in so_X8_in rfl rfl rfl (Nat.le_of_ble_eq_true rfl) (by omega) (Nat.le_of_ble_eq_true rfl) rfl (s_X8_in (by omega) (by omega) (by decide) (by decide)) ?_
    refine Go_ifneB (pc := 14) (tgt := 20) dX8_bestHeight_14 (by decide) (fun c14 => ?_) (fun c14 => ?_)
    · refine Go_iconst (pc := 20) dX8_bestHeight_20 ?_
      refine Go_istore_n (pc := 21) (L' := [some (.inr 16), some (.inl a), some (.inl c), some (.inl 0), none, none, none, none]) dX8_bestHeight_21 rfl (by decide) rfl ?_
      refine Go_iconst (pc := 22) dX8_bestHeight_22 ?_
      refine Go_istore (pc := 23) (L' := [some (.inr 16), some (.inl a), some (.inl c), some (.inl 0), some (.inl (-1)), none, none, none]) dX8_bestHeight_23 (by decide) rfl ?_
      refine Go_iconst (pc := 25) dX8_bestHeight_25 ?_
      refine Go_istore (pc := 26) (L' := [some (.inr 16), some (.inl a), some (.inl c), some (.inl 0), some (.inl (-1)), some (.inl 0), none, none]) dX8_bestHeight_26 (by decide) rfl ?_
      exact K2 (by omega) (by omega) (by omega) (by omega) 0 (by omega) (by omega) _ _
    · refine Go_ldc (pc := 17) (n := -1000001) rfl kc_X8_42 dX8_bestHeight_17 ?_
      exact Go_ireturn (pc := 19) dX8_bestHeight_19 rfl (by unfold bestF; rw [if_pos (by omega)]) rfl
