/-! the reference: pulls -/
def stoodR (g f : Int → Int) (i : Int) : Int → Int := fun q => if 0 ≤ q ∧ q < i then sc f q 0 else g q
theorem stoodR_s (g f : Int → Int) {i : Int} (h : 0 ≤ i) : updI (stoodR g f i) i (sc f i 0) = stoodR g f (i + 1) := by
  funext q
  unfold stoodR
  by_cases z : q = i
  · subst z
    rw [updI_s, if_pos (by omega)]
  · rw [updI_n z]
    by_cases y : 0 ≤ q ∧ q < i
    · rw [if_pos y, if_pos (by omega)]
    · rw [if_neg y, if_neg (by omega)]
theorem stoodR_0 (g f : Int → Int) : stoodR g f 0 = g := by
  funext q
  unfold stoodR
  rw [if_neg (by omega)]
theorem stoodR_in (g f : Int → Int) {i q : Int} (h0 : 0 ≤ q) (h1 : q < i) : stoodR g f i q = sc f q 0 := if_pos ⟨h0, h1⟩
def pullMv (f : Int → Int) (j z : Int) : Int → Int := (stepS (plZ f (pullU f j z) (pullD f j z) ((z.natAbs : Int) - 1)).1 (pullU f j z) (pullD f j z)).2.1
theorem ite0 {α : Type} (a b : α) : (if (0 : Int) = 0 then a else b) = a := rfl
theorem ite1 {α : Type} (a b : α) : (if (1 : Int) = 0 then a else b) = b := rfl
theorem s_X8_pullsOne_no {d : Nat} (hd : 2 ≤ d) {j z : Int} {M : gMem} (hW : Wf (M 17)) (hj : inR j) (hz : inR z) (c : ¬ pullOk (M 17) j z) : Go d RX8 cX8_pullsOne 6 (some .int) 0 [some (.inr 16), some (.inl j), some (.inl z), none, none, none] [] M (some (.inl (-1000001))) M := by
  have hn := hW.n
  have ht := hW.t
  refine Go_aload_n (pc := 0) dX8_pullsOne_0 rfl (by decide) rfl ?_
  refine Go_iload_n (pc := 1) dX8_pullsOne_1 rfl rfl ?_
  refine Go_invV (pc := 2) (y := yX8_isString) (avs := [.inl j]) (k := 16) (rest := []) (x := .inl (b2i (0 ≤ j ∧ j < M 17 1)))  (d' := d - 1) dX8_pullsOne_2 ln_X8_73 mo_X8_isString vo_X8_isString rfl (rc_16) rfl rfl (Nat.le_of_ble_eq_true rfl) (by omega) (Nat.le_of_ble_eq_true rfl) rfl (s_X8_isString (by omega) (by omega) hW) ?_
  refine Go_ifeqB (pc := 5) (tgt := 23) dX8_pullsOne_5 (by decide) (fun c5 => ?_) (fun c5 => ?_)
  · refine Go_ldc (pc := 23) (n := -1000001) rfl kc_X8_42 dX8_pullsOne_23 ?_
    exact Go_ireturn (pc := 25) dX8_pullsOne_25 rfl (by first | rfl | (simp_all; done)) rfl
  · refine Go_iload_n (pc := 8) dX8_pullsOne_8 rfl rfl ?_
    refine Go_bipush (pc := 9) dX8_pullsOne_9 (by decide) (by decide) ?_
    refine Go_bipush (pc := 11) dX8_pullsOne_11 (by decide) (by decide) ?_
    refine Go_invS (pc := 13) (y := yX8_in) (avs := [.inl z, .inl (-9), .inl 9]) (rest := []) (x := .inl (b2i ((-9) ≤ z ∧ z ≤ 9)))  (d' := d - 1) dX8_pullsOne_13 ln_X8_38 mo_X8_in so_X8_in rfl rfl rfl (Nat.le_of_ble_eq_true rfl) (by omega) (Nat.le_of_ble_eq_true rfl) rfl (s_X8_in (by omega) (by omega) (by decide) (by decide)) ?_
    refine Go_ifeqB (pc := 16) (tgt := 23) dX8_pullsOne_16 (by decide) (fun c16 => ?_) (fun c16 => ?_)
    · refine Go_ldc (pc := 23) (n := -1000001) rfl kc_X8_42 dX8_pullsOne_23 ?_
      exact Go_ireturn (pc := 25) dX8_pullsOne_25 rfl (by first | rfl | (simp_all; done)) rfl
    · refine Go_iload_n (pc := 19) dX8_pullsOne_19 rfl rfl ?_
      refine Go_if_ne (pc := 20) (tgt := 26) dX8_pullsOne_20 (by decide) (by omega) (fun c20 => ?_) (fun c20 => ?_)
      · refine Go_iconst (pc := 26) dX8_pullsOne_26 ?_
        refine Go_istore_n (pc := 27) (L' := [some (.inr 16), some (.inl j), some (.inl z), some (.inl 0), none, none]) dX8_pullsOne_27 rfl (by decide) rfl ?_
        exfalso; omega
      · refine Go_ldc (pc := 23) (n := -1000001) rfl kc_X8_42 dX8_pullsOne_23 ?_
        exact Go_ireturn (pc := 25) dX8_pullsOne_25 rfl (by first | rfl | (simp_all; done)) rfl
theorem s_X8_pullsOne {d : Nat} (hd : 4 ≤ d) {j z : Int} {M : gMem} (hW : Wf (M 17)) (hj : inR j) (hz : inR z) (c : pullOk (M 17) j z) (h23 : ∀ q, q < 0 ∨ 8 ≤ q → M 23 q = 0) : Go d RX8 cX8_pullsOne 6 (some .int) 0 [some (.inr 16), some (.inl j), some (.inl z), none, none, none] [] M (some (.inl ((pullR (M 17) j z).1))) (setR (setR (setR M 17 (pullG (M 17) j z)) 22 (stoodR (M 22) (M 17) (M 17 0))) 23 (pullMv (M 17) j z)) := by
  have hn := hW.n
  have ht := hW.t
  rw [pullR_y c]
  have hG := pullG_W hW c.1 (z := z)
  have hG0 := pullG_q hW c.1 (z := z) (q := 0) (by decide) (by decide)
  -- which have moved
  have K3 : ∀ x i : Int, 0 ≤ i → i ≤ M 17 0 → Go d RX8 cX8_pullsOne 6 (some .int) 119 [some (.inr 16), some (.inl j), some (.inl z), some (.inl x), some (.inl (orZ (fun k => sc (pullG (M 17) j z) k 0 - sc (M 17) k 0) i)), some (.inl i)] [] (setR (setR (setR M 17 (pullG (M 17) j z)) 22 (stoodR (M 22) (M 17) (M 17 0))) 23 (pullMv (M 17) j z)) (some (.inl (orZ (fun k => sc (pullG (M 17) j z) k 0 - sc (M 17) k 0) (M 17 0)))) (setR (setR (setR M 17 (pullG (M 17) j z)) 22 (stoodR (M 22) (M 17) (M 17 0))) 23 (pullMv (M 17) j z)) := by
    intro x
    refine up_ind 0 (M 17 0) _ (fun i i0 i1 ih => ?_)
    have hh := hG.ht i
    have hf := hW.ht i
    have hs := fun h : i < M 17 0 => stoodR_in (M 22) (M 17) i0 h
    have hb := orZ_b (fun k => sc (pullG (M 17) j z) k 0 - sc (M 17) k 0) (i := i) (by omega)
    rw [orZ_s _ i0] at ih
    generalize hO : orZ (fun k => sc (pullG (M 17) j z) k 0 - sc (M 17) k 0) i = O at ih hb ⊢
    refine Go_iload (pc := 119) dX8_pullsOne_119 rfl ?_
    refine Go_aload_n (pc := 121) dX8_pullsOne_121 rfl (by decide) rfl ?_
    refine Go_getr (pc := 122) (r := 17) dX8_pullsOne_122 fo_X8_7 (by decide) rfl rfl (by decide) ?_
    refine Go_iconst (pc := 125) dX8_pullsOne_125 ?_
    refine Go_iaload (pc := 126) (z := (pullG (M 17) j z) 0) dX8_pullsOne_126 (by decide) rfl (by decide) (by decide) (rfl) ?_
    refine Go_icmp_ge (pc := 127) (tgt := 166) dX8_pullsOne_127 (by decide) (by first | omega | (rw [hs (by omega)]; omega)) (by first | omega | (rw [hs (by omega)]; omega)) (fun c127 => ?_) (fun c127 => ?_)
    · refine Go_iload (pc := 166) dX8_pullsOne_166 rfl ?_
      exact Go_ireturn (pc := 168) dX8_pullsOne_168 rfl (by rw [← hO, show i = M 17 0 by omega]) rfl
    · refine Go_iload (pc := 130) dX8_pullsOne_130 rfl ?_
      refine Go_aload_n (pc := 132) dX8_pullsOne_132 rfl (by decide) rfl ?_
      refine Go_getr (pc := 133) (r := 22) dX8_pullsOne_133 fo_X8_26 (by decide) rfl rfl (by decide) ?_
      refine Go_iload (pc := 136) dX8_pullsOne_136 rfl ?_
      refine Go_iaload (pc := 138) (z := (stoodR (M 22) (M 17) (M 17 0)) i) dX8_pullsOne_138 (by decide) rfl (by omega) (by omega) (rfl) ?_
      refine Go_aload_n (pc := 139) dX8_pullsOne_139 rfl (by decide) rfl ?_
      refine Go_iload (pc := 140) dX8_pullsOne_140 rfl ?_
      refine Go_iconst (pc := 142) dX8_pullsOne_142 ?_
      refine Go_invV (pc := 143) (y := yX8_sh) (avs := [.inl i, .inl 0]) (k := 16) (rest := [.inl ((stoodR (M 22) (M 17) (M 17 0)) i), .inl O]) (x := .inl (sc (pullG (M 17) j z) i 0))  (d' := d - 1) dX8_pullsOne_143 ln_X8_59 mo_X8_sh vo_X8_sh rfl (rc_16) rfl rfl (Nat.le_of_ble_eq_true rfl) (by omega) (Nat.le_of_ble_eq_true rfl) rfl (s_X8_sh (by omega) (by first | omega | (simp only [Nat.reduceAdd, setR_s]; omega) | (simp only [setR, Nat.reduceEqDiff, reduceIte]; omega)) (by first | omega | (simp only [Nat.reduceAdd, setR_s]; omega) | (simp only [setR, Nat.reduceEqDiff, reduceIte]; omega)) (by decide) (by decide)) ?_
      refine Go_icmp_eq (pc := 146) (tgt := 156) dX8_pullsOne_146 (by decide) (by first | omega | (rw [hs (by omega)]; omega)) (by first | exact hW.rs _ _ (by decide) | exact hW2.rs _ _ (by decide) | first | omega | (rw [hs (by omega)]; omega)) (fun c146 => ?_) (fun c146 => ?_)
      · refine Go_iconst (pc := 156) dX8_pullsOne_156 ?_
        refine Go_ior (pc := 157) dX8_pullsOne_157 ?_
        refine Go_istore (pc := 158) (L' := [some (.inr 16), some (.inl j), some (.inl z), some (.inl x), some (.inl (gor O 0)), some (.inl i)]) dX8_pullsOne_158 (by decide) rfl ?_
        refine Go_iinc (pc := 160) (L' := [some (.inr 16), some (.inl j), some (.inl z), some (.inl x), some (.inl (gor O 0)), some (.inl (i + 1))]) dX8_pullsOne_160 rfl (by decide) rfl ?_
        refine Go_goto (pc := 163) (tgt := 119) dX8_pullsOne_163 (by decide) ?_
        rw [hs (by omega)] at c146
        rw [if_pos (show sc (pullG (M 17) j z) i 0 - sc (M 17) i 0 = 0 by omega)] at ih
        exact Go_LS (by rw [gor_0 (by omega)]) rfl (ih (by omega))
      · refine Go_iconst (pc := 149) dX8_pullsOne_149 ?_
        refine Go_iload (pc := 150) dX8_pullsOne_150 rfl ?_
        refine Go_ishl (pc := 152) dX8_pullsOne_152 ?_
        refine Go_goto (pc := 153) (tgt := 157) dX8_pullsOne_153 (by decide) ?_
        refine Go_ior (pc := 157) dX8_pullsOne_157 ?_
        refine Go_istore (pc := 158) (L' := [some (.inr 16), some (.inl j), some (.inl z), some (.inl x), some (.inl (gor O (gshl 1 i))), some (.inl i)]) dX8_pullsOne_158 (by decide) rfl ?_
        refine Go_iinc (pc := 160) (L' := [some (.inr 16), some (.inl j), some (.inl z), some (.inl x), some (.inl (gor O (gshl 1 i))), some (.inl (i + 1))]) dX8_pullsOne_160 rfl (by decide) rfl ?_
        refine Go_goto (pc := 163) (tgt := 119) dX8_pullsOne_163 (by decide) ?_
        rw [hs (by omega)] at c146
        rw [if_neg (show ¬ sc (pullG (M 17) j z) i 0 - sc (M 17) i 0 = 0 by omega)] at ih
        exact ih (by omega)
  -- the steps
  have K2 : ∀ i : Int, 0 ≤ i → i ≤ (z.natAbs : Int) → ∀ (mv : Int → Int) (y : Option MV), (∀ q, q < 0 ∨ 8 ≤ q → mv q = 0) → (i = (z.natAbs : Int) → mv = pullMv (M 17) j z) → Go d RX8 cX8_pullsOne 6 (some .int) 70 [some (.inr 16), some (.inl j), some (.inl z), some (.inl (z.natAbs : Int)), some (.inl i), y] [] (setR (setR (setR M 17 (updI (plZ (M 17) (pullU (M 17) j z) (pullD (M 17) j z) i).1 (63 + 4 * j + 3) (tc (M 17) j 3 + (plZ (M 17) (pullU (M 17) j z) (pullD (M 17) j z) i).2))) 22 (stoodR (M 22) (M 17) (M 17 0))) 23 mv) (some (.inl (orZ (fun k => sc (pullG (M 17) j z) k 0 - sc (M 17) k 0) (M 17 0)))) (setR (setR (setR M 17 (pullG (M 17) j z)) 22 (stoodR (M 22) (M 17) (M 17 0))) 23 (pullMv (M 17) j z)) := by
    refine up_ind 0 (z.natAbs : Int) _ (fun i i0 i1 ih mv y hmv hm => ?_)
    obtain ⟨hP, hq, hq2⟩ := plZ_W hW (pullU (M 17) j z) (pullD (M 17) j z) i
    have eG : i = (z.natAbs : Int) → pullG (M 17) j z = updI (updI (plZ (M 17) (pullU (M 17) j z) (pullD (M 17) j z) i).1 (63 + 4 * j + 2) (tc (M 17) j 2 + z)) (63 + 4 * j + 3) (tc (M 17) j 3 + (plZ (M 17) (pullU (M 17) j z) (pullD (M 17) j z) i).2) := fun e => by unfold pullG pullP; rw [e]
    have eM : i + 1 = (z.natAbs : Int) → (stepS (plZ (M 17) (pullU (M 17) j z) (pullD (M 17) j z) i).1 (pullU (M 17) j z) (pullD (M 17) j z)).2.1 = pullMv (M 17) j z := fun e => by unfold pullMv; rw [show (z.natAbs : Int) - 1 = i by omega]
    rw [plZ_s _ _ _ i0] at ih
    generalize plZ (M 17) (pullU (M 17) j z) (pullD (M 17) j z) i = Q at ih hP hq hq2 eG eM ⊢
    have q1 := hq 1 (by decide) (by decide)
    have q0 := hq 0 (by decide) (by decide)
    have t0 : tc Q.1 j 0 = tc (M 17) j 0 := by rw [tc_in Q.1 0 c.1.1 (by omega), tc_in (M 17) 0 c.1.1 (by omega), hq2 _ (by omega)]
    have t1 : tc Q.1 j 1 = tc (M 17) j 1 := by rw [tc_in Q.1 1 c.1.1 (by omega), tc_in (M 17) 1 c.1.1 (by omega), hq2 _ (by omega)]
    have t2 : Q.1 (63 + 4 * j + 2) = tc (M 17) j 2 := by rw [tc_in (M 17) 2 c.1.1 (by omega), hq2 _ (by omega)]
    have eU0 : ¬ 0 < z → pullU (M 17) j z = tc Q.1 j 1 := fun h => by unfold pullU; rw [if_neg h, t1]
    have eD0 : ¬ 0 < z → pullD (M 17) j z = tc Q.1 j 0 := fun h => by unfold pullD; rw [if_neg h, t0]
    have eU1 : 0 < z → pullU (M 17) j z = tc Q.1 j 0 := fun h => by unfold pullU; rw [if_pos h, t0]
    have eD1 : 0 < z → pullD (M 17) j z = tc Q.1 j 1 := fun h => by unfold pullD; rw [if_pos h, t1]
    have hok := stepS_ok hP (pullU (M 17) j z) (pullD (M 17) j z)
    refine Go_iload (pc := 70) dX8_pullsOne_70 rfl ?_
    refine Go_iload_n (pc := 72) dX8_pullsOne_72 rfl rfl ?_
    refine Go_icmp_ge (pc := 73) (tgt := 96) dX8_pullsOne_73 (by decide) (by omega) (by omega) (fun c73 => ?_) (fun c73 => ?_)
    · refine Go_aload_n (pc := 96) dX8_pullsOne_96 rfl (by decide) rfl ?_
      refine Go_getr (pc := 97) (r := 17) dX8_pullsOne_97 fo_X8_7 (by decide) rfl rfl (by decide) ?_
      refine Go_bipush (pc := 100) dX8_pullsOne_100 (by decide) (by decide) ?_
      refine Go_iconst (pc := 102) dX8_pullsOne_102 ?_
      refine Go_iload_n (pc := 103) dX8_pullsOne_103 rfl rfl ?_
      refine Go_imul (pc := 104) dX8_pullsOne_104 ?_
      refine Go_iadd (pc := 105) dX8_pullsOne_105 ?_
      refine Go_iconst (pc := 106) dX8_pullsOne_106 ?_
      refine Go_iadd (pc := 107) dX8_pullsOne_107 ?_
      refine Go_dup2 (pc := 108) dX8_pullsOne_108 ?_
      refine Go_iaload (pc := 109) (z := (updI Q.1 (63 + 4 * j + 3) (tc (M 17) j 3 + Q.2)) ((63 + (4 * j)) + 2)) dX8_pullsOne_109 (by decide) rfl (by omega) (by omega) (rfl) ?_
      refine Go_iload_n (pc := 110) dX8_pullsOne_110 rfl rfl ?_
      refine Go_iadd (pc := 111) dX8_pullsOne_111 ?_
      refine Go_iastore (pc := 112) dX8_pullsOne_112 (by decide) rfl (by omega) (by omega) ?_
      refine Go_M (M1 := setR (setR (setR M 22 (stoodR (M 22) (M 17) (M 17 0))) 23 mv) 17 (updI (updI Q.1 (63 + 4 * j + 3) (tc (M 17) j 3 + Q.2)) ((63 + (4 * j)) + 2) (((updI Q.1 (63 + 4 * j + 3) (tc (M 17) j 3 + Q.2)) ((63 + (4 * j)) + 2)) + z))) (by funext q; simp only [setR]; (repeat' split) <;> first | rfl | omega | simp_all) ?_
      refine Go_iconst (pc := 113) dX8_pullsOne_113 ?_
      refine Go_istore (pc := 114) (L' := [some (.inr 16), some (.inl j), some (.inl z), some (.inl (z.natAbs : Int)), some (.inl 0), y]) dX8_pullsOne_114 (by decide) rfl ?_
      refine Go_iconst (pc := 116) dX8_pullsOne_116 ?_
      refine Go_istore (pc := 117) (L' := [some (.inr 16), some (.inl j), some (.inl z), some (.inl (z.natAbs : Int)), some (.inl 0), some (.inl 0)]) dX8_pullsOne_117 (by decide) rfl ?_
      have e9 : updI (updI Q.1 (63 + 4 * j + 3) (tc (M 17) j 3 + Q.2)) (63 + 4 * j + 2) (updI Q.1 (63 + 4 * j + 3) (tc (M 17) j 3 + Q.2) (63 + 4 * j + 2) + z) = pullG (M 17) j z := by
        rw [eG (by omega), updI_n (by omega), t2, updI_cm (i := 63 + 4 * j + 3) (j := 63 + 4 * j + 2) _ (by omega)]
      refine Go_LS (by rw [orZ_0]) rfl (Go_M ?_ (K3 _ 0 (by omega) (by omega)))
      rw [e9, hm (by omega)]
      funext q
      simp only [setR]
      (repeat' split) <;> first | rfl | omega | simp_all
    · refine Go_aload_n (pc := 76) dX8_pullsOne_76 rfl (by decide) rfl ?_
      refine Go_iload_n (pc := 77) dX8_pullsOne_77 rfl rfl ?_
      refine Go_iload_n (pc := 78) dX8_pullsOne_78 rfl rfl ?_
      refine Go_if_le (pc := 79) (tgt := 86) dX8_pullsOne_79 (by decide) (by omega) (fun c79 => ?_) (fun c79 => ?_)
      · refine Go_iconst (pc := 86) dX8_pullsOne_86 ?_
        refine Go_invVv (pc := 87) (y := yX8_steps) (avs := [.inl j, .inl 0]) (k := 16) (rest := [])   (d' := d - 1) dX8_pullsOne_87 ln_X8_76 mo_X8_steps vo_X8_steps rfl (rc_16) rfl rfl (Nat.le_of_ble_eq_true rfl) (by omega) (Nat.le_of_ble_eq_true rfl) rfl (s_X8_steps (P := Q.1) (c := (tc (M 17) j 3 + Q.2)) (by omega) hP (by decide) (by first | omega | (simp only [Nat.reduceAdd, setR_s]; omega) | (simp only [setR, Nat.reduceEqDiff, reduceIte]; omega)) (by omega) rfl hmv) ?_
        refine Go_M (M1 := setR (setR (setR M 22 (stoodR (M 22) (M 17) (M 17 0))) 17 (updI (stepR Q.1 (if (0 : Int) = 0 then tc Q.1 j 1 else tc Q.1 j 0) (if (0 : Int) = 0 then tc Q.1 j 0 else tc Q.1 j 1)) (63 + 4 * j + 3) ((tc (M 17) j 3 + Q.2) + stepJ Q.1 (if (0 : Int) = 0 then tc Q.1 j 1 else tc Q.1 j 0) (if (0 : Int) = 0 then tc Q.1 j 0 else tc Q.1 j 1)))) 23 ((stepS Q.1 (if (0 : Int) = 0 then tc Q.1 j 1 else tc Q.1 j 0) (if (0 : Int) = 0 then tc Q.1 j 0 else tc Q.1 j 1)).2.1)) (by funext q; simp only [setR]; (repeat' split) <;> first | rfl | omega | simp_all) ?_
        refine Go_iinc (pc := 90) (L' := [some (.inr 16), some (.inl j), some (.inl z), some (.inl (z.natAbs : Int)), some (.inl (i + 1)), y]) dX8_pullsOne_90 rfl (by decide) rfl ?_
        refine Go_goto (pc := 93) (tgt := 70) dX8_pullsOne_93 (by decide) ?_
        refine Go_M ?_ (ih (by omega) _ _ hok.2 eM)
        rw [ite0, ite0, ← eU0 (by omega), ← eD0 (by omega), setR_cm M (show (22 : Nat) ≠ 17 by decide), Int.add_assoc (tc (M 17) j 3)]
      · refine Go_iconst (pc := 82) dX8_pullsOne_82 ?_
        refine Go_goto (pc := 83) (tgt := 87) dX8_pullsOne_83 (by decide) ?_
        refine Go_invVv (pc := 87) (y := yX8_steps) (avs := [.inl j, .inl 1]) (k := 16) (rest := [])   (d' := d - 1) dX8_pullsOne_87 ln_X8_76 mo_X8_steps vo_X8_steps rfl (rc_16) rfl rfl (Nat.le_of_ble_eq_true rfl) (by omega) (Nat.le_of_ble_eq_true rfl) rfl (s_X8_steps (P := Q.1) (c := (tc (M 17) j 3 + Q.2)) (by omega) hP (by decide) (by first | omega | (simp only [Nat.reduceAdd, setR_s]; omega) | (simp only [setR, Nat.reduceEqDiff, reduceIte]; omega)) (by omega) rfl hmv) ?_
        refine Go_M (M1 := setR (setR (setR M 22 (stoodR (M 22) (M 17) (M 17 0))) 17 (updI (stepR Q.1 (if (1 : Int) = 0 then tc Q.1 j 1 else tc Q.1 j 0) (if (1 : Int) = 0 then tc Q.1 j 0 else tc Q.1 j 1)) (63 + 4 * j + 3) ((tc (M 17) j 3 + Q.2) + stepJ Q.1 (if (1 : Int) = 0 then tc Q.1 j 1 else tc Q.1 j 0) (if (1 : Int) = 0 then tc Q.1 j 0 else tc Q.1 j 1)))) 23 ((stepS Q.1 (if (1 : Int) = 0 then tc Q.1 j 1 else tc Q.1 j 0) (if (1 : Int) = 0 then tc Q.1 j 0 else tc Q.1 j 1)).2.1)) (by funext q; simp only [setR]; (repeat' split) <;> first | rfl | omega | simp_all) ?_
        refine Go_iinc (pc := 90) (L' := [some (.inr 16), some (.inl j), some (.inl z), some (.inl (z.natAbs : Int)), some (.inl (i + 1)), y]) dX8_pullsOne_90 rfl (by decide) rfl ?_
        refine Go_goto (pc := 93) (tgt := 70) dX8_pullsOne_93 (by decide) ?_
        refine Go_M ?_ (ih (by omega) _ _ hok.2 eM)
        rw [ite1, ite1, ← eU1 (by omega), ← eD1 (by omega), setR_cm M (show (22 : Nat) ≠ 17 by decide), Int.add_assoc (tc (M 17) j 3)]
  -- where they stood
  have K1 : ∀ i : Int, 0 ≤ i → i ≤ M 17 0 → ∀ x y : Option MV, Go d RX8 cX8_pullsOne 6 (some .int) 28 [some (.inr 16), some (.inl j), some (.inl z), some (.inl i), x, y] [] (setR M 22 (stoodR (M 22) (M 17) i)) (some (.inl (orZ (fun k => sc (pullG (M 17) j z) k 0 - sc (M 17) k 0) (M 17 0)))) (setR (setR (setR M 17 (pullG (M 17) j z)) 22 (stoodR (M 22) (M 17) (M 17 0))) 23 (pullMv (M 17) j z)) := by
    refine up_ind 0 (M 17 0) _ (fun i i0 i1 ih x y => ?_)
    have K20 : ∀ (N : Int) (y : Option MV), i = M 17 0 → N = (z.natAbs : Int) → Go d RX8 cX8_pullsOne 6 (some .int) 70 [some (.inr 16), some (.inl j), some (.inl z), some (.inl N), some (.inl 0), y] [] (setR M 22 (stoodR (M 22) (M 17) i)) (some (.inl (orZ (fun k => sc (pullG (M 17) j z) k 0 - sc (M 17) k 0) (M 17 0)))) (setR (setR (setR M 17 (pullG (M 17) j z)) 22 (stoodR (M 22) (M 17) (M 17 0))) 23 (pullMv (M 17) j z)) := by
      intro N y ei eN
      subst eN
      refine Go_M ?_ (K2 0 (by omega) (by omega) (M 23) y h23 (fun e => by omega))
      have ew : updI (plZ (M 17) (pullU (M 17) j z) (pullD (M 17) j z) 0).1 (63 + 4 * j + 3) (tc (M 17) j 3 + (plZ (M 17) (pullU (M 17) j z) (pullD (M 17) j z) 0).2) = M 17 := by
        show updI (M 17) (63 + 4 * j + 3) (tc (M 17) j 3 + 0) = M 17
        exact updI_eq (by rw [tc_in _ _ c.1.1 (by omega)]; omega)
      rw [ew, ei]
      funext q
      simp only [setR]
      (repeat' split) <;> first | rfl | omega | simp_all
    refine Go_iload_n (pc := 28) dX8_pullsOne_28 rfl rfl ?_
    refine Go_aload_n (pc := 29) dX8_pullsOne_29 rfl (by decide) rfl ?_
    refine Go_getr (pc := 30) (r := 17) dX8_pullsOne_30 fo_X8_7 (by decide) rfl rfl (by decide) ?_
    refine Go_iconst (pc := 33) dX8_pullsOne_33 ?_
    refine Go_iaload (pc := 34) (z := M 17 0) dX8_pullsOne_34 (by decide) rfl (by decide) (by decide) (rfl) ?_
    refine Go_icmp_ge (pc := 35) (tgt := 56) dX8_pullsOne_35 (by decide) (by omega) (by omega) (fun c35 => ?_) (fun c35 => ?_)
    · refine Go_iload_n (pc := 56) dX8_pullsOne_56 rfl rfl ?_
      refine Go_if_ge (pc := 57) (tgt := 65) dX8_pullsOne_57 (by decide) (by omega) (fun c57 => ?_) (fun c57 => ?_)
      · refine Go_iload_n (pc := 65) dX8_pullsOne_65 rfl rfl ?_
        refine Go_istore_n (pc := 66) (L' := [some (.inr 16), some (.inl j), some (.inl z), some (.inl z), x, y]) dX8_pullsOne_66 rfl (by decide) rfl ?_
        refine Go_iconst (pc := 67) dX8_pullsOne_67 ?_
        refine Go_istore (pc := 68) (L' := [some (.inr 16), some (.inl j), some (.inl z), some (.inl z), some (.inl 0), y]) dX8_pullsOne_68 (by decide) rfl ?_
        exact K20 _ _ (by omega) (by omega)
      · refine Go_iload_n (pc := 60) dX8_pullsOne_60 rfl rfl ?_
        refine Go_ineg (pc := 61) dX8_pullsOne_61 ?_
        refine Go_goto (pc := 62) (tgt := 66) dX8_pullsOne_62 (by decide) ?_
        refine Go_istore_n (pc := 66) (L' := [some (.inr 16), some (.inl j), some (.inl z), some (.inl (-z)), x, y]) dX8_pullsOne_66 rfl (by decide) rfl ?_
        refine Go_iconst (pc := 67) dX8_pullsOne_67 ?_
        refine Go_istore (pc := 68) (L' := [some (.inr 16), some (.inl j), some (.inl z), some (.inl (-z)), some (.inl 0), y]) dX8_pullsOne_68 (by decide) rfl ?_
        exact K20 _ _ (by omega) (by omega)
    · refine Go_aload_n (pc := 38) dX8_pullsOne_38 rfl (by decide) rfl ?_
      refine Go_getr (pc := 39) (r := 22) dX8_pullsOne_39 fo_X8_26 (by decide) rfl rfl (by decide) ?_
      refine Go_iload_n (pc := 42) dX8_pullsOne_42 rfl rfl ?_
      refine Go_aload_n (pc := 43) dX8_pullsOne_43 rfl (by decide) rfl ?_
      refine Go_iload_n (pc := 44) dX8_pullsOne_44 rfl rfl ?_
      refine Go_iconst (pc := 45) dX8_pullsOne_45 ?_
      refine Go_invV (pc := 46) (y := yX8_sh) (avs := [.inl i, .inl 0]) (k := 16) (rest := [.inl i, .inr 22]) (x := .inl (sc (M 17) i 0))  (d' := d - 1) dX8_pullsOne_46 ln_X8_59 mo_X8_sh vo_X8_sh rfl (rc_16) rfl rfl (Nat.le_of_ble_eq_true rfl) (by omega) (Nat.le_of_ble_eq_true rfl) rfl (s_X8_sh (by omega) (by first | omega | (simp only [Nat.reduceAdd, setR_s]; omega) | (simp only [setR, Nat.reduceEqDiff, reduceIte]; omega)) (by first | omega | (simp only [Nat.reduceAdd, setR_s]; omega) | (simp only [setR, Nat.reduceEqDiff, reduceIte]; omega)) (by decide) (by decide)) ?_
      refine Go_iastore (pc := 49) dX8_pullsOne_49 (by decide) rfl (by omega) (by omega) ?_
      refine Go_M (M1 := setR M 22 (updI (stoodR (M 22) (M 17) i) i (sc (M 17) i 0))) (setR_top _ _ _ _ _) ?_
      refine Go_iinc (pc := 50) (L' := [some (.inr 16), some (.inl j), some (.inl z), some (.inl (i + 1)), x, y]) dX8_pullsOne_50 rfl (by decide) rfl ?_
      refine Go_goto (pc := 53) (tgt := 28) dX8_pullsOne_53 (by decide) ?_
      exact Go_M (by rw [stoodR_s _ _ i0]) (ih (by omega) _ _)
  refine Go_aload_n (pc := 0) dX8_pullsOne_0 rfl (by decide) rfl ?_
  refine Go_iload_n (pc := 1) dX8_pullsOne_1 rfl rfl ?_
  refine Go_invV (pc := 2) (y := yX8_isString) (avs := [.inl j]) (k := 16) (rest := []) (x := .inl (b2i (0 ≤ j ∧ j < M 17 1)))  (d' := d - 1) dX8_pullsOne_2 ln_X8_73 mo_X8_isString vo_X8_isString rfl (rc_16) rfl rfl (Nat.le_of_ble_eq_true rfl) (by omega) (Nat.le_of_ble_eq_true rfl) rfl (s_X8_isString (by omega) (by omega) hW) ?_
  refine Go_ifeqB (pc := 5) (tgt := 23) dX8_pullsOne_5 (by decide) (fun c5 => ?_) (fun c5 => ?_)
  · refine Go_ldc (pc := 23) (n := -1000001) rfl kc_X8_42 dX8_pullsOne_23 ?_
    exfalso; omega
  · refine Go_iload_n (pc := 8) dX8_pullsOne_8 rfl rfl ?_
    refine Go_bipush (pc := 9) dX8_pullsOne_9 (by decide) (by decide) ?_
    refine Go_bipush (pc := 11) dX8_pullsOne_11 (by decide) (by decide) ?_
    refine Go_invS (pc := 13) (y := yX8_in) (avs := [.inl z, .inl (-9), .inl 9]) (rest := []) (x := .inl (b2i ((-9) ≤ z ∧ z ≤ 9)))  (d' := d - 1) dX8_pullsOne_13 ln_X8_38 mo_X8_in so_X8_in rfl rfl rfl (Nat.le_of_ble_eq_true rfl) (by omega) (Nat.le_of_ble_eq_true rfl) rfl (s_X8_in (by omega) (by omega) (by decide) (by decide)) ?_
    refine Go_ifeqB (pc := 16) (tgt := 23) dX8_pullsOne_16 (by decide) (fun c16 => ?_) (fun c16 => ?_)
    · refine Go_ldc (pc := 23) (n := -1000001) rfl kc_X8_42 dX8_pullsOne_23 ?_
      exfalso; omega
    · refine Go_iload_n (pc := 19) dX8_pullsOne_19 rfl rfl ?_
      refine Go_if_ne (pc := 20) (tgt := 26) dX8_pullsOne_20 (by decide) (by omega) (fun c20 => ?_) (fun c20 => ?_)
      · refine Go_iconst (pc := 26) dX8_pullsOne_26 ?_
        refine Go_istore_n (pc := 27) (L' := [some (.inr 16), some (.inl j), some (.inl z), some (.inl 0), none, none]) dX8_pullsOne_27 rfl (by decide) rfl ?_
        exact Go_M (by rw [stoodR_0, setR_id]) (K1 0 (by omega) (by omega) _ _)
      · refine Go_ldc (pc := 23) (n := -1000001) rfl kc_X8_42 dX8_pullsOne_23 ?_
        exfalso; omega
