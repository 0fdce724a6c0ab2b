/-! the reference: the least pulls -/
theorem sumA_tail {x y : Int → Int} {a n : Int} (a0 : 0 ≤ a) (h : ∀ k, a ≤ k → k < n → x k = y k) (hn : a ≤ n) : sumA x n - sumA x a = sumA y n - sumA y a := by
  have H : ∀ m : Nat, a + (m : Int) ≤ n → sumA x (a + m) - sumA x a = sumA y (a + m) - sumA y a := by
    intro m
    induction m with
    | zero =>
      intro _
      rw [show a + ((0 : Nat) : Int) = a by omega]
      omega
    | succ m ih =>
      intro hm
      have e := ih (by omega)
      have e1 := sumA_s x (n := a + (m : Int)) (by omega)
      have e2 := sumA_s y (n := a + (m : Int)) (by omega)
      have e3 := h (a + m) (by omega) (by omega)
      rw [e3] at e1
      rw [show a + (((m + 1 : Nat) : Int)) = a + (m : Int) + 1 by omega]
      omega
  have := H (n - a).toNat (by omega)
  rw [show a + (((n - a).toNat : Nat) : Int) = n by omega] at this
  exact this
def cp4 (p t : Int → Int) : Int → Int := updI (updI (updI (updI p 0 (t 0)) 1 (t 1)) 2 (t 2)) 3 (t 3)
theorem cp4_agr (p t : Int → Int) {n : Int} (hn : n ≤ 4) : agr n (cp4 p t) t := by
  intro j h0 h1
  unfold cp4
  rcases (by omega : j = 0 ∨ j = 1 ∨ j = 2 ∨ j = 3) with e | e | e | e <;> subst e
  · rw [updI_n (by decide), updI_n (by decide), updI_n (by decide), updI_s]
  · rw [updI_n (by decide), updI_n (by decide), updI_s]
  · rw [updI_n (by decide), updI_s]
  · rw [updI_s]
theorem finds_dig {d : Nat} {M : gMem} (hW : Wf (M 17)) (A c : Int) : ∀ i, -1 ≤ i → i ≤ M 17 1 - 1 → ∀ (t : Int → Int) (rest sum : Int), 0 ≤ rest → rest < pwZ (i + 1) → (∀ j, i < j → j < M 17 1 → -9 ≤ t j ∧ t j ≤ 9) → (∀ w : Int → Int, (∀ k, i < k → k < M 17 1 → w k = t k) → codZ w (i + 1) = rest → codZ w (M 17 1) = c) → sum = sumA t (M 17 1) - sumA t (i + 1) → ∃ t', boxV (M 17 1) t' ∧ codZ t' (M 17 1) = c ∧ ∀ (p : Int → Int) (best : Int) (v : Option MV) (M' : gMem), (∀ x : Option MV, Go d RX8 cX8_finds 7 (some .int) 116 [some (.inr 16), some (.inl A), some (.inl best), some (.inl c), x, some (.inl (sumA t' (M 17 1))), some (.inl (-1))] [] (setR (setR M 24 p) 25 t') v M') → Go d RX8 cX8_finds 7 (some .int) 50 [some (.inr 16), some (.inl A), some (.inl best), some (.inl c), some (.inl rest), some (.inl sum), some (.inl i)] [] (setR (setR M 24 p) 25 t) v M' := by
  have ht := hW.t
  refine dn_ind (-1) (M 17 1 - 1) _ (fun i i0 i1 ih t rest sum r0 r1 hb hw hs => ?_)
  have hp := pwZ_b (n := i + 1) (by omega) (by omega)
  by_cases ci : i = -1
  · subst ci
    have rz : rest = 0 := by
      have : pwZ (-1 + 1) = 1 := rfl
      omega
    have cz : codZ t (-1 + 1) = 0 := rfl
    have sz : sumA t (-1 + 1) = 0 := rfl
    refine ⟨t, fun j p q => hb j (by omega) q, hw t (fun k _ _ => rfl) (by omega), fun p best v M' H => ?_⟩
    refine Go_iload (pc := 50) dX8_finds_50 rfl ?_
    refine Go_if_lt (pc := 52) (tgt := 116) dX8_finds_52 (by decide) (by decide) (fun _ => ?_) (fun q => absurd q (by decide))
    exact Go_LS (by rw [show sum = sumA t (M 17 1) by omega]) rfl (H _)
  · have hp2 := pwZ_s (i := i) (by omega)
    have es : sumA (updI t i (rest % 19 - 9)) (M 17 1) - sumA (updI t i (rest % 19 - 9)) (i + 1) = sumA t (M 17 1) - sumA t (i + 1) := sumA_tail (by omega) (fun k a b => updI_n (by omega)) (by omega)
    have e1 := sumA_s (updI t i (rest % 19 - 9)) (n := i) (by omega)
    rw [updI_s] at e1
    obtain ⟨t', b', c', G⟩ := ih (by omega) (updI t i (rest % 19 - 9)) (rest / 19) (sum + ((rest % 19 - 9).natAbs : Int)) (by omega) (by rw [show i - 1 + 1 = i by omega]; omega) (fun j a b => by
        by_cases z : j = i
        · rw [z, updI_s]; omega
        · rw [updI_n z]; exact hb j (by omega) b) (fun w hk hc => by
        rw [show i - 1 + 1 = i by omega] at hc
        refine hw w (fun k a b => ?_) ?_
        · rw [hk k (by omega) b, updI_n (by omega)]
        · have e := hk i (by omega) (by omega)
          rw [updI_s] at e
          rw [codZ_s w (by omega), hc, e]
          omega) (by rw [show i - 1 + 1 = i by omega]; omega)
    refine ⟨t', b', c', fun p best v M' H => ?_⟩
    have k := G p best v M' H
    refine Go_iload (pc := 50) dX8_finds_50 rfl ?_
    refine Go_if_lt (pc := 52) (tgt := 116) dX8_finds_52 (by decide) (by omega) (fun c52 => ?_) (fun c52 => ?_)
    · exfalso; omega
    · refine Go_aload_n (pc := 55) dX8_finds_55 rfl (by decide) rfl ?_
      refine Go_getr (pc := 56) (r := 25) dX8_finds_56 fo_X8_35 (by decide) rfl rfl (by decide) ?_
      refine Go_iload (pc := 59) dX8_finds_59 rfl ?_
      refine Go_iload (pc := 61) dX8_finds_61 rfl ?_
      refine Go_bipush (pc := 63) dX8_finds_63 (by decide) (by decide) ?_
      refine Go_irem (pc := 65) dX8_finds_65 (by omega) (by omega) (by omega) (by omega) ?_
      refine Go_bipush (pc := 66) dX8_finds_66 (by decide) (by decide) ?_
      refine Go_isub (pc := 68) dX8_finds_68 ?_
      refine Go_iastore (pc := 69) dX8_finds_69 (by decide) rfl (by omega) (by omega) ?_
      refine Go_M (M1 := setR (setR M 24 p) 25 (updI t i ((rest % 19) - 9))) (setR_top _ _ _ _ _) ?_
      refine Go_iload (pc := 70) dX8_finds_70 rfl ?_
      refine Go_bipush (pc := 72) dX8_finds_72 (by decide) (by decide) ?_
      refine Go_idiv (pc := 74) dX8_finds_74 (by omega) (by omega) (by omega) (by omega) ?_
      refine Go_istore (pc := 75) (L' := [some (.inr 16), some (.inl A), some (.inl best), some (.inl c), some (.inl (rest / 19)), some (.inl sum), some (.inl i)]) dX8_finds_75 (by decide) rfl ?_
      refine Go_iload (pc := 77) dX8_finds_77 rfl ?_
      refine Go_aload_n (pc := 79) dX8_finds_79 rfl (by decide) rfl ?_
      refine Go_getr (pc := 80) (r := 25) dX8_finds_80 fo_X8_35 (by decide) rfl rfl (by decide) ?_
      refine Go_iload (pc := 83) dX8_finds_83 rfl ?_
      refine Go_iaload (pc := 85) (z := (rest % 19) - 9) dX8_finds_85 (by decide) rfl (by omega) (by omega) (show (updI t i ((rest % 19) - 9)) i = ((rest % 19) - 9) from updI_s _ _ _) ?_
      refine Go_if_ge (pc := 86) (tgt := 100) dX8_finds_86 (by decide) (by omega) (fun c86 => ?_) (fun c86 => ?_)
      · refine Go_aload_n (pc := 100) dX8_finds_100 rfl (by decide) rfl ?_
        refine Go_getr (pc := 101) (r := 25) dX8_finds_101 fo_X8_35 (by decide) rfl rfl (by decide) ?_
        refine Go_iload (pc := 104) dX8_finds_104 rfl ?_
        refine Go_iaload (pc := 106) (z := (rest % 19) - 9) dX8_finds_106 (by decide) rfl (by omega) (by omega) (show (updI t i ((rest % 19) - 9)) i = ((rest % 19) - 9) from updI_s _ _ _) ?_
        refine Go_iadd (pc := 107) dX8_finds_107 ?_
        refine Go_istore (pc := 108) (L' := [some (.inr 16), some (.inl A), some (.inl best), some (.inl c), some (.inl (rest / 19)), some (.inl (sum + ((rest % 19) - 9))), some (.inl i)]) dX8_finds_108 (by decide) rfl ?_
        refine Go_iinc (pc := 110) (L' := [some (.inr 16), some (.inl A), some (.inl best), some (.inl c), some (.inl (rest / 19)), some (.inl (sum + ((rest % 19) - 9))), some (.inl (i + (-1)))]) dX8_finds_110 rfl (by decide) rfl ?_
        refine Go_goto (pc := 113) (tgt := 50) dX8_finds_113 (by decide) ?_
        refine Go_LS ?_ rfl k
        first | rw [show sum + ((rest % 19 - 9).natAbs : Int) = sum + -(rest % 19 - 9) by omega] | rw [show sum + ((rest % 19 - 9).natAbs : Int) = sum + (rest % 19 - 9) by omega]
        rfl
      · refine Go_aload_n (pc := 89) dX8_finds_89 rfl (by decide) rfl ?_
        refine Go_getr (pc := 90) (r := 25) dX8_finds_90 fo_X8_35 (by decide) rfl rfl (by decide) ?_
        refine Go_iload (pc := 93) dX8_finds_93 rfl ?_
        refine Go_iaload (pc := 95) (z := (rest % 19) - 9) dX8_finds_95 (by decide) rfl (by omega) (by omega) (show (updI t i ((rest % 19) - 9)) i = ((rest % 19) - 9) from updI_s _ _ _) ?_
        refine Go_ineg (pc := 96) dX8_finds_96 ?_
        refine Go_goto (pc := 97) (tgt := 107) dX8_finds_97 (by decide) ?_
        refine Go_iadd (pc := 107) dX8_finds_107 ?_
        refine Go_istore (pc := 108) (L' := [some (.inr 16), some (.inl A), some (.inl best), some (.inl c), some (.inl (rest / 19)), some (.inl (sum + (-((rest % 19) - 9)))), some (.inl i)]) dX8_finds_108 (by decide) rfl ?_
        refine Go_iinc (pc := 110) (L' := [some (.inr 16), some (.inl A), some (.inl best), some (.inl c), some (.inl (rest / 19)), some (.inl (sum + (-((rest % 19) - 9)))), some (.inl (i + (-1)))]) dX8_finds_110 rfl (by decide) rfl ?_
        refine Go_goto (pc := 113) (tgt := 50) dX8_finds_113 (by decide) ?_
        refine Go_LS ?_ rfl k
        first | rw [show sum + ((rest % 19 - 9).natAbs : Int) = sum + -(rest % 19 - 9) by omega] | rw [show sum + ((rest % 19 - 9).natAbs : Int) = sum + (rest % 19 - 9) by omega]
        rfl
theorem s_X8_finds {d : Nat} (hd : 6 ≤ d) {M : gMem} (hW : Wf (M 17)) : ∃ best p t, Go d RX8 cX8_finds 7 (some .int) 0 [some (.inr 16), none, none, none, none, none, none] [] M (some (.inl best)) (setR (setR M 24 p) 25 t) ∧ (best = -1 ∨ (0 ≤ best ∧ best ≤ 36)) ∧ LeP (M 17) (bsL best) p := by
  have ht := hW.t
  have hp := pwZ_b ht.1 ht.2
  have K : ∀ c, 0 ≤ c → c ≤ pwZ (M 17 1) → ∀ (p t : Int → Int) (best : Int), FI (M 17) (M 24) c best p → ∃ best2 p2 t2, (∀ x y z : Option MV, Go d RX8 cX8_finds 7 (some .int) 29 [some (.inr 16), some (.inl (pwZ (M 17 1))), some (.inl best), some (.inl c), x, y, z] [] (setR (setR M 24 p) 25 t) (some (.inl best2)) (setR (setR M 24 p2) 25 t2)) ∧ (best2 = -1 ∨ (0 ≤ best2 ∧ best2 ≤ 36)) ∧ LeP (M 17) (bsL best2) p2 := by
    refine up_ind 0 (pwZ (M 17 1)) _ (fun c c0 c1 ih p t best h => ?_)
    by_cases ce : c = pwZ (M 17 1)
    · subst ce
      refine ⟨best, p, t, fun x y z => ?_, h.1, FI_end hW h⟩
      generalize pwZ (M 17 1) = A at hp ⊢
      refine Go_iload_n (pc := 29) dX8_finds_29 rfl rfl ?_
      refine Go_iload_n (pc := 30) dX8_finds_30 rfl rfl ?_
      refine Go_icmp_ge (pc := 31) (tgt := 171) dX8_finds_31 (by decide) (by omega) (by omega) (fun c31 => ?_) (fun c31 => ?_)
      · refine Go_iload_n (pc := 171) dX8_finds_171 rfl rfl ?_
        exact Go_ireturn (pc := 172) dX8_finds_172 rfl (by first | rfl | (simp_all; done)) rfl
      · exfalso; omega
    · obtain ⟨t', b', c', G⟩ := finds_dig (d := d) hW (pwZ (M 17 1)) c (M 17 1 - 1) (by omega) (Int.le_refl _) t c 0 c0 (by rw [show M 17 1 - 1 + 1 = M 17 1 by omega]; omega) (fun j a b => by omega) (fun w _ e => by rw [show M 17 1 - 1 + 1 = M 17 1 by omega] at e; exact e) (by rw [show M 17 1 - 1 + 1 = M 17 1 by omega]; omega)
      have hb := h.1
      have hs := sumA_b9 ht.1 b'
      have h01 := okB_01 (M 17) t' (M 17 0)
      have P2 : ∃ best3 p3, FI (M 17) (M 24) (c + 1) best3 p3 ∧ ((0 ≤ best ∧ best ≤ sumA t' (M 17 1)) → best3 = best ∧ p3 = p) ∧ (¬ (0 ≤ best ∧ best ≤ sumA t' (M 17 1)) → okB (M 17) (M 17 0) t' = 0 → best3 = best ∧ p3 = p) ∧ (¬ (0 ≤ best ∧ best ≤ sumA t' (M 17 1)) → okB (M 17) (M 17 0) t' = 1 → best3 = sumA t' (M 17 1) ∧ p3 = cp4 p t') := by
        by_cases cA : 0 ≤ best ∧ best ≤ sumA t' (M 17 1)
        · exact ⟨best, p, FI_worse hW h b' c' cA, fun _ => ⟨rfl, rfl⟩, fun z => absurd cA z, fun z => absurd cA z⟩
        · rcases h01 with ⟨e, o⟩ | ⟨e, o⟩
          · exact ⟨_, _, FI_better hW h b' c' o (by omega) (cp4_agr p t' ht.2), fun z => absurd z cA, fun _ z => by omega, fun _ _ => ⟨rfl, rfl⟩⟩
          · exact ⟨best, p, FI_wrong hW h b' c' o, fun z => absurd z cA, fun _ _ => ⟨rfl, rfl⟩, fun _ z => by omega⟩
      obtain ⟨best3, p3, f3, z1, z2, z3⟩ := P2
      obtain ⟨best2, p2, t2, g, q⟩ := ih (by omega) p3 t' best3 f3
      refine ⟨best2, p2, t2, fun x y z => ?_, q⟩
      have hB : okB (M 17) (M 17 0) t' = 0 ∨ okB (M 17) (M 17 0) t' = 1 := by rcases h01 with ⟨a, _⟩ | ⟨a, _⟩ <;> omega
      clear h01
      have K116 : ∀ x : Option MV, Go d RX8 cX8_finds 7 (some .int) 116 [some (.inr 16), some (.inl (pwZ (M 17 1))), some (.inl best), some (.inl c), x, some (.inl (sumA t' (M 17 1))), some (.inl (-1))] [] (setR (setR M 24 p) 25 t') (some (.inl best2)) (setR (setR M 24 p2) 25 t2) := by
        intro x
        have g1 := fun y z => g x y z
        generalize pwZ (M 17 1) = A at hp g1 ⊢
        generalize hS : sumA t' (M 17 1) = S at hs g1 z1 z2 z3 ⊢
        refine Go_M (setR_cm M (show (24 : Nat) ≠ 25 by decide) p t') ?_
        refine Go_iload_n (pc := 116) dX8_finds_116 rfl rfl ?_
        refine Go_if_lt (pc := 117) (tgt := 126) dX8_finds_117 (by decide) (by omega) (fun c117 => ?_) (fun c117 => ?_)
        · refine Go_aload_n (pc := 126) dX8_finds_126 rfl (by decide) rfl ?_
          refine Go_invV (pc := 127) (y := yX8_isRight) (avs := []) (k := 16) (rest := []) (x := .inl (okB (M 17) (M 17 0) t'))  (d' := d - 1) dX8_finds_127 ln_X8_140 mo_X8_isRight vo_X8_isRight rfl (rc_16) rfl rfl (Nat.le_of_ble_eq_true rfl) (by omega) (Nat.le_of_ble_eq_true rfl) rfl (s_X8_isRight (by omega) hW b') ?_
          refine Go_if_eq (pc := 130) (tgt := 165) dX8_finds_130 (by decide) (by omega) (fun c130 => ?_) (fun c130 => ?_)
          · refine Go_iinc (pc := 165) (L' := [some (.inr 16), some (.inl A), some (.inl best), some (.inl (c + 1)), x, some (.inl S), some (.inl (-1))]) dX8_finds_165 rfl (by decide) rfl ?_
            refine Go_goto (pc := 168) (tgt := 29) dX8_finds_168 (by decide) ?_
            first | (exfalso; omega) | skip
            obtain ⟨e1, e2⟩ := (by first | exact z1 (by omega) | exact z2 (by omega) (by omega) | exact z3 (by omega) (by omega))
            rw [e1, e2] at g1
            exact Go_M (setR_cm M (show (25 : Nat) ≠ 24 by decide) t' _) (g1 _ _)
          · refine Go_iload (pc := 133) dX8_finds_133 rfl ?_
            refine Go_istore_n (pc := 135) (L' := [some (.inr 16), some (.inl A), some (.inl S), some (.inl c), x, some (.inl S), some (.inl (-1))]) dX8_finds_135 rfl (by decide) rfl ?_
            refine Go_iconst (pc := 136) dX8_finds_136 ?_
            refine Go_istore (pc := 137) (L' := [some (.inr 16), some (.inl A), some (.inl S), some (.inl c), x, some (.inl S), some (.inl 0)]) dX8_finds_137 (by decide) rfl ?_
            refine Go_iload (pc := 139) dX8_finds_139 rfl ?_
            refine Go_iconst (pc := 141) dX8_finds_141 ?_
            refine Go_icmp_ge (pc := 142) (tgt := 165) dX8_finds_142 (by decide) (by decide) (by decide) (fun q => absurd q (by decide)) (fun _ => ?_)
            refine Go_aload_n (pc := 145) dX8_finds_145 rfl (by decide) rfl ?_
            refine Go_getr (pc := 146) (r := 24) dX8_finds_146 fo_X8_32 (by decide) rfl rfl (by decide) ?_
            refine Go_iload (pc := 149) dX8_finds_149 rfl ?_
            refine Go_aload_n (pc := 151) dX8_finds_151 rfl (by decide) rfl ?_
            refine Go_getr (pc := 152) (r := 25) dX8_finds_152 fo_X8_35 (by decide) rfl rfl (by decide) ?_
            refine Go_iload (pc := 155) dX8_finds_155 rfl ?_
            refine Go_iaload (pc := 157) (z := t' 0) dX8_finds_157 (by decide) rfl (by decide) (by decide) (rfl) ?_
            refine Go_iastore (pc := 158) dX8_finds_158 (by decide) rfl (by decide) (by decide) ?_
            refine Go_M (M1 := setR (setR M 25 t') 24 (updI p 0 (t' 0))) (setR_top _ _ _ _ _) ?_
            refine Go_iinc (pc := 159) (L' := [some (.inr 16), some (.inl A), some (.inl S), some (.inl c), x, some (.inl S), some (.inl 1)]) dX8_finds_159 rfl (by decide) rfl ?_
            refine Go_goto (pc := 162) (tgt := 139) dX8_finds_162 (by decide) ?_
            refine Go_iload (pc := 139) dX8_finds_139 rfl ?_
            refine Go_iconst (pc := 141) dX8_finds_141 ?_
            refine Go_icmp_ge (pc := 142) (tgt := 165) dX8_finds_142 (by decide) (by decide) (by decide) (fun q => absurd q (by decide)) (fun _ => ?_)
            refine Go_aload_n (pc := 145) dX8_finds_145 rfl (by decide) rfl ?_
            refine Go_getr (pc := 146) (r := 24) dX8_finds_146 fo_X8_32 (by decide) rfl rfl (by decide) ?_
            refine Go_iload (pc := 149) dX8_finds_149 rfl ?_
            refine Go_aload_n (pc := 151) dX8_finds_151 rfl (by decide) rfl ?_
            refine Go_getr (pc := 152) (r := 25) dX8_finds_152 fo_X8_35 (by decide) rfl rfl (by decide) ?_
            refine Go_iload (pc := 155) dX8_finds_155 rfl ?_
            refine Go_iaload (pc := 157) (z := t' 1) dX8_finds_157 (by decide) rfl (by decide) (by decide) (rfl) ?_
            refine Go_iastore (pc := 158) dX8_finds_158 (by decide) rfl (by decide) (by decide) ?_
            refine Go_M (M1 := setR (setR M 25 t') 24 (updI (updI p 0 (t' 0)) 1 (t' 1))) (setR_top _ _ _ _ _) ?_
            refine Go_iinc (pc := 159) (L' := [some (.inr 16), some (.inl A), some (.inl S), some (.inl c), x, some (.inl S), some (.inl 2)]) dX8_finds_159 rfl (by decide) rfl ?_
            refine Go_goto (pc := 162) (tgt := 139) dX8_finds_162 (by decide) ?_
            refine Go_iload (pc := 139) dX8_finds_139 rfl ?_
            refine Go_iconst (pc := 141) dX8_finds_141 ?_
            refine Go_icmp_ge (pc := 142) (tgt := 165) dX8_finds_142 (by decide) (by decide) (by decide) (fun q => absurd q (by decide)) (fun _ => ?_)
            refine Go_aload_n (pc := 145) dX8_finds_145 rfl (by decide) rfl ?_
            refine Go_getr (pc := 146) (r := 24) dX8_finds_146 fo_X8_32 (by decide) rfl rfl (by decide) ?_
            refine Go_iload (pc := 149) dX8_finds_149 rfl ?_
            refine Go_aload_n (pc := 151) dX8_finds_151 rfl (by decide) rfl ?_
            refine Go_getr (pc := 152) (r := 25) dX8_finds_152 fo_X8_35 (by decide) rfl rfl (by decide) ?_
            refine Go_iload (pc := 155) dX8_finds_155 rfl ?_
            refine Go_iaload (pc := 157) (z := t' 2) dX8_finds_157 (by decide) rfl (by decide) (by decide) (rfl) ?_
            refine Go_iastore (pc := 158) dX8_finds_158 (by decide) rfl (by decide) (by decide) ?_
            refine Go_M (M1 := setR (setR M 25 t') 24 (updI (updI (updI p 0 (t' 0)) 1 (t' 1)) 2 (t' 2))) (setR_top _ _ _ _ _) ?_
            refine Go_iinc (pc := 159) (L' := [some (.inr 16), some (.inl A), some (.inl S), some (.inl c), x, some (.inl S), some (.inl 3)]) dX8_finds_159 rfl (by decide) rfl ?_
            refine Go_goto (pc := 162) (tgt := 139) dX8_finds_162 (by decide) ?_
            refine Go_iload (pc := 139) dX8_finds_139 rfl ?_
            refine Go_iconst (pc := 141) dX8_finds_141 ?_
            refine Go_icmp_ge (pc := 142) (tgt := 165) dX8_finds_142 (by decide) (by decide) (by decide) (fun q => absurd q (by decide)) (fun _ => ?_)
            refine Go_aload_n (pc := 145) dX8_finds_145 rfl (by decide) rfl ?_
            refine Go_getr (pc := 146) (r := 24) dX8_finds_146 fo_X8_32 (by decide) rfl rfl (by decide) ?_
            refine Go_iload (pc := 149) dX8_finds_149 rfl ?_
            refine Go_aload_n (pc := 151) dX8_finds_151 rfl (by decide) rfl ?_
            refine Go_getr (pc := 152) (r := 25) dX8_finds_152 fo_X8_35 (by decide) rfl rfl (by decide) ?_
            refine Go_iload (pc := 155) dX8_finds_155 rfl ?_
            refine Go_iaload (pc := 157) (z := t' 3) dX8_finds_157 (by decide) rfl (by decide) (by decide) (rfl) ?_
            refine Go_iastore (pc := 158) dX8_finds_158 (by decide) rfl (by decide) (by decide) ?_
            refine Go_M (M1 := setR (setR M 25 t') 24 (updI (updI (updI (updI p 0 (t' 0)) 1 (t' 1)) 2 (t' 2)) 3 (t' 3))) (setR_top _ _ _ _ _) ?_
            refine Go_iinc (pc := 159) (L' := [some (.inr 16), some (.inl A), some (.inl S), some (.inl c), x, some (.inl S), some (.inl 4)]) dX8_finds_159 rfl (by decide) rfl ?_
            refine Go_goto (pc := 162) (tgt := 139) dX8_finds_162 (by decide) ?_
            refine Go_iload (pc := 139) dX8_finds_139 rfl ?_
            refine Go_iconst (pc := 141) dX8_finds_141 ?_
            refine Go_icmp_ge (pc := 142) (tgt := 165) dX8_finds_142 (by decide) (by decide) (by decide) (fun _ => ?_) (fun q => absurd q (by decide))
            refine Go_iinc (pc := 165) (L' := [some (.inr 16), some (.inl A), some (.inl S), some (.inl (c + 1)), x, some (.inl S), some (.inl 4)]) dX8_finds_165 rfl (by decide) rfl ?_
            refine Go_goto (pc := 168) (tgt := 29) dX8_finds_168 (by decide) ?_
            first | (exfalso; omega) | skip
            obtain ⟨e1, e2⟩ := (by first | exact z1 (by omega) | exact z2 (by omega) (by omega) | exact z3 (by omega) (by omega))
            rw [e1, e2] at g1
            exact Go_M (setR_cm M (show (25 : Nat) ≠ 24 by decide) t' _) (g1 _ _)
        · refine Go_iload (pc := 120) dX8_finds_120 rfl ?_
          refine Go_iload_n (pc := 122) dX8_finds_122 rfl rfl ?_
          refine Go_icmp_ge (pc := 123) (tgt := 165) dX8_finds_123 (by decide) (by omega) (by omega) (fun c123 => ?_) (fun c123 => ?_)
          · refine Go_iinc (pc := 165) (L' := [some (.inr 16), some (.inl A), some (.inl best), some (.inl (c + 1)), x, some (.inl S), some (.inl (-1))]) dX8_finds_165 rfl (by decide) rfl ?_
            refine Go_goto (pc := 168) (tgt := 29) dX8_finds_168 (by decide) ?_
            first | (exfalso; omega) | skip
            obtain ⟨e1, e2⟩ := (by first | exact z1 (by omega) | exact z2 (by omega) (by omega) | exact z3 (by omega) (by omega))
            rw [e1, e2] at g1
            exact Go_M (setR_cm M (show (25 : Nat) ≠ 24 by decide) t' _) (g1 _ _)
          · refine Go_aload_n (pc := 126) dX8_finds_126 rfl (by decide) rfl ?_
            refine Go_invV (pc := 127) (y := yX8_isRight) (avs := []) (k := 16) (rest := []) (x := .inl (okB (M 17) (M 17 0) t'))  (d' := d - 1) dX8_finds_127 ln_X8_140 mo_X8_isRight vo_X8_isRight rfl (rc_16) rfl rfl (Nat.le_of_ble_eq_true rfl) (by omega) (Nat.le_of_ble_eq_true rfl) rfl (s_X8_isRight (by omega) hW b') ?_
            refine Go_if_eq (pc := 130) (tgt := 165) dX8_finds_130 (by decide) (by omega) (fun c130a => ?_) (fun c130a => ?_)
            · refine Go_iinc (pc := 165) (L' := [some (.inr 16), some (.inl A), some (.inl best), some (.inl (c + 1)), x, some (.inl S), some (.inl (-1))]) dX8_finds_165 rfl (by decide) rfl ?_
              refine Go_goto (pc := 168) (tgt := 29) dX8_finds_168 (by decide) ?_
              first | (exfalso; omega) | skip
              obtain ⟨e1, e2⟩ := (by first | exact z1 (by omega) | exact z2 (by omega) (by omega) | exact z3 (by omega) (by omega))
              rw [e1, e2] at g1
              exact Go_M (setR_cm M (show (25 : Nat) ≠ 24 by decide) t' _) (g1 _ _)
            · refine Go_iload (pc := 133) dX8_finds_133 rfl ?_
              refine Go_istore_n (pc := 135) (L' := [some (.inr 16), some (.inl A), some (.inl S), some (.inl c), x, some (.inl S), some (.inl (-1))]) dX8_finds_135 rfl (by decide) rfl ?_
              refine Go_iconst (pc := 136) dX8_finds_136 ?_
              refine Go_istore (pc := 137) (L' := [some (.inr 16), some (.inl A), some (.inl S), some (.inl c), x, some (.inl S), some (.inl 0)]) dX8_finds_137 (by decide) rfl ?_
              refine Go_iload (pc := 139) dX8_finds_139 rfl ?_
              refine Go_iconst (pc := 141) dX8_finds_141 ?_
              refine Go_icmp_ge (pc := 142) (tgt := 165) dX8_finds_142 (by decide) (by decide) (by decide) (fun q => absurd q (by decide)) (fun _ => ?_)
              refine Go_aload_n (pc := 145) dX8_finds_145 rfl (by decide) rfl ?_
              refine Go_getr (pc := 146) (r := 24) dX8_finds_146 fo_X8_32 (by decide) rfl rfl (by decide) ?_
              refine Go_iload (pc := 149) dX8_finds_149 rfl ?_
              refine Go_aload_n (pc := 151) dX8_finds_151 rfl (by decide) rfl ?_
              refine Go_getr (pc := 152) (r := 25) dX8_finds_152 fo_X8_35 (by decide) rfl rfl (by decide) ?_
              refine Go_iload (pc := 155) dX8_finds_155 rfl ?_
              refine Go_iaload (pc := 157) (z := t' 0) dX8_finds_157 (by decide) rfl (by decide) (by decide) (rfl) ?_
              refine Go_iastore (pc := 158) dX8_finds_158 (by decide) rfl (by decide) (by decide) ?_
              refine Go_M (M1 := setR (setR M 25 t') 24 (updI p 0 (t' 0))) (setR_top _ _ _ _ _) ?_
              refine Go_iinc (pc := 159) (L' := [some (.inr 16), some (.inl A), some (.inl S), some (.inl c), x, some (.inl S), some (.inl 1)]) dX8_finds_159 rfl (by decide) rfl ?_
              refine Go_goto (pc := 162) (tgt := 139) dX8_finds_162 (by decide) ?_
              refine Go_iload (pc := 139) dX8_finds_139 rfl ?_
              refine Go_iconst (pc := 141) dX8_finds_141 ?_
              refine Go_icmp_ge (pc := 142) (tgt := 165) dX8_finds_142 (by decide) (by decide) (by decide) (fun q => absurd q (by decide)) (fun _ => ?_)
              refine Go_aload_n (pc := 145) dX8_finds_145 rfl (by decide) rfl ?_
              refine Go_getr (pc := 146) (r := 24) dX8_finds_146 fo_X8_32 (by decide) rfl rfl (by decide) ?_
              refine Go_iload (pc := 149) dX8_finds_149 rfl ?_
              refine Go_aload_n (pc := 151) dX8_finds_151 rfl (by decide) rfl ?_
              refine Go_getr (pc := 152) (r := 25) dX8_finds_152 fo_X8_35 (by decide) rfl rfl (by decide) ?_
              refine Go_iload (pc := 155) dX8_finds_155 rfl ?_
              refine Go_iaload (pc := 157) (z := t' 1) dX8_finds_157 (by decide) rfl (by decide) (by decide) (rfl) ?_
              refine Go_iastore (pc := 158) dX8_finds_158 (by decide) rfl (by decide) (by decide) ?_
              refine Go_M (M1 := setR (setR M 25 t') 24 (updI (updI p 0 (t' 0)) 1 (t' 1))) (setR_top _ _ _ _ _) ?_
              refine Go_iinc (pc := 159) (L' := [some (.inr 16), some (.inl A), some (.inl S), some (.inl c), x, some (.inl S), some (.inl 2)]) dX8_finds_159 rfl (by decide) rfl ?_
              refine Go_goto (pc := 162) (tgt := 139) dX8_finds_162 (by decide) ?_
              refine Go_iload (pc := 139) dX8_finds_139 rfl ?_
              refine Go_iconst (pc := 141) dX8_finds_141 ?_
              refine Go_icmp_ge (pc := 142) (tgt := 165) dX8_finds_142 (by decide) (by decide) (by decide) (fun q => absurd q (by decide)) (fun _ => ?_)
              refine Go_aload_n (pc := 145) dX8_finds_145 rfl (by decide) rfl ?_
              refine Go_getr (pc := 146) (r := 24) dX8_finds_146 fo_X8_32 (by decide) rfl rfl (by decide) ?_
              refine Go_iload (pc := 149) dX8_finds_149 rfl ?_
              refine Go_aload_n (pc := 151) dX8_finds_151 rfl (by decide) rfl ?_
              refine Go_getr (pc := 152) (r := 25) dX8_finds_152 fo_X8_35 (by decide) rfl rfl (by decide) ?_
              refine Go_iload (pc := 155) dX8_finds_155 rfl ?_
              refine Go_iaload (pc := 157) (z := t' 2) dX8_finds_157 (by decide) rfl (by decide) (by decide) (rfl) ?_
              refine Go_iastore (pc := 158) dX8_finds_158 (by decide) rfl (by decide) (by decide) ?_
              refine Go_M (M1 := setR (setR M 25 t') 24 (updI (updI (updI p 0 (t' 0)) 1 (t' 1)) 2 (t' 2))) (setR_top _ _ _ _ _) ?_
              refine Go_iinc (pc := 159) (L' := [some (.inr 16), some (.inl A), some (.inl S), some (.inl c), x, some (.inl S), some (.inl 3)]) dX8_finds_159 rfl (by decide) rfl ?_
              refine Go_goto (pc := 162) (tgt := 139) dX8_finds_162 (by decide) ?_
              refine Go_iload (pc := 139) dX8_finds_139 rfl ?_
              refine Go_iconst (pc := 141) dX8_finds_141 ?_
              refine Go_icmp_ge (pc := 142) (tgt := 165) dX8_finds_142 (by decide) (by decide) (by decide) (fun q => absurd q (by decide)) (fun _ => ?_)
              refine Go_aload_n (pc := 145) dX8_finds_145 rfl (by decide) rfl ?_
              refine Go_getr (pc := 146) (r := 24) dX8_finds_146 fo_X8_32 (by decide) rfl rfl (by decide) ?_
              refine Go_iload (pc := 149) dX8_finds_149 rfl ?_
              refine Go_aload_n (pc := 151) dX8_finds_151 rfl (by decide) rfl ?_
              refine Go_getr (pc := 152) (r := 25) dX8_finds_152 fo_X8_35 (by decide) rfl rfl (by decide) ?_
              refine Go_iload (pc := 155) dX8_finds_155 rfl ?_
              refine Go_iaload (pc := 157) (z := t' 3) dX8_finds_157 (by decide) rfl (by decide) (by decide) (rfl) ?_
              refine Go_iastore (pc := 158) dX8_finds_158 (by decide) rfl (by decide) (by decide) ?_
              refine Go_M (M1 := setR (setR M 25 t') 24 (updI (updI (updI (updI p 0 (t' 0)) 1 (t' 1)) 2 (t' 2)) 3 (t' 3))) (setR_top _ _ _ _ _) ?_
              refine Go_iinc (pc := 159) (L' := [some (.inr 16), some (.inl A), some (.inl S), some (.inl c), x, some (.inl S), some (.inl 4)]) dX8_finds_159 rfl (by decide) rfl ?_
              refine Go_goto (pc := 162) (tgt := 139) dX8_finds_162 (by decide) ?_
              refine Go_iload (pc := 139) dX8_finds_139 rfl ?_
              refine Go_iconst (pc := 141) dX8_finds_141 ?_
              refine Go_icmp_ge (pc := 142) (tgt := 165) dX8_finds_142 (by decide) (by decide) (by decide) (fun _ => ?_) (fun q => absurd q (by decide))
              refine Go_iinc (pc := 165) (L' := [some (.inr 16), some (.inl A), some (.inl S), some (.inl (c + 1)), x, some (.inl S), some (.inl 4)]) dX8_finds_165 rfl (by decide) rfl ?_
              refine Go_goto (pc := 168) (tgt := 29) dX8_finds_168 (by decide) ?_
              first | (exfalso; omega) | skip
              obtain ⟨e1, e2⟩ := (by first | exact z1 (by omega) | exact z2 (by omega) (by omega) | exact z3 (by omega) (by omega))
              rw [e1, e2] at g1
              exact Go_M (setR_cm M (show (25 : Nat) ≠ 24 by decide) t' _) (g1 _ _)
      have G1 := G p best _ _ K116
      generalize pwZ (M 17 1) = A at hp G1 c1 ce ⊢
      refine Go_iload_n (pc := 29) dX8_finds_29 rfl rfl ?_
      refine Go_iload_n (pc := 30) dX8_finds_30 rfl rfl ?_
      refine Go_icmp_ge (pc := 31) (tgt := 171) dX8_finds_31 (by decide) (by omega) (by omega) (fun c31 => ?_) (fun c31 => ?_)
      · refine Go_iload_n (pc := 171) dX8_finds_171 rfl rfl ?_
        exfalso; omega
      · refine Go_iload_n (pc := 34) dX8_finds_34 rfl rfl ?_
        refine Go_istore (pc := 35) (L' := [some (.inr 16), some (.inl A), some (.inl best), some (.inl c), some (.inl c), y, z]) dX8_finds_35 (by decide) rfl ?_
        refine Go_iconst (pc := 37) dX8_finds_37 ?_
        refine Go_istore (pc := 38) (L' := [some (.inr 16), some (.inl A), some (.inl best), some (.inl c), some (.inl c), some (.inl 0), z]) dX8_finds_38 (by decide) rfl ?_
        refine Go_aload_n (pc := 40) dX8_finds_40 rfl (by decide) rfl ?_
        refine Go_getr (pc := 41) (r := 17) dX8_finds_41 fo_X8_7 (by decide) rfl rfl (by decide) ?_
        refine Go_iconst (pc := 44) dX8_finds_44 ?_
        refine Go_iaload (pc := 45) (z := M 17 1) dX8_finds_45 (by decide) rfl (by decide) (by decide) (rfl) ?_
        refine Go_iconst (pc := 46) dX8_finds_46 ?_
        refine Go_isub (pc := 47) dX8_finds_47 ?_
        refine Go_istore (pc := 48) (L' := [some (.inr 16), some (.inl A), some (.inl best), some (.inl c), some (.inl c), some (.inl 0), some (.inl ((M 17 1) - 1))]) dX8_finds_48 (by decide) rfl ?_
        exact G1
  obtain ⟨best2, p2, t2, g, q⟩ := K 0 (Int.le_refl 0) (by omega) (M 24) (M 25) (-1) (FI_0 hW _)
  refine ⟨best2, p2, t2, ?_, q⟩
  have g0 := g none none none
  have K0 : ∀ i, 0 ≤ i → i ≤ M 17 1 → Go d RX8 cX8_finds 7 (some .int) 4 [some (.inr 16), some (.inl (pwZ i)), some (.inl i), none, none, none, none] [] M (some (.inl best2)) (setR (setR M 24 p2) 25 t2) := by
    refine up_ind 0 (M 17 1) _ (fun i i0 i1 ih => ?_)
    rw [pwZ_s i0] at ih
    have eE : i = M 17 1 → pwZ (M 17 1) = pwZ i := fun e => by rw [e]
    generalize pwZ i = B at ih eE ⊢
    refine Go_iload_n (pc := 4) dX8_finds_4 rfl rfl ?_
    refine Go_aload_n (pc := 5) dX8_finds_5 rfl (by decide) rfl ?_
    refine Go_getr (pc := 6) (r := 17) dX8_finds_6 fo_X8_7 (by decide) rfl rfl (by decide) ?_
    refine Go_iconst (pc := 9) dX8_finds_9 ?_
    refine Go_iaload (pc := 10) (z := M 17 1) dX8_finds_10 (by decide) rfl (by decide) (by decide) (rfl) ?_
    refine Go_icmp_ge (pc := 11) (tgt := 25) dX8_finds_11 (by decide) (by omega) (by omega) (fun c11 => ?_) (fun c11 => ?_)
    · refine Go_iconst (pc := 25) dX8_finds_25 ?_
      refine Go_istore_n (pc := 26) (L' := [some (.inr 16), some (.inl B), some (.inl (-1)), none, none, none, none]) dX8_finds_26 rfl (by decide) rfl ?_
      refine Go_iconst (pc := 27) dX8_finds_27 ?_
      refine Go_istore_n (pc := 28) (L' := [some (.inr 16), some (.inl B), some (.inl (-1)), some (.inl 0), none, none, none]) dX8_finds_28 rfl (by decide) rfl ?_
      rw [eE (by omega)] at g0
      refine Go_M ?_ g0
      rw [setR_id, setR_id]
    · refine Go_iload_n (pc := 14) dX8_finds_14 rfl rfl ?_
      refine Go_bipush (pc := 15) dX8_finds_15 (by decide) (by decide) ?_
      refine Go_imul (pc := 17) dX8_finds_17 ?_
      refine Go_istore_n (pc := 18) (L' := [some (.inr 16), some (.inl (B * 19)), some (.inl i), none, none, none, none]) dX8_finds_18 rfl (by decide) rfl ?_
      refine Go_iinc (pc := 19) (L' := [some (.inr 16), some (.inl (B * 19)), some (.inl (i + 1)), none, none, none, none]) dX8_finds_19 rfl (by decide) rfl ?_
      refine Go_goto (pc := 22) (tgt := 4) dX8_finds_22 (by decide) ?_
      exact Go_LS (by rw [Int.mul_comm]) rfl (ih (by omega))
  refine Go_iconst (pc := 0) dX8_finds_0 ?_
  refine Go_istore_n (pc := 1) (L' := [some (.inr 16), some (.inl 1), none, none, none, none, none]) dX8_finds_1 rfl (by decide) rfl ?_
  refine Go_iconst (pc := 2) dX8_finds_2 ?_
  refine Go_istore_n (pc := 3) (L' := [some (.inr 16), some (.inl 1), some (.inl 0), none, none, none, none]) dX8_finds_3 rfl (by decide) rfl ?_
  exact K0 0 (by omega) (by omega)
theorem bsL_b {best : Int} (h : best = -1 ∨ (0 ≤ best ∧ best ≤ 36)) : (best < 0 → ¬ bsL best < 37) ∧ (¬ best < 0 → bsL best < 37 ∧ bsL best = best) := by
  unfold bsL
  split <;> omega
theorem s_X8_leastPulls {d : Nat} (hd : 8 ≤ d) {j : Int} {M : gMem} (hW : Wf (M 17)) (hj : inR j) : ∃ M' v, Go d RX8 cX8_leastPulls 3 (some .int) 0 [some (.inr 16), some (.inl j), none] [] M (some (.inl v)) M' ∧ (∀ k, k ≠ 24 → k ≠ 25 → M' k = M k) ∧ LPA (M 17) j v := by
  have ht := hW.t
  by_cases c : lpOk (M 17) j
  · obtain ⟨best, p, t, g, hb, lp⟩ := s_X8_finds (d := d - 1) (by omega) hW
    have bb := bsL_b hb
    refine ⟨setR (setR M 24 p) 25 t, lpW (bsL best) p j, ?_, fun k a b => by rw [setR_n b, setR_n a], Or.inr ⟨c, _, _, lp, rfl⟩⟩
    have w0 : best < 0 → lpW (bsL best) p j = -1000004 := fun h => if_neg (bb.1 h)
    have w1 : ¬ best < 0 → j = -1 → lpW (bsL best) p j = best := fun h e => by unfold lpW; rw [if_pos (bb.2 h).1, if_pos e, (bb.2 h).2]
    have w2 : ¬ best < 0 → ¬ j = -1 → lpW (bsL best) p j = p j + 100 := fun h e => by unfold lpW; rw [if_pos (bb.2 h).1, if_neg e]
    refine Go_iload_n (pc := 0) dX8_leastPulls_0 rfl rfl ?_
    refine Go_iconst (pc := 1) dX8_leastPulls_1 ?_
    refine Go_icmp_eq (pc := 2) (tgt := 16) dX8_leastPulls_2 (by decide) (by omega) (by decide) (fun c2 => ?_) (fun c2 => ?_)
    · refine Go_aload_n (pc := 16) dX8_leastPulls_16 rfl (by decide) rfl ?_
      refine Go_invV (pc := 17) (y := yX8_finds) (avs := []) (k := 16) (rest := []) (x := .inl best) (M1 := setR (setR M 24 p) 25 t) (d' := d - 1) dX8_leastPulls_17 ln_X8_144 mo_X8_finds vo_X8_finds rfl (rc_16) rfl rfl (Nat.le_of_ble_eq_true rfl) (by omega) (Nat.le_of_ble_eq_true rfl) rfl (g) ?_
      refine Go_istore_n (pc := 20) (L' := [some (.inr 16), some (.inl j), some (.inl best)]) dX8_leastPulls_20 rfl (by decide) rfl ?_
      refine Go_iload_n (pc := 21) dX8_leastPulls_21 rfl rfl ?_
      refine Go_if_ge (pc := 22) (tgt := 30) dX8_leastPulls_22 (by decide) (by omega) (fun c22 => ?_) (fun c22 => ?_)
      · refine Go_iload_n (pc := 30) dX8_leastPulls_30 rfl rfl ?_
        refine Go_iconst (pc := 31) dX8_leastPulls_31 ?_
        refine Go_icmp_ne (pc := 32) (tgt := 39) dX8_leastPulls_32 (by decide) (by omega) (by decide) (fun c32 => ?_) (fun c32 => ?_)
        · refine Go_aload_n (pc := 39) dX8_leastPulls_39 rfl (by decide) rfl ?_
          refine Go_getr (pc := 40) (r := 24) dX8_leastPulls_40 fo_X8_32 (by decide) rfl rfl (by decide) ?_
          refine Go_iload_n (pc := 43) dX8_leastPulls_43 rfl rfl ?_
          refine Go_iaload (pc := 44) (z := p j) dX8_leastPulls_44 (by decide) rfl (by omega) (by omega) (rfl) ?_
          refine Go_bipush (pc := 45) dX8_leastPulls_45 (by decide) (by decide) ?_
          refine Go_iadd (pc := 47) dX8_leastPulls_47 ?_
          first | (exfalso; omega) | exact Go_ireturn (pc := 48) dX8_leastPulls_48 rfl (by first | rw [w0 (by omega)] | rw [w1 (by omega) (by omega)] | rw [w2 (by omega) (by omega)]) rfl
        · refine Go_iload_n (pc := 35) dX8_leastPulls_35 rfl rfl ?_
          refine Go_goto (pc := 36) (tgt := 48) dX8_leastPulls_36 (by decide) ?_
          first | (exfalso; omega) | exact Go_ireturn (pc := 48) dX8_leastPulls_48 rfl (by first | rw [w0 (by omega)] | rw [w1 (by omega) (by omega)] | rw [w2 (by omega) (by omega)]) rfl
      · refine Go_ldc (pc := 25) (n := -1000004) rfl kc_X8_123 dX8_leastPulls_25 ?_
        refine Go_goto (pc := 27) (tgt := 48) dX8_leastPulls_27 (by decide) ?_
        first | (exfalso; omega) | exact Go_ireturn (pc := 48) dX8_leastPulls_48 rfl (by first | rw [w0 (by omega)] | rw [w1 (by omega) (by omega)] | rw [w2 (by omega) (by omega)]) rfl
    · refine Go_aload_n (pc := 5) dX8_leastPulls_5 rfl (by decide) rfl ?_
      refine Go_iload_n (pc := 6) dX8_leastPulls_6 rfl rfl ?_
      refine Go_invV (pc := 7) (y := yX8_isString) (avs := [.inl j]) (k := 16) (rest := []) (x := .inl (b2i (0 ≤ j ∧ j < M 17 1)))  (d' := d - 1) dX8_leastPulls_7 ln_X8_73 mo_X8_isString vo_X8_isString rfl (rc_16) rfl rfl (Nat.le_of_ble_eq_true rfl) (by omega) (Nat.le_of_ble_eq_true rfl) rfl (s_X8_isString (by omega) (by omega) hW) ?_
      refine Go_ifneB (pc := 10) (tgt := 16) dX8_leastPulls_10 (by decide) (fun c10 => ?_) (fun c10 => ?_)
      · refine Go_aload_n (pc := 16) dX8_leastPulls_16 rfl (by decide) rfl ?_
        refine Go_invV (pc := 17) (y := yX8_finds) (avs := []) (k := 16) (rest := []) (x := .inl best) (M1 := setR (setR M 24 p) 25 t) (d' := d - 1) dX8_leastPulls_17 ln_X8_144 mo_X8_finds vo_X8_finds rfl (rc_16) rfl rfl (Nat.le_of_ble_eq_true rfl) (by omega) (Nat.le_of_ble_eq_true rfl) rfl (g) ?_
        refine Go_istore_n (pc := 20) (L' := [some (.inr 16), some (.inl j), some (.inl best)]) dX8_leastPulls_20 rfl (by decide) rfl ?_
        refine Go_iload_n (pc := 21) dX8_leastPulls_21 rfl rfl ?_
        refine Go_if_ge (pc := 22) (tgt := 30) dX8_leastPulls_22 (by decide) (by omega) (fun c22a => ?_) (fun c22a => ?_)
        · refine Go_iload_n (pc := 30) dX8_leastPulls_30 rfl rfl ?_
          refine Go_iconst (pc := 31) dX8_leastPulls_31 ?_
          refine Go_icmp_ne (pc := 32) (tgt := 39) dX8_leastPulls_32 (by decide) (by omega) (by decide) (fun c32a => ?_) (fun c32a => ?_)
          · refine Go_aload_n (pc := 39) dX8_leastPulls_39 rfl (by decide) rfl ?_
            refine Go_getr (pc := 40) (r := 24) dX8_leastPulls_40 fo_X8_32 (by decide) rfl rfl (by decide) ?_
            refine Go_iload_n (pc := 43) dX8_leastPulls_43 rfl rfl ?_
            refine Go_iaload (pc := 44) (z := p j) dX8_leastPulls_44 (by decide) rfl (by omega) (by omega) (rfl) ?_
            refine Go_bipush (pc := 45) dX8_leastPulls_45 (by decide) (by decide) ?_
            refine Go_iadd (pc := 47) dX8_leastPulls_47 ?_
            first | (exfalso; omega) | exact Go_ireturn (pc := 48) dX8_leastPulls_48 rfl (by first | rw [w0 (by omega)] | rw [w1 (by omega) (by omega)] | rw [w2 (by omega) (by omega)]) rfl
          · refine Go_iload_n (pc := 35) dX8_leastPulls_35 rfl rfl ?_
            refine Go_goto (pc := 36) (tgt := 48) dX8_leastPulls_36 (by decide) ?_
            first | (exfalso; omega) | exact Go_ireturn (pc := 48) dX8_leastPulls_48 rfl (by first | rw [w0 (by omega)] | rw [w1 (by omega) (by omega)] | rw [w2 (by omega) (by omega)]) rfl
        · refine Go_ldc (pc := 25) (n := -1000004) rfl kc_X8_123 dX8_leastPulls_25 ?_
          refine Go_goto (pc := 27) (tgt := 48) dX8_leastPulls_27 (by decide) ?_
          first | (exfalso; omega) | exact Go_ireturn (pc := 48) dX8_leastPulls_48 rfl (by first | rw [w0 (by omega)] | rw [w1 (by omega) (by omega)] | rw [w2 (by omega) (by omega)]) rfl
      · refine Go_ldc (pc := 13) (n := -1000001) rfl kc_X8_42 dX8_leastPulls_13 ?_
        first | (exfalso; omega) | exact Go_ireturn (pc := 15) dX8_leastPulls_15 rfl (by first | rw [w0 (by omega)] | rw [w1 (by omega) (by omega)] | rw [w2 (by omega) (by omega)]) rfl
  · refine ⟨M, -1000001, ?_, fun k _ _ => rfl, Or.inl ⟨c, rfl⟩⟩
    refine Go_iload_n (pc := 0) dX8_leastPulls_0 rfl rfl ?_
    refine Go_iconst (pc := 1) dX8_leastPulls_1 ?_
    refine Go_icmp_eq (pc := 2) (tgt := 16) dX8_leastPulls_2 (by decide) (by omega) (by decide) (fun c2 => ?_) (fun c2 => ?_)
    · exfalso; omega
    · refine Go_aload_n (pc := 5) dX8_leastPulls_5 rfl (by decide) rfl ?_
      refine Go_iload_n (pc := 6) dX8_leastPulls_6 rfl rfl ?_
      refine Go_invV (pc := 7) (y := yX8_isString) (avs := [.inl j]) (k := 16) (rest := []) (x := .inl (b2i (0 ≤ j ∧ j < M 17 1)))  (d' := d - 1) dX8_leastPulls_7 ln_X8_73 mo_X8_isString vo_X8_isString rfl (rc_16) rfl rfl (Nat.le_of_ble_eq_true rfl) (by omega) (Nat.le_of_ble_eq_true rfl) rfl (s_X8_isString (by omega) (by omega) hW) ?_
      refine Go_ifneB (pc := 10) (tgt := 16) dX8_leastPulls_10 (by decide) (fun c10 => ?_) (fun c10 => ?_)
      · exfalso; omega
      · refine Go_ldc (pc := 13) (n := -1000001) rfl kc_X8_42 dX8_leastPulls_13 ?_
        exact Go_ireturn (pc := 15) dX8_leastPulls_15 rfl (by first | rfl | (simp_all; done)) rfl
