/-! rows that are copied whole; the history -/
theorem cpyI_0 (f g : Int → Int) (sp dp : Int) : cpyI f g sp dp 0 = g := by
  funext q
  unfold cpyI
  rw [if_neg (by omega)]
theorem cpyI_s (f g : Int → Int) {sp dp n : Int} (h : 0 ≤ n) : updI (cpyI f g sp dp n) (dp + n) (f (sp + n)) = cpyI f g sp dp (n + 1) := by
  funext q
  unfold cpyI updI
  by_cases e : q = dp + n
  · subst e
    rw [if_pos rfl, if_pos (by omega), show sp + (dp + n - dp) = sp + n by omega]
  · rw [if_neg e]
    show (if dp ≤ q ∧ q < dp + n then f (sp + (q - dp)) else g q) = _
    by_cases e2 : dp ≤ q ∧ q < dp + n
    · rw [if_pos e2, if_pos (by omega)]
    · rw [if_neg e2, if_neg (by omega)]
theorem cpyI_out (f g : Int → Int) {sp dp n q : Int} (h : ¬ (dp ≤ q ∧ q < dp + n)) : cpyI f g sp dp n q = g q := if_neg h
theorem cpyI_in (f g : Int → Int) {sp dp n q : Int} (h : dp ≤ q ∧ q < dp + n) : cpyI f g sp dp n q = f (sp + (q - dp)) := if_pos h
/-- nothing stands outside of the first 79 -/
def Oz (f : Int → Int) : Prop := ∀ q, q < 0 ∨ 79 ≤ q → f q = 0
theorem Wf.o {f : Int → Int} (h : Wf f) : Oz f := fun q hq => h.oz hq
theorem cpy_all {f g : Int → Int} (hf : Oz f) (hg : Oz g) : cpyI f g 0 0 79 = f := by
  funext q
  by_cases h : 0 ≤ q ∧ q < 0 + 79
  · rw [cpyI_in _ _ h, show 0 + (q - 0) = q by omega]
  · rw [cpyI_out _ _ h, hf q (by omega), hg q (by omega)]
theorem s_X8_keeps {d : Nat} (hd : 0 ≤ d) {M : gMem} (ha : Oz (M 17)) (hb : Oz (M 19)) : Go d RX8 cX8_keeps 2 none 0 [some (.inr 16), none] [] M none (setR M 19 (M 17)) := by
  have K : ∀ i, 0 ≤ i → i ≤ 79 → Go d RX8 cX8_keeps 2 none 2 [some (.inr 16), some (.inl i)] [] (setR M 19 (cpyI (M 17) (M 19) 0 0 i)) none (setR M 19 (M 17)) := by
    refine up_ind 0 79 _ (fun i h0 h1 ih => ?_)
    refine Go_iload_n (pc := 2) dX8_keeps_2 rfl rfl ?_
    refine Go_bipush (pc := 3) dX8_keeps_3 (by decide) (by decide) ?_
    refine Go_icmp_ge (pc := 5) (tgt := 26) dX8_keeps_5 (by decide) (by omega) (by decide) (fun c5 => ?_) (fun c5 => ?_)
    · exact Go_return (pc := 26) dX8_keeps_26 rfl rfl (by rw [show i = 79 by omega, cpy_all ha hb])
    · refine Go_aload_n (pc := 8) dX8_keeps_8 rfl (by decide) rfl ?_
      refine Go_getr (pc := 9) (r := 19) dX8_keeps_9 fo_X8_16 (by decide) rfl rfl (by decide) ?_
      refine Go_iload_n (pc := 12) dX8_keeps_12 rfl rfl ?_
      refine Go_aload_n (pc := 13) dX8_keeps_13 rfl (by decide) rfl ?_
      refine Go_getr (pc := 14) (r := 17) dX8_keeps_14 fo_X8_7 (by decide) rfl rfl (by decide) ?_
      refine Go_iload_n (pc := 17) dX8_keeps_17 rfl rfl ?_
      refine Go_iaload (pc := 18) (z := M 17 i) dX8_keeps_18 (by decide) rfl (by omega) (by omega) (rfl) ?_
      refine Go_iastore (pc := 19) dX8_keeps_19 (by decide) rfl (by omega) (by omega) ?_
      refine Go_M (M1 := setR M 19 (updI (cpyI (M 17) (M 19) 0 0 i) i (M 17 i))) (setR_top _ _ _ _ _) ?_
      refine Go_iinc (pc := 20) (L' := [some (.inr 16), some (.inl (i + 1))]) dX8_keeps_20 rfl (by decide) rfl ?_
      refine Go_goto (pc := 23) (tgt := 2) dX8_keeps_23 (by decide) ?_
      have e := cpyI_s (M 17) (M 19) (sp := 0) (dp := 0) h0
      rw [show (0 : Int) + i = i by omega] at e
      exact Go_M (by rw [e]) (ih (by omega))
  refine Go_iconst (pc := 0) dX8_keeps_0 ?_
  refine Go_istore_n (pc := 1) (L' := [some (.inr 16), some (.inl 0)]) dX8_keeps_1 rfl (by decide) rfl ?_
  exact Go_M (by rw [cpyI_0, setR_id]) (K 0 (by omega) (by omega))
theorem s_X8_puts {d : Nat} (hd : 0 ≤ d) {M : gMem} (ha : Oz (M 17)) (hb : Oz (M 20)) : Go d RX8 cX8_puts 2 none 0 [some (.inr 16), none] [] M none (setR M 20 (M 17)) := by
  have K : ∀ i, 0 ≤ i → i ≤ 79 → Go d RX8 cX8_puts 2 none 2 [some (.inr 16), some (.inl i)] [] (setR M 20 (cpyI (M 17) (M 20) 0 0 i)) none (setR M 20 (M 17)) := by
    refine up_ind 0 79 _ (fun i h0 h1 ih => ?_)
    refine Go_iload_n (pc := 2) dX8_puts_2 rfl rfl ?_
    refine Go_bipush (pc := 3) dX8_puts_3 (by decide) (by decide) ?_
    refine Go_icmp_ge (pc := 5) (tgt := 26) dX8_puts_5 (by decide) (by omega) (by decide) (fun c5 => ?_) (fun c5 => ?_)
    · exact Go_return (pc := 26) dX8_puts_26 rfl rfl (by rw [show i = 79 by omega, cpy_all ha hb])
    · refine Go_aload_n (pc := 8) dX8_puts_8 rfl (by decide) rfl ?_
      refine Go_getr (pc := 9) (r := 20) dX8_puts_9 fo_X8_19 (by decide) rfl rfl (by decide) ?_
      refine Go_iload_n (pc := 12) dX8_puts_12 rfl rfl ?_
      refine Go_aload_n (pc := 13) dX8_puts_13 rfl (by decide) rfl ?_
      refine Go_getr (pc := 14) (r := 17) dX8_puts_14 fo_X8_7 (by decide) rfl rfl (by decide) ?_
      refine Go_iload_n (pc := 17) dX8_puts_17 rfl rfl ?_
      refine Go_iaload (pc := 18) (z := M 17 i) dX8_puts_18 (by decide) rfl (by omega) (by omega) (rfl) ?_
      refine Go_iastore (pc := 19) dX8_puts_19 (by decide) rfl (by omega) (by omega) ?_
      refine Go_M (M1 := setR M 20 (updI (cpyI (M 17) (M 20) 0 0 i) i (M 17 i))) (setR_top _ _ _ _ _) ?_
      refine Go_iinc (pc := 20) (L' := [some (.inr 16), some (.inl (i + 1))]) dX8_puts_20 rfl (by decide) rfl ?_
      refine Go_goto (pc := 23) (tgt := 2) dX8_puts_23 (by decide) ?_
      have e := cpyI_s (M 17) (M 20) (sp := 0) (dp := 0) h0
      rw [show (0 : Int) + i = i by omega] at e
      exact Go_M (by rw [e]) (ih (by omega))
  refine Go_iconst (pc := 0) dX8_puts_0 ?_
  refine Go_istore_n (pc := 1) (L' := [some (.inr 16), some (.inl 0)]) dX8_puts_1 rfl (by decide) rfl ?_
  exact Go_M (by rw [cpyI_0, setR_id]) (K 0 (by omega) (by omega))
theorem s_X8_restores {d : Nat} (hd : 0 ≤ d) {M : gMem} (ha : Oz (M 20)) (hb : Oz (M 17)) : Go d RX8 cX8_restores 2 none 0 [some (.inr 16), none] [] M none (setR M 17 (M 20)) := by
  have K : ∀ i, 0 ≤ i → i ≤ 79 → Go d RX8 cX8_restores 2 none 2 [some (.inr 16), some (.inl i)] [] (setR M 17 (cpyI (M 20) (M 17) 0 0 i)) none (setR M 17 (M 20)) := by
    refine up_ind 0 79 _ (fun i h0 h1 ih => ?_)
    refine Go_iload_n (pc := 2) dX8_restores_2 rfl rfl ?_
    refine Go_bipush (pc := 3) dX8_restores_3 (by decide) (by decide) ?_
    refine Go_icmp_ge (pc := 5) (tgt := 26) dX8_restores_5 (by decide) (by omega) (by decide) (fun c5 => ?_) (fun c5 => ?_)
    · exact Go_return (pc := 26) dX8_restores_26 rfl rfl (by rw [show i = 79 by omega, cpy_all ha hb])
    · refine Go_aload_n (pc := 8) dX8_restores_8 rfl (by decide) rfl ?_
      refine Go_getr (pc := 9) (r := 17) dX8_restores_9 fo_X8_7 (by decide) rfl rfl (by decide) ?_
      refine Go_iload_n (pc := 12) dX8_restores_12 rfl rfl ?_
      refine Go_aload_n (pc := 13) dX8_restores_13 rfl (by decide) rfl ?_
      refine Go_getr (pc := 14) (r := 20) dX8_restores_14 fo_X8_19 (by decide) rfl rfl (by decide) ?_
      refine Go_iload_n (pc := 17) dX8_restores_17 rfl rfl ?_
      refine Go_iaload (pc := 18) (z := M 20 i) dX8_restores_18 (by decide) rfl (by omega) (by omega) (rfl) ?_
      refine Go_iastore (pc := 19) dX8_restores_19 (by decide) rfl (by omega) (by omega) ?_
      refine Go_M (M1 := setR M 17 (updI (cpyI (M 20) (M 17) 0 0 i) i (M 20 i))) (setR_top _ _ _ _ _) ?_
      refine Go_iinc (pc := 20) (L' := [some (.inr 16), some (.inl (i + 1))]) dX8_restores_20 rfl (by decide) rfl ?_
      refine Go_goto (pc := 23) (tgt := 2) dX8_restores_23 (by decide) ?_
      have e := cpyI_s (M 20) (M 17) (sp := 0) (dp := 0) h0
      rw [show (0 : Int) + i = i by omega] at e
      exact Go_M (by rw [e]) (ih (by omega))
  refine Go_iconst (pc := 0) dX8_restores_0 ?_
  refine Go_istore_n (pc := 1) (L' := [some (.inr 16), some (.inl 0)]) dX8_restores_1 rfl (by decide) rfl ?_
  exact Go_M (by rw [cpyI_0, setR_id]) (K 0 (by omega) (by omega))
/-- a state goes into the history: the row, and how many there are -/
def hisN (n : Int) : Int := if n = 4 then 4 else n + 1
def hisR (w g : Int → Int) (n : Int) : Int → Int := if n = 4 then cpyI g (cpyI w w 79 0 237) 0 237 79 else cpyI g w 0 (79 * n) 79
theorem s_X8_acted {d : Nat} (hd : 0 ≤ d) {a : Int} {M : gMem} (ha : -1000001 < a) (ha2 : a < 2147483648) (hn : 0 ≤ M 16 4 ∧ M 16 4 ≤ 4) : Go d RX8 cX8_acted 3 (some .int) 0 [some (.inr 16), some (.inl a), none] [] M (some (.inl a)) (setR (setR M 18 (hisR (M 18) (M 19) (M 16 4))) 16 (updI (M 16) 4 (hisN (M 16 4)))) := by
  have K2 : ∀ (n : Int) (w : Int → Int), 0 ≤ n → n ≤ 3 → ∀ i, 0 ≤ i → i ≤ 79 → Go d RX8 cX8_acted 3 (some .int) 56 [some (.inr 16), some (.inl a), some (.inl i)] [] (setR (setR M 16 (updI (M 16) 4 n)) 18 (cpyI (M 19) w 0 (79 * n) i)) (some (.inl a)) (setR (setR M 18 (cpyI (M 19) w 0 (79 * n) 79)) 16 (updI (M 16) 4 (n + 1))) := by
    intro n w n0 n1
    refine up_ind 0 79 _ (fun i h0 h1 ih => ?_)
    refine Go_iload_n (pc := 56) dX8_acted_56 rfl rfl ?_
    refine Go_bipush (pc := 57) dX8_acted_57 (by decide) (by decide) ?_
    refine Go_icmp_ge (pc := 59) (tgt := 88) dX8_acted_59 (by decide) (by omega) (by decide) (fun c59 => ?_) (fun c59 => ?_)
    · refine Go_aload_n (pc := 88) dX8_acted_88 rfl (by decide) rfl ?_
      refine Go_dup (pc := 89) dX8_acted_89 ?_
      refine Go_geti (pc := 90) (z := n) dX8_acted_90 fo_X8_43 (by decide) rfl rfl (show (updI (M 16) 4 n) 4 = n from updI_s _ _ _) ?_
      refine Go_iconst (pc := 93) dX8_acted_93 ?_
      refine Go_iadd (pc := 94) dX8_acted_94 ?_
      refine Go_puti (pc := 95) dX8_acted_95 fw_X8_43 (by decide) rfl rfl ?_
      refine Go_M (M1 := setR (setR M 18 (cpyI (M 19) w 0 (79 * n) i)) 16 (updI (updI (M 16) 4 n) 4 (n + 1))) (by funext q; simp only [setR]; (repeat' split) <;> first | rfl | omega | simp_all) ?_
      refine Go_iload_n (pc := 98) dX8_acted_98 rfl rfl ?_
      exact Go_ireturn (pc := 99) dX8_acted_99 rfl rfl (by rw [show i = 79 by omega, updI_tw])
    · refine Go_aload_n (pc := 62) dX8_acted_62 rfl (by decide) rfl ?_
      refine Go_getr (pc := 63) (r := 18) dX8_acted_63 fo_X8_13 (by decide) rfl rfl (by decide) ?_
      refine Go_bipush (pc := 66) dX8_acted_66 (by decide) (by decide) ?_
      refine Go_aload_n (pc := 68) dX8_acted_68 rfl (by decide) rfl ?_
      refine Go_geti (pc := 69) (z := n) dX8_acted_69 fo_X8_43 (by decide) rfl rfl (show (updI (M 16) 4 n) 4 = n from updI_s _ _ _) ?_
      refine Go_imul (pc := 72) dX8_acted_72 ?_
      refine Go_iload_n (pc := 73) dX8_acted_73 rfl rfl ?_
      refine Go_iadd (pc := 74) dX8_acted_74 ?_
      refine Go_aload_n (pc := 75) dX8_acted_75 rfl (by decide) rfl ?_
      refine Go_getr (pc := 76) (r := 19) dX8_acted_76 fo_X8_16 (by decide) rfl rfl (by decide) ?_
      refine Go_iload_n (pc := 79) dX8_acted_79 rfl rfl ?_
      refine Go_iaload (pc := 80) (z := M 19 i) dX8_acted_80 (by decide) rfl (by omega) (by omega) (rfl) ?_
      refine Go_iastore (pc := 81) dX8_acted_81 (by decide) rfl (by omega) (by omega) ?_
      refine Go_M (M1 := setR (setR M 16 (updI (M 16) 4 n)) 18 (updI (cpyI (M 19) w 0 (79 * n) i) ((79 * n) + i) (M 19 i))) (setR_top _ _ _ _ _) ?_
      refine Go_iinc (pc := 82) (L' := [some (.inr 16), some (.inl a), some (.inl (i + 1))]) dX8_acted_82 rfl (by decide) rfl ?_
      refine Go_goto (pc := 85) (tgt := 56) dX8_acted_85 (by decide) ?_
      have e := cpyI_s (M 19) w (sp := 0) (dp := 79 * n) h0
      rw [show (0 : Int) + i = i by omega] at e
      exact Go_M (by rw [e]) (ih (by omega))
  have K1 : M 16 4 = 4 → ∀ i, 0 ≤ i → i ≤ 237 → Go d RX8 cX8_acted 3 (some .int) 16 [some (.inr 16), some (.inl a), some (.inl i)] [] (setR M 18 (cpyI (M 18) (M 18) 79 0 i)) (some (.inl a)) (setR (setR M 18 (hisR (M 18) (M 19) (M 16 4))) 16 (updI (M 16) 4 (hisN (M 16 4)))) := by
    intro h4
    refine up_ind 0 237 _ (fun i h0 h1 ih => ?_)
    have er : cpyI (M 18) (M 18) 79 0 i (i + 79) = M 18 (79 + i) := by rw [cpyI_out _ _ (by omega), Int.add_comm]
    refine Go_iload_n (pc := 16) dX8_acted_16 rfl rfl ?_
    refine Go_sipush (pc := 17) dX8_acted_17 (by decide) (by decide) ?_
    refine Go_icmp_ge (pc := 20) (tgt := 44) dX8_acted_20 (by decide) (by omega) (by decide) (fun c20 => ?_) (fun c20 => ?_)
    · refine Go_aload_n (pc := 44) dX8_acted_44 rfl (by decide) rfl ?_
      refine Go_dup (pc := 45) dX8_acted_45 ?_
      refine Go_geti (pc := 46) (z := M 16 4) dX8_acted_46 fo_X8_43 (by decide) rfl rfl (rfl) ?_
      refine Go_iconst (pc := 49) dX8_acted_49 ?_
      refine Go_isub (pc := 50) dX8_acted_50 ?_
      refine Go_puti (pc := 51) dX8_acted_51 fw_X8_43 (by decide) rfl rfl ?_
      refine Go_M (M1 := setR (setR M 18 (cpyI (M 18) (M 18) 79 0 i)) 16 (updI (M 16) 4 ((M 16 4) - 1))) rfl ?_
      refine Go_iconst (pc := 54) dX8_acted_54 ?_
      refine Go_istore_n (pc := 55) (L' := [some (.inr 16), some (.inl a), some (.inl 0)]) dX8_acted_55 rfl (by decide) rfl ?_
      have e2 : M 16 4 - 1 = 3 := by omega
      refine Go_M ?_ (Go_v rfl ?_ (K2 3 (cpyI (M 18) (M 18) 79 0 237) (by omega) (by omega) 0 (by omega) (by omega)))
      · rw [show i = 237 by omega, e2, cpyI_0, setR_cm _ (by decide)]
      · unfold hisR hisN
        rw [h4, if_pos rfl, if_pos rfl, show (79 : Int) * 3 = 237 from rfl, show (3 : Int) + 1 = 4 from rfl]
    · refine Go_aload_n (pc := 23) dX8_acted_23 rfl (by decide) rfl ?_
      refine Go_getr (pc := 24) (r := 18) dX8_acted_24 fo_X8_13 (by decide) rfl rfl (by decide) ?_
      refine Go_iload_n (pc := 27) dX8_acted_27 rfl rfl ?_
      refine Go_aload_n (pc := 28) dX8_acted_28 rfl (by decide) rfl ?_
      refine Go_getr (pc := 29) (r := 18) dX8_acted_29 fo_X8_13 (by decide) rfl rfl (by decide) ?_
      refine Go_iload_n (pc := 32) dX8_acted_32 rfl rfl ?_
      refine Go_bipush (pc := 33) dX8_acted_33 (by decide) (by decide) ?_
      refine Go_iadd (pc := 35) dX8_acted_35 ?_
      refine Go_iaload (pc := 36) (z := (cpyI (M 18) (M 18) 79 0 i) (i + 79)) dX8_acted_36 (by decide) rfl (by omega) (by omega) (rfl) ?_
      refine Go_iastore (pc := 37) dX8_acted_37 (by decide) rfl (by omega) (by omega) ?_
      refine Go_M (M1 := setR M 18 (updI (cpyI (M 18) (M 18) 79 0 i) i ((cpyI (M 18) (M 18) 79 0 i) (i + 79)))) (setR_top _ _ _ _ _) ?_
      refine Go_iinc (pc := 38) (L' := [some (.inr 16), some (.inl a), some (.inl (i + 1))]) dX8_acted_38 rfl (by decide) rfl ?_
      refine Go_goto (pc := 41) (tgt := 16) dX8_acted_41 (by decide) ?_
      have e := cpyI_s (M 18) (M 18) (sp := 79) (dp := 0) h0
      rw [show (0 : Int) + i = i by omega] at e
      exact Go_M (by rw [er, e]) (ih (by omega))
  refine Go_iload_n (pc := 0) dX8_acted_0 rfl rfl ?_
  refine Go_ldc (pc := 1) (n := -1000001) rfl kc_X8_42 dX8_acted_1 ?_
  refine Go_icmp_le (pc := 3) (tgt := 98) dX8_acted_3 (by decide) (by first | omega | decide) (by decide) (fun c3 => ?_) (fun c3 => ?_)
  · refine Go_iload_n (pc := 98) dX8_acted_98 rfl rfl ?_
    omega
  · refine Go_aload_n (pc := 6) dX8_acted_6 rfl (by decide) rfl ?_
    refine Go_geti (pc := 7) (z := M 16 4) dX8_acted_7 fo_X8_43 (by decide) rfl rfl (rfl) ?_
    refine Go_iconst (pc := 10) dX8_acted_10 ?_
    refine Go_icmp_ne (pc := 11) (tgt := 54) dX8_acted_11 (by decide) (by first | omega | decide) (by decide) (fun c11 => ?_) (fun c11 => ?_)
    · refine Go_iconst (pc := 54) dX8_acted_54 ?_
      refine Go_istore_n (pc := 55) (L' := [some (.inr 16), some (.inl a), some (.inl 0)]) dX8_acted_55 rfl (by decide) rfl ?_
      refine Go_M ?_ (Go_v rfl ?_ (K2 (M 16 4) (M 18) (by omega) (by omega) 0 (by omega) (by omega)))
      · rw [cpyI_0, updI_id, setR_id, setR_id]
      · unfold hisR hisN
        rw [if_neg (by omega), if_neg (by omega)]
    · refine Go_iconst (pc := 14) dX8_acted_14 ?_
      refine Go_istore_n (pc := 15) (L' := [some (.inr 16), some (.inl a), some (.inl 0)]) dX8_acted_15 rfl (by decide) rfl ?_
      exact Go_M (by rw [cpyI_0, setR_id]) (K1 (by omega) 0 (by omega) (by omega))
theorem s_X8_acted_no {d : Nat} (hd : 0 ≤ d) {a : Int} {M : gMem} (ha : a ≤ -1000001) (ha2 : -2147483648 ≤ a) : Go d RX8 cX8_acted 3 (some .int) 0 [some (.inr 16), some (.inl a), none] [] M (some (.inl a)) M := by
  refine Go_iload_n (pc := 0) dX8_acted_0 rfl rfl ?_
  refine Go_ldc (pc := 1) (n := -1000001) rfl kc_X8_42 dX8_acted_1 ?_
  refine Go_icmp_le (pc := 3) (tgt := 98) dX8_acted_3 (by decide) (by omega) (by decide) (fun c3 => ?_) (fun c3 => ?_)
  · refine Go_iload_n (pc := 98) dX8_acted_98 rfl rfl ?_
    exact Go_ireturn (pc := 99) dX8_acted_99 rfl (by first | rfl | (simp_all; done)) rfl
  · omega
