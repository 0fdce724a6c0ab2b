/-! the reference: an order is read -/
def sgF (f : Int → Int) (n p : Int) : Int := if p < n then f p else -1
theorem sg_c {f : Int → Int} {n p : Int} (h : TxOk f n) (p0 : 0 ≤ p) : (p < n ∧ sgF f n p = f p ∧ cT f n p = f p ∧ 32 ≤ f p ∧ f p ≤ 126) ∨ (n ≤ p ∧ sgF f n p = -1 ∧ cT f n p = 0) := by
  by_cases c : p < n
  · exact Or.inl ⟨c, if_pos c, cT_in p0 c, h.2 p p0 c⟩
  · exact Or.inr ⟨by omega, if_neg c, cT_out (by omega)⟩
theorem s_X8_sign {d : Nat} (hd : 0 ≤ d) {n p : Int} {M : gMem} (h6 : M 16 6 = n) (h7 : M 16 7 = p) (h : TxOk (M 21) n) (p0 : 0 ≤ p) (p1 : p ≤ 1000) : Go d RX8 cX8_sign 1 (some .int) 0 [some (.inr 16)] [] M (some (.inl (sgF (M 21) n p))) M := by
  subst h6
  subst h7
  have hn := h.1
  have hs := sg_c h p0
  refine Go_aload_n (pc := 0) dX8_sign_0 rfl (by decide) rfl ?_
  refine Go_geti (pc := 1) (z := M 16 7) dX8_sign_1 fo_X8_159 (by decide) rfl rfl (rfl) ?_
  refine Go_aload_n (pc := 4) dX8_sign_4 rfl (by decide) rfl ?_
  refine Go_geti (pc := 5) (z := M 16 6) dX8_sign_5 fo_X8_156 (by decide) rfl rfl (rfl) ?_
  refine Go_icmp_ge (pc := 8) (tgt := 23) dX8_sign_8 (by decide) (by omega) (by omega) (fun c8 => ?_) (fun c8 => ?_)
  · refine Go_iconst (pc := 23) dX8_sign_23 ?_
    exact Go_ireturn (pc := 24) dX8_sign_24 rfl (by unfold sgF; first | rw [if_pos (by omega)] | rw [if_neg (by omega)]) rfl
  · refine Go_aload_n (pc := 11) dX8_sign_11 rfl (by decide) rfl ?_
    refine Go_getr (pc := 12) (r := 21) dX8_sign_12 fo_X8_22 (by decide) rfl rfl (by decide) ?_
    refine Go_aload_n (pc := 15) dX8_sign_15 rfl (by decide) rfl ?_
    refine Go_geti (pc := 16) (z := M 16 7) dX8_sign_16 fo_X8_159 (by decide) rfl rfl (rfl) ?_
    refine Go_caload (pc := 19) (z := M 21 (M 16 7)) dX8_sign_19 (by decide) rfl (by omega) (by omega) (rfl) ?_
    refine Go_goto (pc := 20) (tgt := 24) dX8_sign_20 (by decide) ?_
    exact Go_ireturn (pc := 24) dX8_sign_24 rfl (by unfold sgF; first | rw [if_pos (by omega)] | rw [if_neg (by omega)]) rfl
theorem s_X8_isWord_0 {d : Nat} (hd : 0 ≤ d) {n s : Int} {M : gMem} (h : TxOk (M 21) n) (s0 : 0 ≤ s) (s1 : s ≤ n) (h7 : M 16 7 = letE (M 21) n s) : Go d RX8 cX8_isWord 8 (some .boolean) 0 [some (.inr 16), some (.inl s), some (.inl 112), some (.inl 117), some (.inl 108), some (.inl 108), some (.inl 32), none] [] M (some (.inl (b2i (wd0 (M 21) n s)))) M := by
  have hn := h.1
  have hL := letE_b (f := M 21) (n := n) s1
  have e0 : letE (M 21) n s - s = 4 → cT (M 21) n (s + 0) = M 21 s := fun q => by rw [cT_in (by omega) (by omega)]; rw [Int.add_zero]
  have b0 := cT_b h (s + 0)
  have e1 : letE (M 21) n s - s = 4 → cT (M 21) n (s + 1) = M 21 (s + 1) := fun q => by rw [cT_in (by omega) (by omega)]
  have b1 := cT_b h (s + 1)
  have e2 : letE (M 21) n s - s = 4 → cT (M 21) n (s + 2) = M 21 (s + 2) := fun q => by rw [cT_in (by omega) (by omega)]
  have b2 := cT_b h (s + 2)
  have e3 : letE (M 21) n s - s = 4 → cT (M 21) n (s + 3) = M 21 (s + 3) := fun q => by rw [cT_in (by omega) (by omega)]
  have b3 := cT_b h (s + 3)
  refine Go_aload_n (pc := 0) dX8_isWord_0 rfl (by decide) rfl ?_
  refine Go_geti (pc := 1) (z := M 16 7) dX8_isWord_1 fo_X8_159 (by decide) rfl rfl (rfl) ?_
  refine Go_iload_n (pc := 4) dX8_isWord_4 rfl rfl ?_
  refine Go_isub (pc := 5) dX8_isWord_5 ?_
  refine Go_iload (pc := 6) dX8_isWord_6 rfl ?_
  refine Go_bipush (pc := 8) dX8_isWord_8 (by decide) (by decide) ?_
  refine Go_icmp_ne (pc := 10) (tgt := 17) dX8_isWord_10 (by decide) (by decide) (by decide) (fun q => absurd q (by decide)) (fun _ => ?_)
  refine Go_iconst (pc := 13) dX8_isWord_13 ?_
  refine Go_goto (pc := 14) (tgt := 18) dX8_isWord_14 (by decide) ?_
  refine Go_icmp_ne (pc := 18) (tgt := 25) dX8_isWord_18 (by decide) (by omega) (by decide) (fun c18 => ?_) (fun c18 => ?_)
  · refine Go_iconst (pc := 25) dX8_isWord_25 ?_
    refine Go_istore (pc := 26) (L' := [some (.inr 16), some (.inl s), some (.inl 112), some (.inl 117), some (.inl 108), some (.inl 108), some (.inl 32), some (.inl 0)]) dX8_isWord_26 (by decide) rfl ?_
    refine Go_iload (pc := 28) dX8_isWord_28 rfl ?_
    refine Go_if_eq (pc := 30) (tgt := 85) dX8_isWord_30 (by decide) (by decide) (fun _ => ?_) (fun q => absurd q (by decide))
    refine Go_iconst (pc := 85) dX8_isWord_85 ?_
    refine Go_istore (pc := 86) (L' := [some (.inr 16), some (.inl s), some (.inl 112), some (.inl 117), some (.inl 108), some (.inl 108), some (.inl 32), some (.inl 0)]) dX8_isWord_86 (by decide) rfl ?_
    refine Go_iload (pc := 88) dX8_isWord_88 rfl ?_
    refine Go_if_eq (pc := 90) (tgt := 117) dX8_isWord_90 (by decide) (by decide) (fun _ => ?_) (fun q => absurd q (by decide))
    refine Go_iconst (pc := 117) dX8_isWord_117 ?_
    exact Go_zreturn (pc := 118) dX8_isWord_118 rfl (by decide) (by first | rw [b2i_t (by omega)] | rw [b2i_f (by omega)]) rfl
  · refine Go_iconst (pc := 21) dX8_isWord_21 ?_
    refine Go_goto (pc := 22) (tgt := 26) dX8_isWord_22 (by decide) ?_
    refine Go_istore (pc := 26) (L' := [some (.inr 16), some (.inl s), some (.inl 112), some (.inl 117), some (.inl 108), some (.inl 108), some (.inl 32), some (.inl 1)]) dX8_isWord_26 (by decide) rfl ?_
    refine Go_iload (pc := 28) dX8_isWord_28 rfl ?_
    refine Go_if_eq (pc := 30) (tgt := 85) dX8_isWord_30 (by decide) (by decide) (fun q => absurd q (by decide)) (fun _ => ?_)
    refine Go_aload_n (pc := 33) dX8_isWord_33 rfl (by decide) rfl ?_
    refine Go_getr (pc := 34) (r := 21) dX8_isWord_34 fo_X8_22 (by decide) rfl rfl (by decide) ?_
    refine Go_iload_n (pc := 37) dX8_isWord_37 rfl rfl ?_
    refine Go_caload (pc := 38) (z := M 21 s) dX8_isWord_38 (by decide) rfl (by omega) (by omega) (rfl) ?_
    refine Go_iload_n (pc := 39) dX8_isWord_39 rfl rfl ?_
    refine Go_icmp_ne (pc := 40) (tgt := 85) dX8_isWord_40 (by decide) (by omega) (by decide) (fun c40 => ?_) (fun c40 => ?_)
    · refine Go_iconst (pc := 85) dX8_isWord_85 ?_
      refine Go_istore (pc := 86) (L' := [some (.inr 16), some (.inl s), some (.inl 112), some (.inl 117), some (.inl 108), some (.inl 108), some (.inl 32), some (.inl 0)]) dX8_isWord_86 (by decide) rfl ?_
      refine Go_iload (pc := 88) dX8_isWord_88 rfl ?_
      refine Go_if_eq (pc := 90) (tgt := 117) dX8_isWord_90 (by decide) (by decide) (fun _ => ?_) (fun q => absurd q (by decide))
      refine Go_iconst (pc := 117) dX8_isWord_117 ?_
      exact Go_zreturn (pc := 118) dX8_isWord_118 rfl (by decide) (by first | rw [b2i_t (by omega)] | rw [b2i_f (by omega)]) rfl
    · refine Go_aload_n (pc := 43) dX8_isWord_43 rfl (by decide) rfl ?_
      refine Go_getr (pc := 44) (r := 21) dX8_isWord_44 fo_X8_22 (by decide) rfl rfl (by decide) ?_
      refine Go_iload_n (pc := 47) dX8_isWord_47 rfl rfl ?_
      refine Go_iconst (pc := 48) dX8_isWord_48 ?_
      refine Go_iadd (pc := 49) dX8_isWord_49 ?_
      refine Go_caload (pc := 50) (z := M 21 (s + 1)) dX8_isWord_50 (by decide) rfl (by omega) (by omega) (rfl) ?_
      refine Go_iload_n (pc := 51) dX8_isWord_51 rfl rfl ?_
      refine Go_icmp_ne (pc := 52) (tgt := 85) dX8_isWord_52 (by decide) (by omega) (by decide) (fun c52 => ?_) (fun c52 => ?_)
      · refine Go_iconst (pc := 85) dX8_isWord_85 ?_
        refine Go_istore (pc := 86) (L' := [some (.inr 16), some (.inl s), some (.inl 112), some (.inl 117), some (.inl 108), some (.inl 108), some (.inl 32), some (.inl 0)]) dX8_isWord_86 (by decide) rfl ?_
        refine Go_iload (pc := 88) dX8_isWord_88 rfl ?_
        refine Go_if_eq (pc := 90) (tgt := 117) dX8_isWord_90 (by decide) (by decide) (fun _ => ?_) (fun q => absurd q (by decide))
        refine Go_iconst (pc := 117) dX8_isWord_117 ?_
        exact Go_zreturn (pc := 118) dX8_isWord_118 rfl (by decide) (by first | rw [b2i_t (by omega)] | rw [b2i_f (by omega)]) rfl
      · refine Go_aload_n (pc := 55) dX8_isWord_55 rfl (by decide) rfl ?_
        refine Go_getr (pc := 56) (r := 21) dX8_isWord_56 fo_X8_22 (by decide) rfl rfl (by decide) ?_
        refine Go_iload_n (pc := 59) dX8_isWord_59 rfl rfl ?_
        refine Go_iconst (pc := 60) dX8_isWord_60 ?_
        refine Go_iadd (pc := 61) dX8_isWord_61 ?_
        refine Go_caload (pc := 62) (z := M 21 (s + 2)) dX8_isWord_62 (by decide) rfl (by omega) (by omega) (rfl) ?_
        refine Go_iload (pc := 63) dX8_isWord_63 rfl ?_
        refine Go_icmp_ne (pc := 65) (tgt := 85) dX8_isWord_65 (by decide) (by omega) (by decide) (fun c65 => ?_) (fun c65 => ?_)
        · refine Go_iconst (pc := 85) dX8_isWord_85 ?_
          refine Go_istore (pc := 86) (L' := [some (.inr 16), some (.inl s), some (.inl 112), some (.inl 117), some (.inl 108), some (.inl 108), some (.inl 32), some (.inl 0)]) dX8_isWord_86 (by decide) rfl ?_
          refine Go_iload (pc := 88) dX8_isWord_88 rfl ?_
          refine Go_if_eq (pc := 90) (tgt := 117) dX8_isWord_90 (by decide) (by decide) (fun _ => ?_) (fun q => absurd q (by decide))
          refine Go_iconst (pc := 117) dX8_isWord_117 ?_
          exact Go_zreturn (pc := 118) dX8_isWord_118 rfl (by decide) (by first | rw [b2i_t (by omega)] | rw [b2i_f (by omega)]) rfl
        · refine Go_aload_n (pc := 68) dX8_isWord_68 rfl (by decide) rfl ?_
          refine Go_getr (pc := 69) (r := 21) dX8_isWord_69 fo_X8_22 (by decide) rfl rfl (by decide) ?_
          refine Go_iload_n (pc := 72) dX8_isWord_72 rfl rfl ?_
          refine Go_iconst (pc := 73) dX8_isWord_73 ?_
          refine Go_iadd (pc := 74) dX8_isWord_74 ?_
          refine Go_caload (pc := 75) (z := M 21 (s + 3)) dX8_isWord_75 (by decide) rfl (by omega) (by omega) (rfl) ?_
          refine Go_iload (pc := 76) dX8_isWord_76 rfl ?_
          refine Go_icmp_ne (pc := 78) (tgt := 85) dX8_isWord_78 (by decide) (by omega) (by decide) (fun c78 => ?_) (fun c78 => ?_)
          · refine Go_iconst (pc := 85) dX8_isWord_85 ?_
            refine Go_istore (pc := 86) (L' := [some (.inr 16), some (.inl s), some (.inl 112), some (.inl 117), some (.inl 108), some (.inl 108), some (.inl 32), some (.inl 0)]) dX8_isWord_86 (by decide) rfl ?_
            refine Go_iload (pc := 88) dX8_isWord_88 rfl ?_
            refine Go_if_eq (pc := 90) (tgt := 117) dX8_isWord_90 (by decide) (by decide) (fun _ => ?_) (fun q => absurd q (by decide))
            refine Go_iconst (pc := 117) dX8_isWord_117 ?_
            exact Go_zreturn (pc := 118) dX8_isWord_118 rfl (by decide) (by first | rw [b2i_t (by omega)] | rw [b2i_f (by omega)]) rfl
          · refine Go_iconst (pc := 81) dX8_isWord_81 ?_
            refine Go_goto (pc := 82) (tgt := 86) dX8_isWord_82 (by decide) ?_
            refine Go_istore (pc := 86) (L' := [some (.inr 16), some (.inl s), some (.inl 112), some (.inl 117), some (.inl 108), some (.inl 108), some (.inl 32), some (.inl 1)]) dX8_isWord_86 (by decide) rfl ?_
            refine Go_iload (pc := 88) dX8_isWord_88 rfl ?_
            refine Go_if_eq (pc := 90) (tgt := 117) dX8_isWord_90 (by decide) (by decide) (fun q => absurd q (by decide)) (fun _ => ?_)
            refine Go_iload (pc := 93) dX8_isWord_93 rfl ?_
            refine Go_bipush (pc := 95) dX8_isWord_95 (by decide) (by decide) ?_
            refine Go_icmp_eq (pc := 97) (tgt := 113) dX8_isWord_97 (by decide) (by decide) (by decide) (fun _ => ?_) (fun q => absurd q (by decide))
            refine Go_iconst (pc := 113) dX8_isWord_113 ?_
            refine Go_goto (pc := 114) (tgt := 118) dX8_isWord_114 (by decide) ?_
            exact Go_zreturn (pc := 118) dX8_isWord_118 rfl (by decide) (by first | rw [b2i_t (by omega)] | rw [b2i_f (by omega)]) rfl
theorem s_X8_isWord_1 {d : Nat} (hd : 0 ≤ d) {n s : Int} {M : gMem} (h : TxOk (M 21) n) (s0 : 0 ≤ s) (s1 : s ≤ n) (h7 : M 16 7 = letE (M 21) n s) : Go d RX8 cX8_isWord 8 (some .boolean) 0 [some (.inr 16), some (.inl s), some (.inl 100), some (.inl 114), some (.inl 111), some (.inl 112), some (.inl 32), none] [] M (some (.inl (b2i (wd1 (M 21) n s)))) M := by
  have hn := h.1
  have hL := letE_b (f := M 21) (n := n) s1
  have e0 : letE (M 21) n s - s = 4 → cT (M 21) n (s + 0) = M 21 s := fun q => by rw [cT_in (by omega) (by omega)]; rw [Int.add_zero]
  have b0 := cT_b h (s + 0)
  have e1 : letE (M 21) n s - s = 4 → cT (M 21) n (s + 1) = M 21 (s + 1) := fun q => by rw [cT_in (by omega) (by omega)]
  have b1 := cT_b h (s + 1)
  have e2 : letE (M 21) n s - s = 4 → cT (M 21) n (s + 2) = M 21 (s + 2) := fun q => by rw [cT_in (by omega) (by omega)]
  have b2 := cT_b h (s + 2)
  have e3 : letE (M 21) n s - s = 4 → cT (M 21) n (s + 3) = M 21 (s + 3) := fun q => by rw [cT_in (by omega) (by omega)]
  have b3 := cT_b h (s + 3)
  refine Go_aload_n (pc := 0) dX8_isWord_0 rfl (by decide) rfl ?_
  refine Go_geti (pc := 1) (z := M 16 7) dX8_isWord_1 fo_X8_159 (by decide) rfl rfl (rfl) ?_
  refine Go_iload_n (pc := 4) dX8_isWord_4 rfl rfl ?_
  refine Go_isub (pc := 5) dX8_isWord_5 ?_
  refine Go_iload (pc := 6) dX8_isWord_6 rfl ?_
  refine Go_bipush (pc := 8) dX8_isWord_8 (by decide) (by decide) ?_
  refine Go_icmp_ne (pc := 10) (tgt := 17) dX8_isWord_10 (by decide) (by decide) (by decide) (fun q => absurd q (by decide)) (fun _ => ?_)
  refine Go_iconst (pc := 13) dX8_isWord_13 ?_
  refine Go_goto (pc := 14) (tgt := 18) dX8_isWord_14 (by decide) ?_
  refine Go_icmp_ne (pc := 18) (tgt := 25) dX8_isWord_18 (by decide) (by omega) (by decide) (fun c18 => ?_) (fun c18 => ?_)
  · refine Go_iconst (pc := 25) dX8_isWord_25 ?_
    refine Go_istore (pc := 26) (L' := [some (.inr 16), some (.inl s), some (.inl 100), some (.inl 114), some (.inl 111), some (.inl 112), some (.inl 32), some (.inl 0)]) dX8_isWord_26 (by decide) rfl ?_
    refine Go_iload (pc := 28) dX8_isWord_28 rfl ?_
    refine Go_if_eq (pc := 30) (tgt := 85) dX8_isWord_30 (by decide) (by decide) (fun _ => ?_) (fun q => absurd q (by decide))
    refine Go_iconst (pc := 85) dX8_isWord_85 ?_
    refine Go_istore (pc := 86) (L' := [some (.inr 16), some (.inl s), some (.inl 100), some (.inl 114), some (.inl 111), some (.inl 112), some (.inl 32), some (.inl 0)]) dX8_isWord_86 (by decide) rfl ?_
    refine Go_iload (pc := 88) dX8_isWord_88 rfl ?_
    refine Go_if_eq (pc := 90) (tgt := 117) dX8_isWord_90 (by decide) (by decide) (fun _ => ?_) (fun q => absurd q (by decide))
    refine Go_iconst (pc := 117) dX8_isWord_117 ?_
    exact Go_zreturn (pc := 118) dX8_isWord_118 rfl (by decide) (by first | rw [b2i_t (by omega)] | rw [b2i_f (by omega)]) rfl
  · refine Go_iconst (pc := 21) dX8_isWord_21 ?_
    refine Go_goto (pc := 22) (tgt := 26) dX8_isWord_22 (by decide) ?_
    refine Go_istore (pc := 26) (L' := [some (.inr 16), some (.inl s), some (.inl 100), some (.inl 114), some (.inl 111), some (.inl 112), some (.inl 32), some (.inl 1)]) dX8_isWord_26 (by decide) rfl ?_
    refine Go_iload (pc := 28) dX8_isWord_28 rfl ?_
    refine Go_if_eq (pc := 30) (tgt := 85) dX8_isWord_30 (by decide) (by decide) (fun q => absurd q (by decide)) (fun _ => ?_)
    refine Go_aload_n (pc := 33) dX8_isWord_33 rfl (by decide) rfl ?_
    refine Go_getr (pc := 34) (r := 21) dX8_isWord_34 fo_X8_22 (by decide) rfl rfl (by decide) ?_
    refine Go_iload_n (pc := 37) dX8_isWord_37 rfl rfl ?_
    refine Go_caload (pc := 38) (z := M 21 s) dX8_isWord_38 (by decide) rfl (by omega) (by omega) (rfl) ?_
    refine Go_iload_n (pc := 39) dX8_isWord_39 rfl rfl ?_
    refine Go_icmp_ne (pc := 40) (tgt := 85) dX8_isWord_40 (by decide) (by omega) (by decide) (fun c40 => ?_) (fun c40 => ?_)
    · refine Go_iconst (pc := 85) dX8_isWord_85 ?_
      refine Go_istore (pc := 86) (L' := [some (.inr 16), some (.inl s), some (.inl 100), some (.inl 114), some (.inl 111), some (.inl 112), some (.inl 32), some (.inl 0)]) dX8_isWord_86 (by decide) rfl ?_
      refine Go_iload (pc := 88) dX8_isWord_88 rfl ?_
      refine Go_if_eq (pc := 90) (tgt := 117) dX8_isWord_90 (by decide) (by decide) (fun _ => ?_) (fun q => absurd q (by decide))
      refine Go_iconst (pc := 117) dX8_isWord_117 ?_
      exact Go_zreturn (pc := 118) dX8_isWord_118 rfl (by decide) (by first | rw [b2i_t (by omega)] | rw [b2i_f (by omega)]) rfl
    · refine Go_aload_n (pc := 43) dX8_isWord_43 rfl (by decide) rfl ?_
      refine Go_getr (pc := 44) (r := 21) dX8_isWord_44 fo_X8_22 (by decide) rfl rfl (by decide) ?_
      refine Go_iload_n (pc := 47) dX8_isWord_47 rfl rfl ?_
      refine Go_iconst (pc := 48) dX8_isWord_48 ?_
      refine Go_iadd (pc := 49) dX8_isWord_49 ?_
      refine Go_caload (pc := 50) (z := M 21 (s + 1)) dX8_isWord_50 (by decide) rfl (by omega) (by omega) (rfl) ?_
      refine Go_iload_n (pc := 51) dX8_isWord_51 rfl rfl ?_
      refine Go_icmp_ne (pc := 52) (tgt := 85) dX8_isWord_52 (by decide) (by omega) (by decide) (fun c52 => ?_) (fun c52 => ?_)
      · refine Go_iconst (pc := 85) dX8_isWord_85 ?_
        refine Go_istore (pc := 86) (L' := [some (.inr 16), some (.inl s), some (.inl 100), some (.inl 114), some (.inl 111), some (.inl 112), some (.inl 32), some (.inl 0)]) dX8_isWord_86 (by decide) rfl ?_
        refine Go_iload (pc := 88) dX8_isWord_88 rfl ?_
        refine Go_if_eq (pc := 90) (tgt := 117) dX8_isWord_90 (by decide) (by decide) (fun _ => ?_) (fun q => absurd q (by decide))
        refine Go_iconst (pc := 117) dX8_isWord_117 ?_
        exact Go_zreturn (pc := 118) dX8_isWord_118 rfl (by decide) (by first | rw [b2i_t (by omega)] | rw [b2i_f (by omega)]) rfl
      · refine Go_aload_n (pc := 55) dX8_isWord_55 rfl (by decide) rfl ?_
        refine Go_getr (pc := 56) (r := 21) dX8_isWord_56 fo_X8_22 (by decide) rfl rfl (by decide) ?_
        refine Go_iload_n (pc := 59) dX8_isWord_59 rfl rfl ?_
        refine Go_iconst (pc := 60) dX8_isWord_60 ?_
        refine Go_iadd (pc := 61) dX8_isWord_61 ?_
        refine Go_caload (pc := 62) (z := M 21 (s + 2)) dX8_isWord_62 (by decide) rfl (by omega) (by omega) (rfl) ?_
        refine Go_iload (pc := 63) dX8_isWord_63 rfl ?_
        refine Go_icmp_ne (pc := 65) (tgt := 85) dX8_isWord_65 (by decide) (by omega) (by decide) (fun c65 => ?_) (fun c65 => ?_)
        · refine Go_iconst (pc := 85) dX8_isWord_85 ?_
          refine Go_istore (pc := 86) (L' := [some (.inr 16), some (.inl s), some (.inl 100), some (.inl 114), some (.inl 111), some (.inl 112), some (.inl 32), some (.inl 0)]) dX8_isWord_86 (by decide) rfl ?_
          refine Go_iload (pc := 88) dX8_isWord_88 rfl ?_
          refine Go_if_eq (pc := 90) (tgt := 117) dX8_isWord_90 (by decide) (by decide) (fun _ => ?_) (fun q => absurd q (by decide))
          refine Go_iconst (pc := 117) dX8_isWord_117 ?_
          exact Go_zreturn (pc := 118) dX8_isWord_118 rfl (by decide) (by first | rw [b2i_t (by omega)] | rw [b2i_f (by omega)]) rfl
        · refine Go_aload_n (pc := 68) dX8_isWord_68 rfl (by decide) rfl ?_
          refine Go_getr (pc := 69) (r := 21) dX8_isWord_69 fo_X8_22 (by decide) rfl rfl (by decide) ?_
          refine Go_iload_n (pc := 72) dX8_isWord_72 rfl rfl ?_
          refine Go_iconst (pc := 73) dX8_isWord_73 ?_
          refine Go_iadd (pc := 74) dX8_isWord_74 ?_
          refine Go_caload (pc := 75) (z := M 21 (s + 3)) dX8_isWord_75 (by decide) rfl (by omega) (by omega) (rfl) ?_
          refine Go_iload (pc := 76) dX8_isWord_76 rfl ?_
          refine Go_icmp_ne (pc := 78) (tgt := 85) dX8_isWord_78 (by decide) (by omega) (by decide) (fun c78 => ?_) (fun c78 => ?_)
          · refine Go_iconst (pc := 85) dX8_isWord_85 ?_
            refine Go_istore (pc := 86) (L' := [some (.inr 16), some (.inl s), some (.inl 100), some (.inl 114), some (.inl 111), some (.inl 112), some (.inl 32), some (.inl 0)]) dX8_isWord_86 (by decide) rfl ?_
            refine Go_iload (pc := 88) dX8_isWord_88 rfl ?_
            refine Go_if_eq (pc := 90) (tgt := 117) dX8_isWord_90 (by decide) (by decide) (fun _ => ?_) (fun q => absurd q (by decide))
            refine Go_iconst (pc := 117) dX8_isWord_117 ?_
            exact Go_zreturn (pc := 118) dX8_isWord_118 rfl (by decide) (by first | rw [b2i_t (by omega)] | rw [b2i_f (by omega)]) rfl
          · refine Go_iconst (pc := 81) dX8_isWord_81 ?_
            refine Go_goto (pc := 82) (tgt := 86) dX8_isWord_82 (by decide) ?_
            refine Go_istore (pc := 86) (L' := [some (.inr 16), some (.inl s), some (.inl 100), some (.inl 114), some (.inl 111), some (.inl 112), some (.inl 32), some (.inl 1)]) dX8_isWord_86 (by decide) rfl ?_
            refine Go_iload (pc := 88) dX8_isWord_88 rfl ?_
            refine Go_if_eq (pc := 90) (tgt := 117) dX8_isWord_90 (by decide) (by decide) (fun q => absurd q (by decide)) (fun _ => ?_)
            refine Go_iload (pc := 93) dX8_isWord_93 rfl ?_
            refine Go_bipush (pc := 95) dX8_isWord_95 (by decide) (by decide) ?_
            refine Go_icmp_eq (pc := 97) (tgt := 113) dX8_isWord_97 (by decide) (by decide) (by decide) (fun _ => ?_) (fun q => absurd q (by decide))
            refine Go_iconst (pc := 113) dX8_isWord_113 ?_
            refine Go_goto (pc := 114) (tgt := 118) dX8_isWord_114 (by decide) ?_
            exact Go_zreturn (pc := 118) dX8_isWord_118 rfl (by decide) (by first | rw [b2i_t (by omega)] | rw [b2i_f (by omega)]) rfl
theorem s_X8_isWord_2 {d : Nat} (hd : 0 ≤ d) {n s : Int} {M : gMem} (h : TxOk (M 21) n) (s0 : 0 ≤ s) (s1 : s ≤ n) (h7 : M 16 7 = letE (M 21) n s) : Go d RX8 cX8_isWord 8 (some .boolean) 0 [some (.inr 16), some (.inl s), some (.inl 117), some (.inl 110), some (.inl 116), some (.inl 105), some (.inl 101), none] [] M (some (.inl (b2i (wd2 (M 21) n s)))) M := by
  have hn := h.1
  have hL := letE_b (f := M 21) (n := n) s1
  have e0 : letE (M 21) n s - s = 5 → cT (M 21) n (s + 0) = M 21 s := fun q => by rw [cT_in (by omega) (by omega)]; rw [Int.add_zero]
  have b0 := cT_b h (s + 0)
  have e1 : letE (M 21) n s - s = 5 → cT (M 21) n (s + 1) = M 21 (s + 1) := fun q => by rw [cT_in (by omega) (by omega)]
  have b1 := cT_b h (s + 1)
  have e2 : letE (M 21) n s - s = 5 → cT (M 21) n (s + 2) = M 21 (s + 2) := fun q => by rw [cT_in (by omega) (by omega)]
  have b2 := cT_b h (s + 2)
  have e3 : letE (M 21) n s - s = 5 → cT (M 21) n (s + 3) = M 21 (s + 3) := fun q => by rw [cT_in (by omega) (by omega)]
  have b3 := cT_b h (s + 3)
  have e4 : letE (M 21) n s - s = 5 → cT (M 21) n (s + 4) = M 21 (s + 4) := fun q => by rw [cT_in (by omega) (by omega)]
  have b4 := cT_b h (s + 4)
  refine Go_aload_n (pc := 0) dX8_isWord_0 rfl (by decide) rfl ?_
  refine Go_geti (pc := 1) (z := M 16 7) dX8_isWord_1 fo_X8_159 (by decide) rfl rfl (rfl) ?_
  refine Go_iload_n (pc := 4) dX8_isWord_4 rfl rfl ?_
  refine Go_isub (pc := 5) dX8_isWord_5 ?_
  refine Go_iload (pc := 6) dX8_isWord_6 rfl ?_
  refine Go_bipush (pc := 8) dX8_isWord_8 (by decide) (by decide) ?_
  refine Go_icmp_ne (pc := 10) (tgt := 17) dX8_isWord_10 (by decide) (by decide) (by decide) (fun _ => ?_) (fun q => absurd q (by decide))
  refine Go_iconst (pc := 17) dX8_isWord_17 ?_
  refine Go_icmp_ne (pc := 18) (tgt := 25) dX8_isWord_18 (by decide) (by omega) (by decide) (fun c18 => ?_) (fun c18 => ?_)
  · refine Go_iconst (pc := 25) dX8_isWord_25 ?_
    refine Go_istore (pc := 26) (L' := [some (.inr 16), some (.inl s), some (.inl 117), some (.inl 110), some (.inl 116), some (.inl 105), some (.inl 101), some (.inl 0)]) dX8_isWord_26 (by decide) rfl ?_
    refine Go_iload (pc := 28) dX8_isWord_28 rfl ?_
    refine Go_if_eq (pc := 30) (tgt := 85) dX8_isWord_30 (by decide) (by decide) (fun _ => ?_) (fun q => absurd q (by decide))
    refine Go_iconst (pc := 85) dX8_isWord_85 ?_
    refine Go_istore (pc := 86) (L' := [some (.inr 16), some (.inl s), some (.inl 117), some (.inl 110), some (.inl 116), some (.inl 105), some (.inl 101), some (.inl 0)]) dX8_isWord_86 (by decide) rfl ?_
    refine Go_iload (pc := 88) dX8_isWord_88 rfl ?_
    refine Go_if_eq (pc := 90) (tgt := 117) dX8_isWord_90 (by decide) (by decide) (fun _ => ?_) (fun q => absurd q (by decide))
    refine Go_iconst (pc := 117) dX8_isWord_117 ?_
    exact Go_zreturn (pc := 118) dX8_isWord_118 rfl (by decide) (by first | rw [b2i_t (by omega)] | rw [b2i_f (by omega)]) rfl
  · refine Go_iconst (pc := 21) dX8_isWord_21 ?_
    refine Go_goto (pc := 22) (tgt := 26) dX8_isWord_22 (by decide) ?_
    refine Go_istore (pc := 26) (L' := [some (.inr 16), some (.inl s), some (.inl 117), some (.inl 110), some (.inl 116), some (.inl 105), some (.inl 101), some (.inl 1)]) dX8_isWord_26 (by decide) rfl ?_
    refine Go_iload (pc := 28) dX8_isWord_28 rfl ?_
    refine Go_if_eq (pc := 30) (tgt := 85) dX8_isWord_30 (by decide) (by decide) (fun q => absurd q (by decide)) (fun _ => ?_)
    refine Go_aload_n (pc := 33) dX8_isWord_33 rfl (by decide) rfl ?_
    refine Go_getr (pc := 34) (r := 21) dX8_isWord_34 fo_X8_22 (by decide) rfl rfl (by decide) ?_
    refine Go_iload_n (pc := 37) dX8_isWord_37 rfl rfl ?_
    refine Go_caload (pc := 38) (z := M 21 s) dX8_isWord_38 (by decide) rfl (by omega) (by omega) (rfl) ?_
    refine Go_iload_n (pc := 39) dX8_isWord_39 rfl rfl ?_
    refine Go_icmp_ne (pc := 40) (tgt := 85) dX8_isWord_40 (by decide) (by omega) (by decide) (fun c40 => ?_) (fun c40 => ?_)
    · refine Go_iconst (pc := 85) dX8_isWord_85 ?_
      refine Go_istore (pc := 86) (L' := [some (.inr 16), some (.inl s), some (.inl 117), some (.inl 110), some (.inl 116), some (.inl 105), some (.inl 101), some (.inl 0)]) dX8_isWord_86 (by decide) rfl ?_
      refine Go_iload (pc := 88) dX8_isWord_88 rfl ?_
      refine Go_if_eq (pc := 90) (tgt := 117) dX8_isWord_90 (by decide) (by decide) (fun _ => ?_) (fun q => absurd q (by decide))
      refine Go_iconst (pc := 117) dX8_isWord_117 ?_
      exact Go_zreturn (pc := 118) dX8_isWord_118 rfl (by decide) (by first | rw [b2i_t (by omega)] | rw [b2i_f (by omega)]) rfl
    · refine Go_aload_n (pc := 43) dX8_isWord_43 rfl (by decide) rfl ?_
      refine Go_getr (pc := 44) (r := 21) dX8_isWord_44 fo_X8_22 (by decide) rfl rfl (by decide) ?_
      refine Go_iload_n (pc := 47) dX8_isWord_47 rfl rfl ?_
      refine Go_iconst (pc := 48) dX8_isWord_48 ?_
      refine Go_iadd (pc := 49) dX8_isWord_49 ?_
      refine Go_caload (pc := 50) (z := M 21 (s + 1)) dX8_isWord_50 (by decide) rfl (by omega) (by omega) (rfl) ?_
      refine Go_iload_n (pc := 51) dX8_isWord_51 rfl rfl ?_
      refine Go_icmp_ne (pc := 52) (tgt := 85) dX8_isWord_52 (by decide) (by omega) (by decide) (fun c52 => ?_) (fun c52 => ?_)
      · refine Go_iconst (pc := 85) dX8_isWord_85 ?_
        refine Go_istore (pc := 86) (L' := [some (.inr 16), some (.inl s), some (.inl 117), some (.inl 110), some (.inl 116), some (.inl 105), some (.inl 101), some (.inl 0)]) dX8_isWord_86 (by decide) rfl ?_
        refine Go_iload (pc := 88) dX8_isWord_88 rfl ?_
        refine Go_if_eq (pc := 90) (tgt := 117) dX8_isWord_90 (by decide) (by decide) (fun _ => ?_) (fun q => absurd q (by decide))
        refine Go_iconst (pc := 117) dX8_isWord_117 ?_
        exact Go_zreturn (pc := 118) dX8_isWord_118 rfl (by decide) (by first | rw [b2i_t (by omega)] | rw [b2i_f (by omega)]) rfl
      · refine Go_aload_n (pc := 55) dX8_isWord_55 rfl (by decide) rfl ?_
        refine Go_getr (pc := 56) (r := 21) dX8_isWord_56 fo_X8_22 (by decide) rfl rfl (by decide) ?_
        refine Go_iload_n (pc := 59) dX8_isWord_59 rfl rfl ?_
        refine Go_iconst (pc := 60) dX8_isWord_60 ?_
        refine Go_iadd (pc := 61) dX8_isWord_61 ?_
        refine Go_caload (pc := 62) (z := M 21 (s + 2)) dX8_isWord_62 (by decide) rfl (by omega) (by omega) (rfl) ?_
        refine Go_iload (pc := 63) dX8_isWord_63 rfl ?_
        refine Go_icmp_ne (pc := 65) (tgt := 85) dX8_isWord_65 (by decide) (by omega) (by decide) (fun c65 => ?_) (fun c65 => ?_)
        · refine Go_iconst (pc := 85) dX8_isWord_85 ?_
          refine Go_istore (pc := 86) (L' := [some (.inr 16), some (.inl s), some (.inl 117), some (.inl 110), some (.inl 116), some (.inl 105), some (.inl 101), some (.inl 0)]) dX8_isWord_86 (by decide) rfl ?_
          refine Go_iload (pc := 88) dX8_isWord_88 rfl ?_
          refine Go_if_eq (pc := 90) (tgt := 117) dX8_isWord_90 (by decide) (by decide) (fun _ => ?_) (fun q => absurd q (by decide))
          refine Go_iconst (pc := 117) dX8_isWord_117 ?_
          exact Go_zreturn (pc := 118) dX8_isWord_118 rfl (by decide) (by first | rw [b2i_t (by omega)] | rw [b2i_f (by omega)]) rfl
        · refine Go_aload_n (pc := 68) dX8_isWord_68 rfl (by decide) rfl ?_
          refine Go_getr (pc := 69) (r := 21) dX8_isWord_69 fo_X8_22 (by decide) rfl rfl (by decide) ?_
          refine Go_iload_n (pc := 72) dX8_isWord_72 rfl rfl ?_
          refine Go_iconst (pc := 73) dX8_isWord_73 ?_
          refine Go_iadd (pc := 74) dX8_isWord_74 ?_
          refine Go_caload (pc := 75) (z := M 21 (s + 3)) dX8_isWord_75 (by decide) rfl (by omega) (by omega) (rfl) ?_
          refine Go_iload (pc := 76) dX8_isWord_76 rfl ?_
          refine Go_icmp_ne (pc := 78) (tgt := 85) dX8_isWord_78 (by decide) (by omega) (by decide) (fun c78 => ?_) (fun c78 => ?_)
          · refine Go_iconst (pc := 85) dX8_isWord_85 ?_
            refine Go_istore (pc := 86) (L' := [some (.inr 16), some (.inl s), some (.inl 117), some (.inl 110), some (.inl 116), some (.inl 105), some (.inl 101), some (.inl 0)]) dX8_isWord_86 (by decide) rfl ?_
            refine Go_iload (pc := 88) dX8_isWord_88 rfl ?_
            refine Go_if_eq (pc := 90) (tgt := 117) dX8_isWord_90 (by decide) (by decide) (fun _ => ?_) (fun q => absurd q (by decide))
            refine Go_iconst (pc := 117) dX8_isWord_117 ?_
            exact Go_zreturn (pc := 118) dX8_isWord_118 rfl (by decide) (by first | rw [b2i_t (by omega)] | rw [b2i_f (by omega)]) rfl
          · refine Go_iconst (pc := 81) dX8_isWord_81 ?_
            refine Go_goto (pc := 82) (tgt := 86) dX8_isWord_82 (by decide) ?_
            refine Go_istore (pc := 86) (L' := [some (.inr 16), some (.inl s), some (.inl 117), some (.inl 110), some (.inl 116), some (.inl 105), some (.inl 101), some (.inl 1)]) dX8_isWord_86 (by decide) rfl ?_
            refine Go_iload (pc := 88) dX8_isWord_88 rfl ?_
            refine Go_if_eq (pc := 90) (tgt := 117) dX8_isWord_90 (by decide) (by decide) (fun q => absurd q (by decide)) (fun _ => ?_)
            refine Go_iload (pc := 93) dX8_isWord_93 rfl ?_
            refine Go_bipush (pc := 95) dX8_isWord_95 (by decide) (by decide) ?_
            refine Go_icmp_eq (pc := 97) (tgt := 113) dX8_isWord_97 (by decide) (by decide) (by decide) (fun q => absurd q (by decide)) (fun _ => ?_)
            refine Go_aload_n (pc := 100) dX8_isWord_100 rfl (by decide) rfl ?_
            refine Go_getr (pc := 101) (r := 21) dX8_isWord_101 fo_X8_22 (by decide) rfl rfl (by decide) ?_
            refine Go_iload_n (pc := 104) dX8_isWord_104 rfl rfl ?_
            refine Go_iconst (pc := 105) dX8_isWord_105 ?_
            refine Go_iadd (pc := 106) dX8_isWord_106 ?_
            refine Go_caload (pc := 107) (z := M 21 (s + 4)) dX8_isWord_107 (by decide) rfl (by omega) (by omega) (rfl) ?_
            refine Go_iload (pc := 108) dX8_isWord_108 rfl ?_
            refine Go_icmp_ne (pc := 110) (tgt := 117) dX8_isWord_110 (by decide) (by omega) (by decide) (fun c110 => ?_) (fun c110 => ?_)
            · refine Go_iconst (pc := 117) dX8_isWord_117 ?_
              exact Go_zreturn (pc := 118) dX8_isWord_118 rfl (by decide) (by first | rw [b2i_t (by omega)] | rw [b2i_f (by omega)]) rfl
            · refine Go_iconst (pc := 113) dX8_isWord_113 ?_
              refine Go_goto (pc := 114) (tgt := 118) dX8_isWord_114 (by decide) ?_
              exact Go_zreturn (pc := 118) dX8_isWord_118 rfl (by decide) (by first | rw [b2i_t (by omega)] | rw [b2i_f (by omega)]) rfl
theorem s_X8_isWord_3 {d : Nat} (hd : 0 ≤ d) {n s : Int} {M : gMem} (h : TxOk (M 21) n) (s0 : 0 ≤ s) (s1 : s ≤ n) (h7 : M 16 7 = letE (M 21) n s) : Go d RX8 cX8_isWord 8 (some .boolean) 0 [some (.inr 16), some (.inl s), some (.inl 116), some (.inl 101), some (.inl 108), some (.inl 108), some (.inl 32), none] [] M (some (.inl (b2i (wd3 (M 21) n s)))) M := by
  have hn := h.1
  have hL := letE_b (f := M 21) (n := n) s1
  have e0 : letE (M 21) n s - s = 4 → cT (M 21) n (s + 0) = M 21 s := fun q => by rw [cT_in (by omega) (by omega)]; rw [Int.add_zero]
  have b0 := cT_b h (s + 0)
  have e1 : letE (M 21) n s - s = 4 → cT (M 21) n (s + 1) = M 21 (s + 1) := fun q => by rw [cT_in (by omega) (by omega)]
  have b1 := cT_b h (s + 1)
  have e2 : letE (M 21) n s - s = 4 → cT (M 21) n (s + 2) = M 21 (s + 2) := fun q => by rw [cT_in (by omega) (by omega)]
  have b2 := cT_b h (s + 2)
  have e3 : letE (M 21) n s - s = 4 → cT (M 21) n (s + 3) = M 21 (s + 3) := fun q => by rw [cT_in (by omega) (by omega)]
  have b3 := cT_b h (s + 3)
  refine Go_aload_n (pc := 0) dX8_isWord_0 rfl (by decide) rfl ?_
  refine Go_geti (pc := 1) (z := M 16 7) dX8_isWord_1 fo_X8_159 (by decide) rfl rfl (rfl) ?_
  refine Go_iload_n (pc := 4) dX8_isWord_4 rfl rfl ?_
  refine Go_isub (pc := 5) dX8_isWord_5 ?_
  refine Go_iload (pc := 6) dX8_isWord_6 rfl ?_
  refine Go_bipush (pc := 8) dX8_isWord_8 (by decide) (by decide) ?_
  refine Go_icmp_ne (pc := 10) (tgt := 17) dX8_isWord_10 (by decide) (by decide) (by decide) (fun q => absurd q (by decide)) (fun _ => ?_)
  refine Go_iconst (pc := 13) dX8_isWord_13 ?_
  refine Go_goto (pc := 14) (tgt := 18) dX8_isWord_14 (by decide) ?_
  refine Go_icmp_ne (pc := 18) (tgt := 25) dX8_isWord_18 (by decide) (by omega) (by decide) (fun c18 => ?_) (fun c18 => ?_)
  · refine Go_iconst (pc := 25) dX8_isWord_25 ?_
    refine Go_istore (pc := 26) (L' := [some (.inr 16), some (.inl s), some (.inl 116), some (.inl 101), some (.inl 108), some (.inl 108), some (.inl 32), some (.inl 0)]) dX8_isWord_26 (by decide) rfl ?_
    refine Go_iload (pc := 28) dX8_isWord_28 rfl ?_
    refine Go_if_eq (pc := 30) (tgt := 85) dX8_isWord_30 (by decide) (by decide) (fun _ => ?_) (fun q => absurd q (by decide))
    refine Go_iconst (pc := 85) dX8_isWord_85 ?_
    refine Go_istore (pc := 86) (L' := [some (.inr 16), some (.inl s), some (.inl 116), some (.inl 101), some (.inl 108), some (.inl 108), some (.inl 32), some (.inl 0)]) dX8_isWord_86 (by decide) rfl ?_
    refine Go_iload (pc := 88) dX8_isWord_88 rfl ?_
    refine Go_if_eq (pc := 90) (tgt := 117) dX8_isWord_90 (by decide) (by decide) (fun _ => ?_) (fun q => absurd q (by decide))
    refine Go_iconst (pc := 117) dX8_isWord_117 ?_
    exact Go_zreturn (pc := 118) dX8_isWord_118 rfl (by decide) (by first | rw [b2i_t (by omega)] | rw [b2i_f (by omega)]) rfl
  · refine Go_iconst (pc := 21) dX8_isWord_21 ?_
    refine Go_goto (pc := 22) (tgt := 26) dX8_isWord_22 (by decide) ?_
    refine Go_istore (pc := 26) (L' := [some (.inr 16), some (.inl s), some (.inl 116), some (.inl 101), some (.inl 108), some (.inl 108), some (.inl 32), some (.inl 1)]) dX8_isWord_26 (by decide) rfl ?_
    refine Go_iload (pc := 28) dX8_isWord_28 rfl ?_
    refine Go_if_eq (pc := 30) (tgt := 85) dX8_isWord_30 (by decide) (by decide) (fun q => absurd q (by decide)) (fun _ => ?_)
    refine Go_aload_n (pc := 33) dX8_isWord_33 rfl (by decide) rfl ?_
    refine Go_getr (pc := 34) (r := 21) dX8_isWord_34 fo_X8_22 (by decide) rfl rfl (by decide) ?_
    refine Go_iload_n (pc := 37) dX8_isWord_37 rfl rfl ?_
    refine Go_caload (pc := 38) (z := M 21 s) dX8_isWord_38 (by decide) rfl (by omega) (by omega) (rfl) ?_
    refine Go_iload_n (pc := 39) dX8_isWord_39 rfl rfl ?_
    refine Go_icmp_ne (pc := 40) (tgt := 85) dX8_isWord_40 (by decide) (by omega) (by decide) (fun c40 => ?_) (fun c40 => ?_)
    · refine Go_iconst (pc := 85) dX8_isWord_85 ?_
      refine Go_istore (pc := 86) (L' := [some (.inr 16), some (.inl s), some (.inl 116), some (.inl 101), some (.inl 108), some (.inl 108), some (.inl 32), some (.inl 0)]) dX8_isWord_86 (by decide) rfl ?_
      refine Go_iload (pc := 88) dX8_isWord_88 rfl ?_
      refine Go_if_eq (pc := 90) (tgt := 117) dX8_isWord_90 (by decide) (by decide) (fun _ => ?_) (fun q => absurd q (by decide))
      refine Go_iconst (pc := 117) dX8_isWord_117 ?_
      exact Go_zreturn (pc := 118) dX8_isWord_118 rfl (by decide) (by first | rw [b2i_t (by omega)] | rw [b2i_f (by omega)]) rfl
    · refine Go_aload_n (pc := 43) dX8_isWord_43 rfl (by decide) rfl ?_
      refine Go_getr (pc := 44) (r := 21) dX8_isWord_44 fo_X8_22 (by decide) rfl rfl (by decide) ?_
      refine Go_iload_n (pc := 47) dX8_isWord_47 rfl rfl ?_
      refine Go_iconst (pc := 48) dX8_isWord_48 ?_
      refine Go_iadd (pc := 49) dX8_isWord_49 ?_
      refine Go_caload (pc := 50) (z := M 21 (s + 1)) dX8_isWord_50 (by decide) rfl (by omega) (by omega) (rfl) ?_
      refine Go_iload_n (pc := 51) dX8_isWord_51 rfl rfl ?_
      refine Go_icmp_ne (pc := 52) (tgt := 85) dX8_isWord_52 (by decide) (by omega) (by decide) (fun c52 => ?_) (fun c52 => ?_)
      · refine Go_iconst (pc := 85) dX8_isWord_85 ?_
        refine Go_istore (pc := 86) (L' := [some (.inr 16), some (.inl s), some (.inl 116), some (.inl 101), some (.inl 108), some (.inl 108), some (.inl 32), some (.inl 0)]) dX8_isWord_86 (by decide) rfl ?_
        refine Go_iload (pc := 88) dX8_isWord_88 rfl ?_
        refine Go_if_eq (pc := 90) (tgt := 117) dX8_isWord_90 (by decide) (by decide) (fun _ => ?_) (fun q => absurd q (by decide))
        refine Go_iconst (pc := 117) dX8_isWord_117 ?_
        exact Go_zreturn (pc := 118) dX8_isWord_118 rfl (by decide) (by first | rw [b2i_t (by omega)] | rw [b2i_f (by omega)]) rfl
      · refine Go_aload_n (pc := 55) dX8_isWord_55 rfl (by decide) rfl ?_
        refine Go_getr (pc := 56) (r := 21) dX8_isWord_56 fo_X8_22 (by decide) rfl rfl (by decide) ?_
        refine Go_iload_n (pc := 59) dX8_isWord_59 rfl rfl ?_
        refine Go_iconst (pc := 60) dX8_isWord_60 ?_
        refine Go_iadd (pc := 61) dX8_isWord_61 ?_
        refine Go_caload (pc := 62) (z := M 21 (s + 2)) dX8_isWord_62 (by decide) rfl (by omega) (by omega) (rfl) ?_
        refine Go_iload (pc := 63) dX8_isWord_63 rfl ?_
        refine Go_icmp_ne (pc := 65) (tgt := 85) dX8_isWord_65 (by decide) (by omega) (by decide) (fun c65 => ?_) (fun c65 => ?_)
        · refine Go_iconst (pc := 85) dX8_isWord_85 ?_
          refine Go_istore (pc := 86) (L' := [some (.inr 16), some (.inl s), some (.inl 116), some (.inl 101), some (.inl 108), some (.inl 108), some (.inl 32), some (.inl 0)]) dX8_isWord_86 (by decide) rfl ?_
          refine Go_iload (pc := 88) dX8_isWord_88 rfl ?_
          refine Go_if_eq (pc := 90) (tgt := 117) dX8_isWord_90 (by decide) (by decide) (fun _ => ?_) (fun q => absurd q (by decide))
          refine Go_iconst (pc := 117) dX8_isWord_117 ?_
          exact Go_zreturn (pc := 118) dX8_isWord_118 rfl (by decide) (by first | rw [b2i_t (by omega)] | rw [b2i_f (by omega)]) rfl
        · refine Go_aload_n (pc := 68) dX8_isWord_68 rfl (by decide) rfl ?_
          refine Go_getr (pc := 69) (r := 21) dX8_isWord_69 fo_X8_22 (by decide) rfl rfl (by decide) ?_
          refine Go_iload_n (pc := 72) dX8_isWord_72 rfl rfl ?_
          refine Go_iconst (pc := 73) dX8_isWord_73 ?_
          refine Go_iadd (pc := 74) dX8_isWord_74 ?_
          refine Go_caload (pc := 75) (z := M 21 (s + 3)) dX8_isWord_75 (by decide) rfl (by omega) (by omega) (rfl) ?_
          refine Go_iload (pc := 76) dX8_isWord_76 rfl ?_
          refine Go_icmp_ne (pc := 78) (tgt := 85) dX8_isWord_78 (by decide) (by omega) (by decide) (fun c78 => ?_) (fun c78 => ?_)
          · refine Go_iconst (pc := 85) dX8_isWord_85 ?_
            refine Go_istore (pc := 86) (L' := [some (.inr 16), some (.inl s), some (.inl 116), some (.inl 101), some (.inl 108), some (.inl 108), some (.inl 32), some (.inl 0)]) dX8_isWord_86 (by decide) rfl ?_
            refine Go_iload (pc := 88) dX8_isWord_88 rfl ?_
            refine Go_if_eq (pc := 90) (tgt := 117) dX8_isWord_90 (by decide) (by decide) (fun _ => ?_) (fun q => absurd q (by decide))
            refine Go_iconst (pc := 117) dX8_isWord_117 ?_
            exact Go_zreturn (pc := 118) dX8_isWord_118 rfl (by decide) (by first | rw [b2i_t (by omega)] | rw [b2i_f (by omega)]) rfl
          · refine Go_iconst (pc := 81) dX8_isWord_81 ?_
            refine Go_goto (pc := 82) (tgt := 86) dX8_isWord_82 (by decide) ?_
            refine Go_istore (pc := 86) (L' := [some (.inr 16), some (.inl s), some (.inl 116), some (.inl 101), some (.inl 108), some (.inl 108), some (.inl 32), some (.inl 1)]) dX8_isWord_86 (by decide) rfl ?_
            refine Go_iload (pc := 88) dX8_isWord_88 rfl ?_
            refine Go_if_eq (pc := 90) (tgt := 117) dX8_isWord_90 (by decide) (by decide) (fun q => absurd q (by decide)) (fun _ => ?_)
            refine Go_iload (pc := 93) dX8_isWord_93 rfl ?_
            refine Go_bipush (pc := 95) dX8_isWord_95 (by decide) (by decide) ?_
            refine Go_icmp_eq (pc := 97) (tgt := 113) dX8_isWord_97 (by decide) (by decide) (by decide) (fun _ => ?_) (fun q => absurd q (by decide))
            refine Go_iconst (pc := 113) dX8_isWord_113 ?_
            refine Go_goto (pc := 114) (tgt := 118) dX8_isWord_114 (by decide) ?_
            exact Go_zreturn (pc := 118) dX8_isWord_118 rfl (by decide) (by first | rw [b2i_t (by omega)] | rw [b2i_f (by omega)]) rfl
theorem s_X8_isWord_4 {d : Nat} (hd : 0 ≤ d) {n s : Int} {M : gMem} (h : TxOk (M 21) n) (s0 : 0 ≤ s) (s1 : s ≤ n) (h7 : M 16 7 = letE (M 21) n s) : Go d RX8 cX8_isWord 8 (some .boolean) 0 [some (.inr 16), some (.inl s), some (.inl 112), some (.inl 97), some (.inl 115), some (.inl 115), some (.inl 32), none] [] M (some (.inl (b2i (wd4 (M 21) n s)))) M := by
  have hn := h.1
  have hL := letE_b (f := M 21) (n := n) s1
  have e0 : letE (M 21) n s - s = 4 → cT (M 21) n (s + 0) = M 21 s := fun q => by rw [cT_in (by omega) (by omega)]; rw [Int.add_zero]
  have b0 := cT_b h (s + 0)
  have e1 : letE (M 21) n s - s = 4 → cT (M 21) n (s + 1) = M 21 (s + 1) := fun q => by rw [cT_in (by omega) (by omega)]
  have b1 := cT_b h (s + 1)
  have e2 : letE (M 21) n s - s = 4 → cT (M 21) n (s + 2) = M 21 (s + 2) := fun q => by rw [cT_in (by omega) (by omega)]
  have b2 := cT_b h (s + 2)
  have e3 : letE (M 21) n s - s = 4 → cT (M 21) n (s + 3) = M 21 (s + 3) := fun q => by rw [cT_in (by omega) (by omega)]
  have b3 := cT_b h (s + 3)
  refine Go_aload_n (pc := 0) dX8_isWord_0 rfl (by decide) rfl ?_
  refine Go_geti (pc := 1) (z := M 16 7) dX8_isWord_1 fo_X8_159 (by decide) rfl rfl (rfl) ?_
  refine Go_iload_n (pc := 4) dX8_isWord_4 rfl rfl ?_
  refine Go_isub (pc := 5) dX8_isWord_5 ?_
  refine Go_iload (pc := 6) dX8_isWord_6 rfl ?_
  refine Go_bipush (pc := 8) dX8_isWord_8 (by decide) (by decide) ?_
  refine Go_icmp_ne (pc := 10) (tgt := 17) dX8_isWord_10 (by decide) (by decide) (by decide) (fun q => absurd q (by decide)) (fun _ => ?_)
  refine Go_iconst (pc := 13) dX8_isWord_13 ?_
  refine Go_goto (pc := 14) (tgt := 18) dX8_isWord_14 (by decide) ?_
  refine Go_icmp_ne (pc := 18) (tgt := 25) dX8_isWord_18 (by decide) (by omega) (by decide) (fun c18 => ?_) (fun c18 => ?_)
  · refine Go_iconst (pc := 25) dX8_isWord_25 ?_
    refine Go_istore (pc := 26) (L' := [some (.inr 16), some (.inl s), some (.inl 112), some (.inl 97), some (.inl 115), some (.inl 115), some (.inl 32), some (.inl 0)]) dX8_isWord_26 (by decide) rfl ?_
    refine Go_iload (pc := 28) dX8_isWord_28 rfl ?_
    refine Go_if_eq (pc := 30) (tgt := 85) dX8_isWord_30 (by decide) (by decide) (fun _ => ?_) (fun q => absurd q (by decide))
    refine Go_iconst (pc := 85) dX8_isWord_85 ?_
    refine Go_istore (pc := 86) (L' := [some (.inr 16), some (.inl s), some (.inl 112), some (.inl 97), some (.inl 115), some (.inl 115), some (.inl 32), some (.inl 0)]) dX8_isWord_86 (by decide) rfl ?_
    refine Go_iload (pc := 88) dX8_isWord_88 rfl ?_
    refine Go_if_eq (pc := 90) (tgt := 117) dX8_isWord_90 (by decide) (by decide) (fun _ => ?_) (fun q => absurd q (by decide))
    refine Go_iconst (pc := 117) dX8_isWord_117 ?_
    exact Go_zreturn (pc := 118) dX8_isWord_118 rfl (by decide) (by first | rw [b2i_t (by omega)] | rw [b2i_f (by omega)]) rfl
  · refine Go_iconst (pc := 21) dX8_isWord_21 ?_
    refine Go_goto (pc := 22) (tgt := 26) dX8_isWord_22 (by decide) ?_
    refine Go_istore (pc := 26) (L' := [some (.inr 16), some (.inl s), some (.inl 112), some (.inl 97), some (.inl 115), some (.inl 115), some (.inl 32), some (.inl 1)]) dX8_isWord_26 (by decide) rfl ?_
    refine Go_iload (pc := 28) dX8_isWord_28 rfl ?_
    refine Go_if_eq (pc := 30) (tgt := 85) dX8_isWord_30 (by decide) (by decide) (fun q => absurd q (by decide)) (fun _ => ?_)
    refine Go_aload_n (pc := 33) dX8_isWord_33 rfl (by decide) rfl ?_
    refine Go_getr (pc := 34) (r := 21) dX8_isWord_34 fo_X8_22 (by decide) rfl rfl (by decide) ?_
    refine Go_iload_n (pc := 37) dX8_isWord_37 rfl rfl ?_
    refine Go_caload (pc := 38) (z := M 21 s) dX8_isWord_38 (by decide) rfl (by omega) (by omega) (rfl) ?_
    refine Go_iload_n (pc := 39) dX8_isWord_39 rfl rfl ?_
    refine Go_icmp_ne (pc := 40) (tgt := 85) dX8_isWord_40 (by decide) (by omega) (by decide) (fun c40 => ?_) (fun c40 => ?_)
    · refine Go_iconst (pc := 85) dX8_isWord_85 ?_
      refine Go_istore (pc := 86) (L' := [some (.inr 16), some (.inl s), some (.inl 112), some (.inl 97), some (.inl 115), some (.inl 115), some (.inl 32), some (.inl 0)]) dX8_isWord_86 (by decide) rfl ?_
      refine Go_iload (pc := 88) dX8_isWord_88 rfl ?_
      refine Go_if_eq (pc := 90) (tgt := 117) dX8_isWord_90 (by decide) (by decide) (fun _ => ?_) (fun q => absurd q (by decide))
      refine Go_iconst (pc := 117) dX8_isWord_117 ?_
      exact Go_zreturn (pc := 118) dX8_isWord_118 rfl (by decide) (by first | rw [b2i_t (by omega)] | rw [b2i_f (by omega)]) rfl
    · refine Go_aload_n (pc := 43) dX8_isWord_43 rfl (by decide) rfl ?_
      refine Go_getr (pc := 44) (r := 21) dX8_isWord_44 fo_X8_22 (by decide) rfl rfl (by decide) ?_
      refine Go_iload_n (pc := 47) dX8_isWord_47 rfl rfl ?_
      refine Go_iconst (pc := 48) dX8_isWord_48 ?_
      refine Go_iadd (pc := 49) dX8_isWord_49 ?_
      refine Go_caload (pc := 50) (z := M 21 (s + 1)) dX8_isWord_50 (by decide) rfl (by omega) (by omega) (rfl) ?_
      refine Go_iload_n (pc := 51) dX8_isWord_51 rfl rfl ?_
      refine Go_icmp_ne (pc := 52) (tgt := 85) dX8_isWord_52 (by decide) (by omega) (by decide) (fun c52 => ?_) (fun c52 => ?_)
      · refine Go_iconst (pc := 85) dX8_isWord_85 ?_
        refine Go_istore (pc := 86) (L' := [some (.inr 16), some (.inl s), some (.inl 112), some (.inl 97), some (.inl 115), some (.inl 115), some (.inl 32), some (.inl 0)]) dX8_isWord_86 (by decide) rfl ?_
        refine Go_iload (pc := 88) dX8_isWord_88 rfl ?_
        refine Go_if_eq (pc := 90) (tgt := 117) dX8_isWord_90 (by decide) (by decide) (fun _ => ?_) (fun q => absurd q (by decide))
        refine Go_iconst (pc := 117) dX8_isWord_117 ?_
        exact Go_zreturn (pc := 118) dX8_isWord_118 rfl (by decide) (by first | rw [b2i_t (by omega)] | rw [b2i_f (by omega)]) rfl
      · refine Go_aload_n (pc := 55) dX8_isWord_55 rfl (by decide) rfl ?_
        refine Go_getr (pc := 56) (r := 21) dX8_isWord_56 fo_X8_22 (by decide) rfl rfl (by decide) ?_
        refine Go_iload_n (pc := 59) dX8_isWord_59 rfl rfl ?_
        refine Go_iconst (pc := 60) dX8_isWord_60 ?_
        refine Go_iadd (pc := 61) dX8_isWord_61 ?_
        refine Go_caload (pc := 62) (z := M 21 (s + 2)) dX8_isWord_62 (by decide) rfl (by omega) (by omega) (rfl) ?_
        refine Go_iload (pc := 63) dX8_isWord_63 rfl ?_
        refine Go_icmp_ne (pc := 65) (tgt := 85) dX8_isWord_65 (by decide) (by omega) (by decide) (fun c65 => ?_) (fun c65 => ?_)
        · refine Go_iconst (pc := 85) dX8_isWord_85 ?_
          refine Go_istore (pc := 86) (L' := [some (.inr 16), some (.inl s), some (.inl 112), some (.inl 97), some (.inl 115), some (.inl 115), some (.inl 32), some (.inl 0)]) dX8_isWord_86 (by decide) rfl ?_
          refine Go_iload (pc := 88) dX8_isWord_88 rfl ?_
          refine Go_if_eq (pc := 90) (tgt := 117) dX8_isWord_90 (by decide) (by decide) (fun _ => ?_) (fun q => absurd q (by decide))
          refine Go_iconst (pc := 117) dX8_isWord_117 ?_
          exact Go_zreturn (pc := 118) dX8_isWord_118 rfl (by decide) (by first | rw [b2i_t (by omega)] | rw [b2i_f (by omega)]) rfl
        · refine Go_aload_n (pc := 68) dX8_isWord_68 rfl (by decide) rfl ?_
          refine Go_getr (pc := 69) (r := 21) dX8_isWord_69 fo_X8_22 (by decide) rfl rfl (by decide) ?_
          refine Go_iload_n (pc := 72) dX8_isWord_72 rfl rfl ?_
          refine Go_iconst (pc := 73) dX8_isWord_73 ?_
          refine Go_iadd (pc := 74) dX8_isWord_74 ?_
          refine Go_caload (pc := 75) (z := M 21 (s + 3)) dX8_isWord_75 (by decide) rfl (by omega) (by omega) (rfl) ?_
          refine Go_iload (pc := 76) dX8_isWord_76 rfl ?_
          refine Go_icmp_ne (pc := 78) (tgt := 85) dX8_isWord_78 (by decide) (by omega) (by decide) (fun c78 => ?_) (fun c78 => ?_)
          · refine Go_iconst (pc := 85) dX8_isWord_85 ?_
            refine Go_istore (pc := 86) (L' := [some (.inr 16), some (.inl s), some (.inl 112), some (.inl 97), some (.inl 115), some (.inl 115), some (.inl 32), some (.inl 0)]) dX8_isWord_86 (by decide) rfl ?_
            refine Go_iload (pc := 88) dX8_isWord_88 rfl ?_
            refine Go_if_eq (pc := 90) (tgt := 117) dX8_isWord_90 (by decide) (by decide) (fun _ => ?_) (fun q => absurd q (by decide))
            refine Go_iconst (pc := 117) dX8_isWord_117 ?_
            exact Go_zreturn (pc := 118) dX8_isWord_118 rfl (by decide) (by first | rw [b2i_t (by omega)] | rw [b2i_f (by omega)]) rfl
          · refine Go_iconst (pc := 81) dX8_isWord_81 ?_
            refine Go_goto (pc := 82) (tgt := 86) dX8_isWord_82 (by decide) ?_
            refine Go_istore (pc := 86) (L' := [some (.inr 16), some (.inl s), some (.inl 112), some (.inl 97), some (.inl 115), some (.inl 115), some (.inl 32), some (.inl 1)]) dX8_isWord_86 (by decide) rfl ?_
            refine Go_iload (pc := 88) dX8_isWord_88 rfl ?_
            refine Go_if_eq (pc := 90) (tgt := 117) dX8_isWord_90 (by decide) (by decide) (fun q => absurd q (by decide)) (fun _ => ?_)
            refine Go_iload (pc := 93) dX8_isWord_93 rfl ?_
            refine Go_bipush (pc := 95) dX8_isWord_95 (by decide) (by decide) ?_
            refine Go_icmp_eq (pc := 97) (tgt := 113) dX8_isWord_97 (by decide) (by decide) (by decide) (fun _ => ?_) (fun q => absurd q (by decide))
            refine Go_iconst (pc := 113) dX8_isWord_113 ?_
            refine Go_goto (pc := 114) (tgt := 118) dX8_isWord_114 (by decide) ?_
            exact Go_zreturn (pc := 118) dX8_isWord_118 rfl (by decide) (by first | rw [b2i_t (by omega)] | rw [b2i_f (by omega)]) rfl
def woF (f : Int → Int) (n s : Int) : Int := if wd0 f n s then 0 else if wd1 f n s then 1 else if wd2 f n s then 2 else if wd3 f n s then 3 else if wd4 f n s then 4 else -1
theorem woF_kd (f : Int → Int) (n s : Int) : (kdF f n s = 5 ∧ woF f n s = -1) ∨ (kdF f n s < 5 ∧ 0 ≤ kdF f n s ∧ woF f n s = kdF f n s) := by
  unfold woF kdF
  (repeat' split) <;> omega
theorem s_X8_wordFrom {d : Nat} (hd : 1 ≤ d) {n s : Int} {M : gMem} (h : TxOk (M 21) n) (s0 : 0 ≤ s) (s1 : s ≤ n) (h7 : M 16 7 = letE (M 21) n s) : Go d RX8 cX8_wordFrom 2 (some .int) 0 [some (.inr 16), some (.inl s)] [] M (some (.inl (woF (M 21) n s))) M := by
  have hn := h.1
  refine Go_aload_n (pc := 0) dX8_wordFrom_0 rfl (by decide) rfl ?_
  refine Go_iload_n (pc := 1) dX8_wordFrom_1 rfl rfl ?_
  refine Go_bipush (pc := 2) dX8_wordFrom_2 (by decide) (by decide) ?_
  refine Go_bipush (pc := 4) dX8_wordFrom_4 (by decide) (by decide) ?_
  refine Go_bipush (pc := 6) dX8_wordFrom_6 (by decide) (by decide) ?_
  refine Go_bipush (pc := 8) dX8_wordFrom_8 (by decide) (by decide) ?_
  refine Go_bipush (pc := 10) dX8_wordFrom_10 (by decide) (by decide) ?_
  refine Go_invV (pc := 12) (y := yX8_isWord) (avs := [.inl s, .inl 112, .inl 117, .inl 108, .inl 108, .inl 32]) (k := 16) (rest := []) (x := .inl (b2i (wd0 (M 21) n s)))  (d' := d - 1) dX8_wordFrom_12 ln_X8_162 mo_X8_isWord vo_X8_isWord rfl (rc_16) rfl rfl (Nat.le_of_ble_eq_true rfl) (by omega) (Nat.le_of_ble_eq_true rfl) rfl (s_X8_isWord_0 (by omega) h (by first | omega | (simp only [Nat.reduceAdd, setR_s]; omega) | (simp only [setR, Nat.reduceEqDiff, reduceIte]; omega)) (by first | omega | (simp only [Nat.reduceAdd, setR_s]; omega) | (simp only [setR, Nat.reduceEqDiff, reduceIte]; omega)) h7) ?_
  refine Go_ifeqB (pc := 15) (tgt := 20) dX8_wordFrom_15 (by decide) (fun c15 => ?_) (fun c15 => ?_)
  · refine Go_aload_n (pc := 20) dX8_wordFrom_20 rfl (by decide) rfl ?_
    refine Go_iload_n (pc := 21) dX8_wordFrom_21 rfl rfl ?_
    refine Go_bipush (pc := 22) dX8_wordFrom_22 (by decide) (by decide) ?_
    refine Go_bipush (pc := 24) dX8_wordFrom_24 (by decide) (by decide) ?_
    refine Go_bipush (pc := 26) dX8_wordFrom_26 (by decide) (by decide) ?_
    refine Go_bipush (pc := 28) dX8_wordFrom_28 (by decide) (by decide) ?_
    refine Go_bipush (pc := 30) dX8_wordFrom_30 (by decide) (by decide) ?_
    refine Go_invV (pc := 32) (y := yX8_isWord) (avs := [.inl s, .inl 100, .inl 114, .inl 111, .inl 112, .inl 32]) (k := 16) (rest := []) (x := .inl (b2i (wd1 (M 21) n s)))  (d' := d - 1) dX8_wordFrom_32 ln_X8_162 mo_X8_isWord vo_X8_isWord rfl (rc_16) rfl rfl (Nat.le_of_ble_eq_true rfl) (by omega) (Nat.le_of_ble_eq_true rfl) rfl (s_X8_isWord_1 (by omega) h (by first | omega | (simp only [Nat.reduceAdd, setR_s]; omega) | (simp only [setR, Nat.reduceEqDiff, reduceIte]; omega)) (by first | omega | (simp only [Nat.reduceAdd, setR_s]; omega) | (simp only [setR, Nat.reduceEqDiff, reduceIte]; omega)) h7) ?_
    refine Go_ifeqB (pc := 35) (tgt := 40) dX8_wordFrom_35 (by decide) (fun c35 => ?_) (fun c35 => ?_)
    · refine Go_aload_n (pc := 40) dX8_wordFrom_40 rfl (by decide) rfl ?_
      refine Go_iload_n (pc := 41) dX8_wordFrom_41 rfl rfl ?_
      refine Go_bipush (pc := 42) dX8_wordFrom_42 (by decide) (by decide) ?_
      refine Go_bipush (pc := 44) dX8_wordFrom_44 (by decide) (by decide) ?_
      refine Go_bipush (pc := 46) dX8_wordFrom_46 (by decide) (by decide) ?_
      refine Go_bipush (pc := 48) dX8_wordFrom_48 (by decide) (by decide) ?_
      refine Go_bipush (pc := 50) dX8_wordFrom_50 (by decide) (by decide) ?_
      refine Go_invV (pc := 52) (y := yX8_isWord) (avs := [.inl s, .inl 117, .inl 110, .inl 116, .inl 105, .inl 101]) (k := 16) (rest := []) (x := .inl (b2i (wd2 (M 21) n s)))  (d' := d - 1) dX8_wordFrom_52 ln_X8_162 mo_X8_isWord vo_X8_isWord rfl (rc_16) rfl rfl (Nat.le_of_ble_eq_true rfl) (by omega) (Nat.le_of_ble_eq_true rfl) rfl (s_X8_isWord_2 (by omega) h (by first | omega | (simp only [Nat.reduceAdd, setR_s]; omega) | (simp only [setR, Nat.reduceEqDiff, reduceIte]; omega)) (by first | omega | (simp only [Nat.reduceAdd, setR_s]; omega) | (simp only [setR, Nat.reduceEqDiff, reduceIte]; omega)) h7) ?_
      refine Go_ifeqB (pc := 55) (tgt := 60) dX8_wordFrom_55 (by decide) (fun c55 => ?_) (fun c55 => ?_)
      · refine Go_aload_n (pc := 60) dX8_wordFrom_60 rfl (by decide) rfl ?_
        refine Go_iload_n (pc := 61) dX8_wordFrom_61 rfl rfl ?_
        refine Go_bipush (pc := 62) dX8_wordFrom_62 (by decide) (by decide) ?_
        refine Go_bipush (pc := 64) dX8_wordFrom_64 (by decide) (by decide) ?_
        refine Go_bipush (pc := 66) dX8_wordFrom_66 (by decide) (by decide) ?_
        refine Go_bipush (pc := 68) dX8_wordFrom_68 (by decide) (by decide) ?_
        refine Go_bipush (pc := 70) dX8_wordFrom_70 (by decide) (by decide) ?_
        refine Go_invV (pc := 72) (y := yX8_isWord) (avs := [.inl s, .inl 116, .inl 101, .inl 108, .inl 108, .inl 32]) (k := 16) (rest := []) (x := .inl (b2i (wd3 (M 21) n s)))  (d' := d - 1) dX8_wordFrom_72 ln_X8_162 mo_X8_isWord vo_X8_isWord rfl (rc_16) rfl rfl (Nat.le_of_ble_eq_true rfl) (by omega) (Nat.le_of_ble_eq_true rfl) rfl (s_X8_isWord_3 (by omega) h (by first | omega | (simp only [Nat.reduceAdd, setR_s]; omega) | (simp only [setR, Nat.reduceEqDiff, reduceIte]; omega)) (by first | omega | (simp only [Nat.reduceAdd, setR_s]; omega) | (simp only [setR, Nat.reduceEqDiff, reduceIte]; omega)) h7) ?_
        refine Go_ifeqB (pc := 75) (tgt := 80) dX8_wordFrom_75 (by decide) (fun c75 => ?_) (fun c75 => ?_)
        · refine Go_aload_n (pc := 80) dX8_wordFrom_80 rfl (by decide) rfl ?_
          refine Go_iload_n (pc := 81) dX8_wordFrom_81 rfl rfl ?_
          refine Go_bipush (pc := 82) dX8_wordFrom_82 (by decide) (by decide) ?_
          refine Go_bipush (pc := 84) dX8_wordFrom_84 (by decide) (by decide) ?_
          refine Go_bipush (pc := 86) dX8_wordFrom_86 (by decide) (by decide) ?_
          refine Go_bipush (pc := 88) dX8_wordFrom_88 (by decide) (by decide) ?_
          refine Go_bipush (pc := 90) dX8_wordFrom_90 (by decide) (by decide) ?_
          refine Go_invV (pc := 92) (y := yX8_isWord) (avs := [.inl s, .inl 112, .inl 97, .inl 115, .inl 115, .inl 32]) (k := 16) (rest := []) (x := .inl (b2i (wd4 (M 21) n s)))  (d' := d - 1) dX8_wordFrom_92 ln_X8_162 mo_X8_isWord vo_X8_isWord rfl (rc_16) rfl rfl (Nat.le_of_ble_eq_true rfl) (by omega) (Nat.le_of_ble_eq_true rfl) rfl (s_X8_isWord_4 (by omega) h (by first | omega | (simp only [Nat.reduceAdd, setR_s]; omega) | (simp only [setR, Nat.reduceEqDiff, reduceIte]; omega)) (by first | omega | (simp only [Nat.reduceAdd, setR_s]; omega) | (simp only [setR, Nat.reduceEqDiff, reduceIte]; omega)) h7) ?_
          refine Go_ifeqB (pc := 95) (tgt := 102) dX8_wordFrom_95 (by decide) (fun c95 => ?_) (fun c95 => ?_)
          · refine Go_iconst (pc := 102) dX8_wordFrom_102 ?_
            exact Go_ireturn (pc := 103) dX8_wordFrom_103 rfl (by unfold woF; rw [if_neg c15, if_neg c35, if_neg c55, if_neg c75, if_neg c95]) rfl
          · refine Go_iconst (pc := 98) dX8_wordFrom_98 ?_
            refine Go_goto (pc := 99) (tgt := 103) dX8_wordFrom_99 (by decide) ?_
            exact Go_ireturn (pc := 103) dX8_wordFrom_103 rfl (by unfold woF; rw [if_neg c15, if_neg c35, if_neg c55, if_neg c75, if_pos c95]) rfl
        · refine Go_iconst (pc := 78) dX8_wordFrom_78 ?_
          exact Go_ireturn (pc := 79) dX8_wordFrom_79 rfl (by unfold woF; rw [if_neg c15, if_neg c35, if_neg c55, if_pos c75]) rfl
      · refine Go_iconst (pc := 58) dX8_wordFrom_58 ?_
        exact Go_ireturn (pc := 59) dX8_wordFrom_59 rfl (by unfold woF; rw [if_neg c15, if_neg c35, if_pos c55]) rfl
    · refine Go_iconst (pc := 38) dX8_wordFrom_38 ?_
      exact Go_ireturn (pc := 39) dX8_wordFrom_39 rfl (by unfold woF; rw [if_neg c15, if_pos c35]) rfl
  · refine Go_iconst (pc := 18) dX8_wordFrom_18 ?_
    exact Go_ireturn (pc := 19) dX8_wordFrom_19 rfl (by unfold woF; rw [if_pos c15]) rfl
def dgr (f : Int → Int) (n q : Int) : Int := if cT f n q = 32 then (if dgP f n (q + 1) then cT f n (q + 1) - 48 else -1) else -1
def dga (f : Int → Int) (n q : Int) : Int := if cT f n q = 32 then (if dgP f n (q + 1) then q + 1 + 1 else q + 1) else q
theorem dg_b (f : Int → Int) (n q : Int) : (-1 ≤ dgr f n q ∧ dgr f n q ≤ 9) ∧ q ≤ dga f n q ∧ dga f n q ≤ q + 2 := by
  unfold dgr dga dgP
  (repeat' split) <;> omega
theorem s_X8_digit {d : Nat} (hd : 1 ≤ d) {n q : Int} {M : gMem} (h6 : M 16 6 = n) (h7 : M 16 7 = q) (h : TxOk (M 21) n) (q0 : 0 ≤ q) (q1 : q ≤ 900) : Go d RX8 cX8_digit 1 (some .int) 0 [some (.inr 16)] [] M (some (.inl (dgr (M 21) n q))) (setR M 16 (updI (M 16) 7 (dga (M 21) n q))) := by
  subst h6
  subst h7
  have hn := h.1
  have s1 := sg_c h q0
  have s2 := sg_c (p := M 16 7 + 1) h (by omega)
  have e1 : M 21 (M 16 7 + 1 + 1 - 1) = M 21 (M 16 7 + 1) := by rw [Int.add_sub_cancel]
  have e2 : M 16 7 + 1 < M 16 6 → M 21 (M 16 7 + 1 + 1 - 1) = cT (M 21) (M 16 6) (M 16 7 + 1) := fun z => by rw [e1]; omega
  refine Go_aload_n (pc := 0) dX8_digit_0 rfl (by decide) rfl ?_
  refine Go_invV (pc := 1) (y := yX8_sign) (avs := []) (k := 16) (rest := []) (x := .inl (sgF (M 21) (M 16 6) (M 16 7)))  (d' := d - 1) dX8_digit_1 ln_X8_166 mo_X8_sign vo_X8_sign rfl (rc_16) rfl rfl (Nat.le_of_ble_eq_true rfl) (by omega) (Nat.le_of_ble_eq_true rfl) rfl (s_X8_sign (n := M 16 6) (p := M 16 7) (by omega) (rfl) (rfl) h (by first | omega | (simp only [Nat.reduceAdd, setR_s]; omega) | (simp only [setR, Nat.reduceEqDiff, reduceIte]; omega)) (by omega)) ?_
  refine Go_bipush (pc := 4) dX8_digit_4 (by decide) (by decide) ?_
  refine Go_icmp_eq (pc := 6) (tgt := 11) dX8_digit_6 (by decide) (by first | omega | (show inR (M 21 (M 16 7 + 1 + 1 - 1) - 48); omega)) (by decide) (fun c6 => ?_) (fun c6 => ?_)
  · refine Go_aload_n (pc := 11) dX8_digit_11 rfl (by decide) rfl ?_
    refine Go_dup (pc := 12) dX8_digit_12 ?_
    refine Go_geti (pc := 13) (z := M 16 7) dX8_digit_13 fo_X8_159 (by decide) rfl rfl (rfl) ?_
    refine Go_iconst (pc := 16) dX8_digit_16 ?_
    refine Go_iadd (pc := 17) dX8_digit_17 ?_
    refine Go_puti (pc := 18) dX8_digit_18 fw_X8_159 (by decide) rfl rfl ?_
    refine Go_M (M1 := setR M 16 (updI (M 16) 7 ((M 16 7) + 1))) rfl ?_
    refine Go_aload_n (pc := 21) dX8_digit_21 rfl (by decide) rfl ?_
    refine Go_invV (pc := 22) (y := yX8_sign) (avs := []) (k := 16) (rest := []) (x := .inl (sgF (M 21) (M 16 6) ((M 16 7) + 1)))  (d' := d - 1) dX8_digit_22 ln_X8_166 mo_X8_sign vo_X8_sign rfl (rc_16) rfl rfl (Nat.le_of_ble_eq_true rfl) (by omega) (Nat.le_of_ble_eq_true rfl) rfl (s_X8_sign (n := M 16 6) (p := (M 16 7) + 1) (by omega) (show (updI (M 16) 7 ((M 16 7) + 1)) 6 = (M 16 6) from (updI_n (by decide)).trans (rfl)) (show (updI (M 16) 7 ((M 16 7) + 1)) 7 = ((M 16 7) + 1) from updI_s _ _ _) h (by first | omega | (simp only [Nat.reduceAdd, setR_s]; omega) | (simp only [setR, Nat.reduceEqDiff, reduceIte]; omega)) (by omega)) ?_
    refine Go_bipush (pc := 25) dX8_digit_25 (by decide) (by decide) ?_
    refine Go_bipush (pc := 27) dX8_digit_27 (by decide) (by decide) ?_
    refine Go_invS (pc := 29) (y := yX8_in) (avs := [.inl (sgF (M 21) (M 16 6) ((M 16 7) + 1)), .inl 48, .inl 57]) (rest := []) (x := .inl (b2i (48 ≤ (sgF (M 21) (M 16 6) ((M 16 7) + 1)) ∧ (sgF (M 21) (M 16 6) ((M 16 7) + 1)) ≤ 57)))  (d' := d - 1) dX8_digit_29 ln_X8_38 mo_X8_in so_X8_in rfl rfl rfl (Nat.le_of_ble_eq_true rfl) (by omega) (Nat.le_of_ble_eq_true rfl) rfl (s_X8_in (by omega) (by first | omega | (show inR (M 21 (M 16 7 + 1 + 1 - 1) - 48); omega)) (by decide) (by decide)) ?_
    refine Go_ifneB (pc := 32) (tgt := 37) dX8_digit_32 (by decide) (fun c32 => ?_) (fun c32 => ?_)
    · refine Go_aload_n (pc := 37) dX8_digit_37 rfl (by decide) rfl ?_
      refine Go_dup (pc := 38) dX8_digit_38 ?_
      refine Go_geti (pc := 39) (z := (M 16 7) + 1) dX8_digit_39 fo_X8_159 (by decide) rfl rfl (show (updI (M 16) 7 ((M 16 7) + 1)) 7 = ((M 16 7) + 1) from updI_s _ _ _) ?_
      refine Go_iconst (pc := 42) dX8_digit_42 ?_
      refine Go_iadd (pc := 43) dX8_digit_43 ?_
      refine Go_puti (pc := 44) dX8_digit_44 fw_X8_159 (by decide) rfl rfl ?_
      refine Go_M (M1 := setR M 16 (updI (updI (M 16) 7 ((M 16 7) + 1)) 7 (((M 16 7) + 1) + 1))) (setR_top _ _ _ _ _) ?_
      refine Go_aload_n (pc := 47) dX8_digit_47 rfl (by decide) rfl ?_
      refine Go_getr (pc := 48) (r := 21) dX8_digit_48 fo_X8_22 (by decide) rfl rfl (by decide) ?_
      refine Go_aload_n (pc := 51) dX8_digit_51 rfl (by decide) rfl ?_
      refine Go_geti (pc := 52) (z := ((M 16 7) + 1) + 1) dX8_digit_52 fo_X8_159 (by decide) rfl rfl (show (updI (updI (M 16) 7 ((M 16 7) + 1)) 7 (((M 16 7) + 1) + 1)) 7 = (((M 16 7) + 1) + 1) from updI_s _ _ _) ?_
      refine Go_iconst (pc := 55) dX8_digit_55 ?_
      refine Go_isub (pc := 56) dX8_digit_56 ?_
      refine Go_caload (pc := 57) (z := M 21 ((((M 16 7) + 1) + 1) - 1)) dX8_digit_57 (by decide) rfl (by omega) (by omega) (rfl) ?_
      refine Go_bipush (pc := 58) dX8_digit_58 (by decide) (by decide) ?_
      refine Go_isub (pc := 60) dX8_digit_60 ?_
      exact Go_ireturn (pc := 61) dX8_digit_61 rfl (by unfold dgr dgP; (repeat' split) <;> first | rfl | (exfalso; omega) | (rw [e2 (by omega)]; done)) (by unfold dga dgP; (repeat' split) <;> first | rfl | (exfalso; omega) | (rw [updI_tw]; done) | (rw [updI_id, setR_id]; done))
    · refine Go_iconst (pc := 35) dX8_digit_35 ?_
      exact Go_ireturn (pc := 36) dX8_digit_36 rfl (by unfold dgr dgP; (repeat' split) <;> first | rfl | (exfalso; omega) | (rw [e2 (by omega)]; done)) (by unfold dga dgP; (repeat' split) <;> first | rfl | (exfalso; omega) | (rw [updI_tw]; done) | (rw [updI_id, setR_id]; done))
  · refine Go_iconst (pc := 9) dX8_digit_9 ?_
    exact Go_ireturn (pc := 10) dX8_digit_10 rfl (by unfold dgr dgP; (repeat' split) <;> first | rfl | (exfalso; omega) | (rw [e2 (by omega)]; done)) (by unfold dga dgP; (repeat' split) <;> first | rfl | (exfalso; omega) | (rw [updI_tw]; done) | (rw [updI_id, setR_id]; done))
