/-! House: the leaves -/
theorem s_X7_bitOf {d : Nat} (hd : 0 ≤ d) {a : Int} {M : gMem} : Go d RX7 cX7_bitOf 1 (some .int) 0 [some (.inl a)] [] M (some (.inl (gshl 1 a))) M := by
  refine Go_iconst (pc := 0) dX7_bitOf_0 ?_
  refine Go_iload_n (pc := 1) dX7_bitOf_1 rfl rfl ?_
  refine Go_ishl (pc := 2) dX7_bitOf_2 ?_
  exact Go_ireturn (pc := 3) dX7_bitOf_3 rfl (by first | rfl | (simp_all; done)) rfl
theorem s_X7_isError {d : Nat} (hd : 0 ≤ d) {a : Int} {M : gMem} (ha : inR a) : Go d RX7 cX7_isError 1 (some .boolean) 0 [some (.inl a)] [] M (some (.inl (b2i (a < 0)))) M := by
  refine Go_iload_n (pc := 0) dX7_isError_0 rfl rfl ?_
  refine Go_if_ge (pc := 1) (tgt := 8) dX7_isError_1 (by decide) (by omega) (fun c1 => ?_) (fun c1 => ?_)
  · refine Go_iconst (pc := 8) dX7_isError_8 ?_
    exact Go_zreturn (pc := 9) dX7_isError_9 rfl (by decide) (by first | rw [b2i_t c1] | rw [b2i_f c1] | rw [b2i_t (by omega)] | rw [b2i_f (by omega)]) rfl
  · refine Go_iconst (pc := 4) dX7_isError_4 ?_
    refine Go_goto (pc := 5) (tgt := 9) dX7_isError_5 (by decide) ?_
    exact Go_zreturn (pc := 9) dX7_isError_9 rfl (by decide) (by first | rw [b2i_t c1] | rw [b2i_f c1] | rw [b2i_t (by omega)] | rw [b2i_f (by omega)]) rfl
theorem s_X1_number {d h : Nat} (hd : 0 ≤ d) (hh : h = 1 ∨ h = 3) {a : Int} {M : gMem} (h0 : 0 ≤ a) (h1 : a < 7) : Go d RX1 cX1_number 2 (some .int) 0 [some (.inr h), some (.inl a)] [] M (some (.inl (M (h + 1) a))) M := by
  rcases hh with rfl | rfl
  · refine Go_iload_n (pc := 0) dX1_number_0 rfl rfl ?_
    refine Go_if_lt (pc := 1) (tgt := 19) dX1_number_1 (by decide) (by omega) (fun c1 => ?_) (fun c1 => ?_)
    · refine Go_iconst (pc := 19) dX1_number_19 ?_
      exact Go_ireturn (pc := 20) dX1_number_20 rfl (by first | rfl | omega) rfl
    · refine Go_iload_n (pc := 4) dX1_number_4 rfl rfl ?_
      refine Go_bipush (pc := 5) dX1_number_5 (by decide) (by decide) ?_
      refine Go_icmp_ge (pc := 7) (tgt := 19) dX1_number_7 (by decide) (by omega) (by decide) (fun c7 => ?_) (fun c7 => ?_)
      · refine Go_iconst (pc := 19) dX1_number_19 ?_
        exact Go_ireturn (pc := 20) dX1_number_20 rfl (by first | rfl | omega) rfl
      · refine Go_aload_n (pc := 10) dX1_number_10 rfl (by decide) rfl ?_
        refine Go_getr (pc := 11) (r := 2) dX1_number_11 fo_X1_11 (by decide) rfl rfl (by decide) ?_
        refine Go_iload_n (pc := 14) dX1_number_14 rfl rfl ?_
        refine Go_iaload (pc := 15) (z := M 2 a) dX1_number_15 (by decide) rfl (by omega) (by omega) (rfl) ?_
        refine Go_goto (pc := 16) (tgt := 20) dX1_number_16 (by decide) ?_
        exact Go_ireturn (pc := 20) dX1_number_20 rfl (by first | rfl | omega) rfl
  · refine Go_iload_n (pc := 0) dX1_number_0 rfl rfl ?_
    refine Go_if_lt (pc := 1) (tgt := 19) dX1_number_1 (by decide) (by omega) (fun c1 => ?_) (fun c1 => ?_)
    · refine Go_iconst (pc := 19) dX1_number_19 ?_
      exact Go_ireturn (pc := 20) dX1_number_20 rfl (by first | rfl | omega) rfl
    · refine Go_iload_n (pc := 4) dX1_number_4 rfl rfl ?_
      refine Go_bipush (pc := 5) dX1_number_5 (by decide) (by decide) ?_
      refine Go_icmp_ge (pc := 7) (tgt := 19) dX1_number_7 (by decide) (by omega) (by decide) (fun c7 => ?_) (fun c7 => ?_)
      · refine Go_iconst (pc := 19) dX1_number_19 ?_
        exact Go_ireturn (pc := 20) dX1_number_20 rfl (by first | rfl | omega) rfl
      · refine Go_aload_n (pc := 10) dX1_number_10 rfl (by decide) rfl ?_
        refine Go_getr (pc := 11) (r := 4) dX1_number_11 fo_X1_11 (by decide) rfl rfl (by decide) ?_
        refine Go_iload_n (pc := 14) dX1_number_14 rfl rfl ?_
        refine Go_iaload (pc := 15) (z := M 4 a) dX1_number_15 (by decide) rfl (by omega) (by omega) (rfl) ?_
        refine Go_goto (pc := 16) (tgt := 20) dX1_number_16 (by decide) ?_
        exact Go_ireturn (pc := 20) dX1_number_20 rfl (by first | rfl | omega) rfl
theorem s_X1_putNumber {d h : Nat} (hd : 0 ≤ d) (hh : h = 1 ∨ h = 3) {a b : Int} {M : gMem} (h0 : 0 ≤ a) (h1 : a < 7) : Go d RX1 cX1_putNumber 3 none 0 [some (.inr h), some (.inl a), some (.inl b)] [] M none (setR M (h + 1) (updI (M (h + 1)) a b)) := by
  rcases hh with rfl | rfl
  · refine Go_iload_n (pc := 0) dX1_putNumber_0 rfl rfl ?_
    refine Go_if_lt (pc := 1) (tgt := 17) dX1_putNumber_1 (by decide) (by omega) (fun c1 => ?_) (fun c1 => ?_)
    · exact Go_return (pc := 17) dX1_putNumber_17 rfl rfl (by first | rfl | omega)
    · refine Go_iload_n (pc := 4) dX1_putNumber_4 rfl rfl ?_
      refine Go_bipush (pc := 5) dX1_putNumber_5 (by decide) (by decide) ?_
      refine Go_icmp_ge (pc := 7) (tgt := 17) dX1_putNumber_7 (by decide) (by omega) (by decide) (fun c7 => ?_) (fun c7 => ?_)
      · exact Go_return (pc := 17) dX1_putNumber_17 rfl rfl (by first | rfl | omega)
      · refine Go_aload_n (pc := 10) dX1_putNumber_10 rfl (by decide) rfl ?_
        refine Go_getr (pc := 11) (r := 2) dX1_putNumber_11 fo_X1_11 (by decide) rfl rfl (by decide) ?_
        refine Go_iload_n (pc := 14) dX1_putNumber_14 rfl rfl ?_
        refine Go_iload_n (pc := 15) dX1_putNumber_15 rfl rfl ?_
        refine Go_iastore (pc := 16) dX1_putNumber_16 (by decide) rfl (by omega) (by omega) ?_
        refine Go_M (M1 := setR M 2 (updI (M 2) a b)) rfl ?_
        exact Go_return (pc := 17) dX1_putNumber_17 rfl rfl (by first | rfl | omega)
  · refine Go_iload_n (pc := 0) dX1_putNumber_0 rfl rfl ?_
    refine Go_if_lt (pc := 1) (tgt := 17) dX1_putNumber_1 (by decide) (by omega) (fun c1 => ?_) (fun c1 => ?_)
    · exact Go_return (pc := 17) dX1_putNumber_17 rfl rfl (by first | rfl | omega)
    · refine Go_iload_n (pc := 4) dX1_putNumber_4 rfl rfl ?_
      refine Go_bipush (pc := 5) dX1_putNumber_5 (by decide) (by decide) ?_
      refine Go_icmp_ge (pc := 7) (tgt := 17) dX1_putNumber_7 (by decide) (by omega) (by decide) (fun c7 => ?_) (fun c7 => ?_)
      · exact Go_return (pc := 17) dX1_putNumber_17 rfl rfl (by first | rfl | omega)
      · refine Go_aload_n (pc := 10) dX1_putNumber_10 rfl (by decide) rfl ?_
        refine Go_getr (pc := 11) (r := 4) dX1_putNumber_11 fo_X1_11 (by decide) rfl rfl (by decide) ?_
        refine Go_iload_n (pc := 14) dX1_putNumber_14 rfl rfl ?_
        refine Go_iload_n (pc := 15) dX1_putNumber_15 rfl rfl ?_
        refine Go_iastore (pc := 16) dX1_putNumber_16 (by decide) rfl (by omega) (by omega) ?_
        refine Go_M (M1 := setR M 4 (updI (M 4) a b)) rfl ?_
        exact Go_return (pc := 17) dX1_putNumber_17 rfl rfl (by first | rfl | omega)
theorem s_X1_ofShade {d h : Nat} (hd : 0 ≤ d) (hh : h = 1 ∨ h = 3) {a b : Int} {M : gMem} (ha : inR a) (h0 : 0 ≤ b) (h1 : b < 7) : Go d RX1 cX1_ofShade 3 (some .int) 0 [some (.inr h), some (.inl a), some (.inl b)] [] M (some (.inl (sc (M (h + 1)) a b))) M := by
  rcases hh with rfl | rfl
  · refine Go_iload_n (pc := 0) dX1_ofShade_0 rfl rfl ?_
    refine Go_if_lt (pc := 1) (tgt := 20) dX1_ofShade_1 (by decide) (by omega) (fun c1 => ?_) (fun c1 => ?_)
    · refine Go_iconst (pc := 20) dX1_ofShade_20 ?_
      exact Go_ireturn (pc := 21) dX1_ofShade_21 rfl (by first | omega | rw [sc_out _ _ (by omega)] | rw [sc_in _ _ (by omega) (by omega), Int.mul_comm]) rfl
    · refine Go_iload_n (pc := 4) dX1_ofShade_4 rfl rfl ?_
      refine Go_bipush (pc := 5) dX1_ofShade_5 (by decide) (by decide) ?_
      refine Go_icmp_ge (pc := 7) (tgt := 20) dX1_ofShade_7 (by decide) (by omega) (by decide) (fun c7 => ?_) (fun c7 => ?_)
      · refine Go_iconst (pc := 20) dX1_ofShade_20 ?_
        exact Go_ireturn (pc := 21) dX1_ofShade_21 rfl (by first | omega | rw [sc_out _ _ (by omega)] | rw [sc_in _ _ (by omega) (by omega), Int.mul_comm]) rfl
      · refine Go_iload_n (pc := 10) dX1_ofShade_10 rfl rfl ?_
        refine Go_if_lt (pc := 11) (tgt := 20) dX1_ofShade_11 (by decide) (by omega) (fun c11 => ?_) (fun c11 => ?_)
        · refine Go_iconst (pc := 20) dX1_ofShade_20 ?_
          exact Go_ireturn (pc := 21) dX1_ofShade_21 rfl (by first | omega | rw [sc_out _ _ (by omega)] | rw [sc_in _ _ (by omega) (by omega), Int.mul_comm]) rfl
        · refine Go_iload_n (pc := 14) dX1_ofShade_14 rfl rfl ?_
          refine Go_bipush (pc := 15) dX1_ofShade_15 (by decide) (by decide) ?_
          refine Go_icmp_lt (pc := 17) (tgt := 22) dX1_ofShade_17 (by decide) (by omega) (by decide) (fun c17 => ?_) (fun c17 => ?_)
          · refine Go_aload_n (pc := 22) dX1_ofShade_22 rfl (by decide) rfl ?_
            refine Go_getr (pc := 23) (r := 2) dX1_ofShade_23 fo_X1_11 (by decide) rfl rfl (by decide) ?_
            refine Go_bipush (pc := 26) dX1_ofShade_26 (by decide) (by decide) ?_
            refine Go_iload_n (pc := 28) dX1_ofShade_28 rfl rfl ?_
            refine Go_bipush (pc := 29) dX1_ofShade_29 (by decide) (by decide) ?_
            refine Go_imul (pc := 31) dX1_ofShade_31 ?_
            refine Go_iadd (pc := 32) dX1_ofShade_32 ?_
            refine Go_iload_n (pc := 33) dX1_ofShade_33 rfl rfl ?_
            refine Go_iadd (pc := 34) dX1_ofShade_34 ?_
            refine Go_iaload (pc := 35) (z := M 2 ((7 + (a * 7)) + b)) dX1_ofShade_35 (by decide) rfl (by omega) (by omega) (rfl) ?_
            exact Go_ireturn (pc := 36) dX1_ofShade_36 rfl (by first | omega | rw [sc_out _ _ (by omega)] | rw [sc_in _ _ (by omega) (by omega), Int.mul_comm]) rfl
          · refine Go_iconst (pc := 20) dX1_ofShade_20 ?_
            exact Go_ireturn (pc := 21) dX1_ofShade_21 rfl (by first | omega | rw [sc_out _ _ (by omega)] | rw [sc_in _ _ (by omega) (by omega), Int.mul_comm]) rfl
  · refine Go_iload_n (pc := 0) dX1_ofShade_0 rfl rfl ?_
    refine Go_if_lt (pc := 1) (tgt := 20) dX1_ofShade_1 (by decide) (by omega) (fun c1 => ?_) (fun c1 => ?_)
    · refine Go_iconst (pc := 20) dX1_ofShade_20 ?_
      exact Go_ireturn (pc := 21) dX1_ofShade_21 rfl (by first | omega | rw [sc_out _ _ (by omega)] | rw [sc_in _ _ (by omega) (by omega), Int.mul_comm]) rfl
    · refine Go_iload_n (pc := 4) dX1_ofShade_4 rfl rfl ?_
      refine Go_bipush (pc := 5) dX1_ofShade_5 (by decide) (by decide) ?_
      refine Go_icmp_ge (pc := 7) (tgt := 20) dX1_ofShade_7 (by decide) (by omega) (by decide) (fun c7 => ?_) (fun c7 => ?_)
      · refine Go_iconst (pc := 20) dX1_ofShade_20 ?_
        exact Go_ireturn (pc := 21) dX1_ofShade_21 rfl (by first | omega | rw [sc_out _ _ (by omega)] | rw [sc_in _ _ (by omega) (by omega), Int.mul_comm]) rfl
      · refine Go_iload_n (pc := 10) dX1_ofShade_10 rfl rfl ?_
        refine Go_if_lt (pc := 11) (tgt := 20) dX1_ofShade_11 (by decide) (by omega) (fun c11 => ?_) (fun c11 => ?_)
        · refine Go_iconst (pc := 20) dX1_ofShade_20 ?_
          exact Go_ireturn (pc := 21) dX1_ofShade_21 rfl (by first | omega | rw [sc_out _ _ (by omega)] | rw [sc_in _ _ (by omega) (by omega), Int.mul_comm]) rfl
        · refine Go_iload_n (pc := 14) dX1_ofShade_14 rfl rfl ?_
          refine Go_bipush (pc := 15) dX1_ofShade_15 (by decide) (by decide) ?_
          refine Go_icmp_lt (pc := 17) (tgt := 22) dX1_ofShade_17 (by decide) (by omega) (by decide) (fun c17 => ?_) (fun c17 => ?_)
          · refine Go_aload_n (pc := 22) dX1_ofShade_22 rfl (by decide) rfl ?_
            refine Go_getr (pc := 23) (r := 4) dX1_ofShade_23 fo_X1_11 (by decide) rfl rfl (by decide) ?_
            refine Go_bipush (pc := 26) dX1_ofShade_26 (by decide) (by decide) ?_
            refine Go_iload_n (pc := 28) dX1_ofShade_28 rfl rfl ?_
            refine Go_bipush (pc := 29) dX1_ofShade_29 (by decide) (by decide) ?_
            refine Go_imul (pc := 31) dX1_ofShade_31 ?_
            refine Go_iadd (pc := 32) dX1_ofShade_32 ?_
            refine Go_iload_n (pc := 33) dX1_ofShade_33 rfl rfl ?_
            refine Go_iadd (pc := 34) dX1_ofShade_34 ?_
            refine Go_iaload (pc := 35) (z := M 4 ((7 + (a * 7)) + b)) dX1_ofShade_35 (by decide) rfl (by omega) (by omega) (rfl) ?_
            exact Go_ireturn (pc := 36) dX1_ofShade_36 rfl (by first | omega | rw [sc_out _ _ (by omega)] | rw [sc_in _ _ (by omega) (by omega), Int.mul_comm]) rfl
          · refine Go_iconst (pc := 20) dX1_ofShade_20 ?_
            exact Go_ireturn (pc := 21) dX1_ofShade_21 rfl (by first | omega | rw [sc_out _ _ (by omega)] | rw [sc_in _ _ (by omega) (by omega), Int.mul_comm]) rfl
theorem s_X1_putShade {d h : Nat} (hd : 0 ≤ d) (hh : h = 1 ∨ h = 3) {a b z : Int} {M : gMem} (a0 : 0 ≤ a) (a1 : a < 8) (h0 : 0 ≤ b) (h1 : b < 7) : Go d RX1 cX1_putShade 4 none 0 [some (.inr h), some (.inl a), some (.inl b), some (.inl z)] [] M none (setR M (h + 1) (updI (M (h + 1)) (7 + 7 * a + b) z)) := by
  rcases hh with rfl | rfl
  · refine Go_iload_n (pc := 0) dX1_putShade_0 rfl rfl ?_
    refine Go_if_lt (pc := 1) (tgt := 35) dX1_putShade_1 (by decide) (by omega) (fun c1 => ?_) (fun c1 => ?_)
    · exact Go_return (pc := 35) dX1_putShade_35 rfl rfl (by first | omega | rw [Int.mul_comm 7 a])
    · refine Go_iload_n (pc := 4) dX1_putShade_4 rfl rfl ?_
      refine Go_bipush (pc := 5) dX1_putShade_5 (by decide) (by decide) ?_
      refine Go_icmp_ge (pc := 7) (tgt := 35) dX1_putShade_7 (by decide) (by omega) (by decide) (fun c7 => ?_) (fun c7 => ?_)
      · exact Go_return (pc := 35) dX1_putShade_35 rfl rfl (by first | omega | rw [Int.mul_comm 7 a])
      · refine Go_iload_n (pc := 10) dX1_putShade_10 rfl rfl ?_
        refine Go_if_lt (pc := 11) (tgt := 35) dX1_putShade_11 (by decide) (by omega) (fun c11 => ?_) (fun c11 => ?_)
        · exact Go_return (pc := 35) dX1_putShade_35 rfl rfl (by first | omega | rw [Int.mul_comm 7 a])
        · refine Go_iload_n (pc := 14) dX1_putShade_14 rfl rfl ?_
          refine Go_bipush (pc := 15) dX1_putShade_15 (by decide) (by decide) ?_
          refine Go_icmp_ge (pc := 17) (tgt := 35) dX1_putShade_17 (by decide) (by omega) (by decide) (fun c17 => ?_) (fun c17 => ?_)
          · exact Go_return (pc := 35) dX1_putShade_35 rfl rfl (by first | omega | rw [Int.mul_comm 7 a])
          · refine Go_aload_n (pc := 20) dX1_putShade_20 rfl (by decide) rfl ?_
            refine Go_getr (pc := 21) (r := 2) dX1_putShade_21 fo_X1_11 (by decide) rfl rfl (by decide) ?_
            refine Go_bipush (pc := 24) dX1_putShade_24 (by decide) (by decide) ?_
            refine Go_iload_n (pc := 26) dX1_putShade_26 rfl rfl ?_
            refine Go_bipush (pc := 27) dX1_putShade_27 (by decide) (by decide) ?_
            refine Go_imul (pc := 29) dX1_putShade_29 ?_
            refine Go_iadd (pc := 30) dX1_putShade_30 ?_
            refine Go_iload_n (pc := 31) dX1_putShade_31 rfl rfl ?_
            refine Go_iadd (pc := 32) dX1_putShade_32 ?_
            refine Go_iload_n (pc := 33) dX1_putShade_33 rfl rfl ?_
            refine Go_iastore (pc := 34) dX1_putShade_34 (by decide) rfl (by omega) (by omega) ?_
            refine Go_M (M1 := setR M 2 (updI (M 2) ((7 + (a * 7)) + b) z)) rfl ?_
            exact Go_return (pc := 35) dX1_putShade_35 rfl rfl (by first | omega | rw [Int.mul_comm 7 a])
  · refine Go_iload_n (pc := 0) dX1_putShade_0 rfl rfl ?_
    refine Go_if_lt (pc := 1) (tgt := 35) dX1_putShade_1 (by decide) (by omega) (fun c1 => ?_) (fun c1 => ?_)
    · exact Go_return (pc := 35) dX1_putShade_35 rfl rfl (by first | omega | rw [Int.mul_comm 7 a])
    · refine Go_iload_n (pc := 4) dX1_putShade_4 rfl rfl ?_
      refine Go_bipush (pc := 5) dX1_putShade_5 (by decide) (by decide) ?_
      refine Go_icmp_ge (pc := 7) (tgt := 35) dX1_putShade_7 (by decide) (by omega) (by decide) (fun c7 => ?_) (fun c7 => ?_)
      · exact Go_return (pc := 35) dX1_putShade_35 rfl rfl (by first | omega | rw [Int.mul_comm 7 a])
      · refine Go_iload_n (pc := 10) dX1_putShade_10 rfl rfl ?_
        refine Go_if_lt (pc := 11) (tgt := 35) dX1_putShade_11 (by decide) (by omega) (fun c11 => ?_) (fun c11 => ?_)
        · exact Go_return (pc := 35) dX1_putShade_35 rfl rfl (by first | omega | rw [Int.mul_comm 7 a])
        · refine Go_iload_n (pc := 14) dX1_putShade_14 rfl rfl ?_
          refine Go_bipush (pc := 15) dX1_putShade_15 (by decide) (by decide) ?_
          refine Go_icmp_ge (pc := 17) (tgt := 35) dX1_putShade_17 (by decide) (by omega) (by decide) (fun c17 => ?_) (fun c17 => ?_)
          · exact Go_return (pc := 35) dX1_putShade_35 rfl rfl (by first | omega | rw [Int.mul_comm 7 a])
          · refine Go_aload_n (pc := 20) dX1_putShade_20 rfl (by decide) rfl ?_
            refine Go_getr (pc := 21) (r := 4) dX1_putShade_21 fo_X1_11 (by decide) rfl rfl (by decide) ?_
            refine Go_bipush (pc := 24) dX1_putShade_24 (by decide) (by decide) ?_
            refine Go_iload_n (pc := 26) dX1_putShade_26 rfl rfl ?_
            refine Go_bipush (pc := 27) dX1_putShade_27 (by decide) (by decide) ?_
            refine Go_imul (pc := 29) dX1_putShade_29 ?_
            refine Go_iadd (pc := 30) dX1_putShade_30 ?_
            refine Go_iload_n (pc := 31) dX1_putShade_31 rfl rfl ?_
            refine Go_iadd (pc := 32) dX1_putShade_32 ?_
            refine Go_iload_n (pc := 33) dX1_putShade_33 rfl rfl ?_
            refine Go_iastore (pc := 34) dX1_putShade_34 (by decide) rfl (by omega) (by omega) ?_
            refine Go_M (M1 := setR M 4 (updI (M 4) ((7 + (a * 7)) + b) z)) rfl ?_
            exact Go_return (pc := 35) dX1_putShade_35 rfl rfl (by first | omega | rw [Int.mul_comm 7 a])
theorem s_X1_ofString {d h : Nat} (hd : 0 ≤ d) (hh : h = 1 ∨ h = 3) {a b : Int} {M : gMem} (ha : inR a) (h0 : 0 ≤ b) (h1 : b < 4) : Go d RX1 cX1_ofString 3 (some .int) 0 [some (.inr h), some (.inl a), some (.inl b)] [] M (some (.inl (tc (M (h + 1)) a b))) M := by
  rcases hh with rfl | rfl
  · refine Go_iload_n (pc := 0) dX1_ofString_0 rfl rfl ?_
    refine Go_if_lt (pc := 1) (tgt := 18) dX1_ofString_1 (by decide) (by omega) (fun c1 => ?_) (fun c1 => ?_)
    · refine Go_iconst (pc := 18) dX1_ofString_18 ?_
      exact Go_ireturn (pc := 19) dX1_ofString_19 rfl (by first | omega | rw [tc_out _ _ (by omega)] | rw [tc_in _ _ (by omega) (by omega), Int.mul_comm]) rfl
    · refine Go_iload_n (pc := 4) dX1_ofString_4 rfl rfl ?_
      refine Go_iconst (pc := 5) dX1_ofString_5 ?_
      refine Go_icmp_ge (pc := 6) (tgt := 18) dX1_ofString_6 (by decide) (by omega) (by decide) (fun c6 => ?_) (fun c6 => ?_)
      · refine Go_iconst (pc := 18) dX1_ofString_18 ?_
        exact Go_ireturn (pc := 19) dX1_ofString_19 rfl (by first | omega | rw [tc_out _ _ (by omega)] | rw [tc_in _ _ (by omega) (by omega), Int.mul_comm]) rfl
      · refine Go_iload_n (pc := 9) dX1_ofString_9 rfl rfl ?_
        refine Go_if_lt (pc := 10) (tgt := 18) dX1_ofString_10 (by decide) (by omega) (fun c10 => ?_) (fun c10 => ?_)
        · refine Go_iconst (pc := 18) dX1_ofString_18 ?_
          exact Go_ireturn (pc := 19) dX1_ofString_19 rfl (by first | omega | rw [tc_out _ _ (by omega)] | rw [tc_in _ _ (by omega) (by omega), Int.mul_comm]) rfl
        · refine Go_iload_n (pc := 13) dX1_ofString_13 rfl rfl ?_
          refine Go_iconst (pc := 14) dX1_ofString_14 ?_
          refine Go_icmp_lt (pc := 15) (tgt := 20) dX1_ofString_15 (by decide) (by omega) (by decide) (fun c15 => ?_) (fun c15 => ?_)
          · refine Go_aload_n (pc := 20) dX1_ofString_20 rfl (by decide) rfl ?_
            refine Go_getr (pc := 21) (r := 2) dX1_ofString_21 fo_X1_11 (by decide) rfl rfl (by decide) ?_
            refine Go_bipush (pc := 24) dX1_ofString_24 (by decide) (by decide) ?_
            refine Go_iload_n (pc := 26) dX1_ofString_26 rfl rfl ?_
            refine Go_iconst (pc := 27) dX1_ofString_27 ?_
            refine Go_imul (pc := 28) dX1_ofString_28 ?_
            refine Go_iadd (pc := 29) dX1_ofString_29 ?_
            refine Go_iload_n (pc := 30) dX1_ofString_30 rfl rfl ?_
            refine Go_iadd (pc := 31) dX1_ofString_31 ?_
            refine Go_iaload (pc := 32) (z := M 2 ((63 + (a * 4)) + b)) dX1_ofString_32 (by decide) rfl (by omega) (by omega) (rfl) ?_
            exact Go_ireturn (pc := 33) dX1_ofString_33 rfl (by first | omega | rw [tc_out _ _ (by omega)] | rw [tc_in _ _ (by omega) (by omega), Int.mul_comm]) rfl
          · refine Go_iconst (pc := 18) dX1_ofString_18 ?_
            exact Go_ireturn (pc := 19) dX1_ofString_19 rfl (by first | omega | rw [tc_out _ _ (by omega)] | rw [tc_in _ _ (by omega) (by omega), Int.mul_comm]) rfl
  · refine Go_iload_n (pc := 0) dX1_ofString_0 rfl rfl ?_
    refine Go_if_lt (pc := 1) (tgt := 18) dX1_ofString_1 (by decide) (by omega) (fun c1 => ?_) (fun c1 => ?_)
    · refine Go_iconst (pc := 18) dX1_ofString_18 ?_
      exact Go_ireturn (pc := 19) dX1_ofString_19 rfl (by first | omega | rw [tc_out _ _ (by omega)] | rw [tc_in _ _ (by omega) (by omega), Int.mul_comm]) rfl
    · refine Go_iload_n (pc := 4) dX1_ofString_4 rfl rfl ?_
      refine Go_iconst (pc := 5) dX1_ofString_5 ?_
      refine Go_icmp_ge (pc := 6) (tgt := 18) dX1_ofString_6 (by decide) (by omega) (by decide) (fun c6 => ?_) (fun c6 => ?_)
      · refine Go_iconst (pc := 18) dX1_ofString_18 ?_
        exact Go_ireturn (pc := 19) dX1_ofString_19 rfl (by first | omega | rw [tc_out _ _ (by omega)] | rw [tc_in _ _ (by omega) (by omega), Int.mul_comm]) rfl
      · refine Go_iload_n (pc := 9) dX1_ofString_9 rfl rfl ?_
        refine Go_if_lt (pc := 10) (tgt := 18) dX1_ofString_10 (by decide) (by omega) (fun c10 => ?_) (fun c10 => ?_)
        · refine Go_iconst (pc := 18) dX1_ofString_18 ?_
          exact Go_ireturn (pc := 19) dX1_ofString_19 rfl (by first | omega | rw [tc_out _ _ (by omega)] | rw [tc_in _ _ (by omega) (by omega), Int.mul_comm]) rfl
        · refine Go_iload_n (pc := 13) dX1_ofString_13 rfl rfl ?_
          refine Go_iconst (pc := 14) dX1_ofString_14 ?_
          refine Go_icmp_lt (pc := 15) (tgt := 20) dX1_ofString_15 (by decide) (by omega) (by decide) (fun c15 => ?_) (fun c15 => ?_)
          · refine Go_aload_n (pc := 20) dX1_ofString_20 rfl (by decide) rfl ?_
            refine Go_getr (pc := 21) (r := 4) dX1_ofString_21 fo_X1_11 (by decide) rfl rfl (by decide) ?_
            refine Go_bipush (pc := 24) dX1_ofString_24 (by decide) (by decide) ?_
            refine Go_iload_n (pc := 26) dX1_ofString_26 rfl rfl ?_
            refine Go_iconst (pc := 27) dX1_ofString_27 ?_
            refine Go_imul (pc := 28) dX1_ofString_28 ?_
            refine Go_iadd (pc := 29) dX1_ofString_29 ?_
            refine Go_iload_n (pc := 30) dX1_ofString_30 rfl rfl ?_
            refine Go_iadd (pc := 31) dX1_ofString_31 ?_
            refine Go_iaload (pc := 32) (z := M 4 ((63 + (a * 4)) + b)) dX1_ofString_32 (by decide) rfl (by omega) (by omega) (rfl) ?_
            exact Go_ireturn (pc := 33) dX1_ofString_33 rfl (by first | omega | rw [tc_out _ _ (by omega)] | rw [tc_in _ _ (by omega) (by omega), Int.mul_comm]) rfl
          · refine Go_iconst (pc := 18) dX1_ofString_18 ?_
            exact Go_ireturn (pc := 19) dX1_ofString_19 rfl (by first | omega | rw [tc_out _ _ (by omega)] | rw [tc_in _ _ (by omega) (by omega), Int.mul_comm]) rfl
theorem s_X1_putString {d h : Nat} (hd : 0 ≤ d) (hh : h = 1 ∨ h = 3) {a b z : Int} {M : gMem} (a0 : 0 ≤ a) (a1 : a < 4) (h0 : 0 ≤ b) (h1 : b < 4) : Go d RX1 cX1_putString 4 none 0 [some (.inr h), some (.inl a), some (.inl b), some (.inl z)] [] M none (setR M (h + 1) (updI (M (h + 1)) (63 + 4 * a + b) z)) := by
  rcases hh with rfl | rfl
  · refine Go_iload_n (pc := 0) dX1_putString_0 rfl rfl ?_
    refine Go_if_lt (pc := 1) (tgt := 32) dX1_putString_1 (by decide) (by omega) (fun c1 => ?_) (fun c1 => ?_)
    · exact Go_return (pc := 32) dX1_putString_32 rfl rfl (by first | omega | rw [Int.mul_comm 4 a])
    · refine Go_iload_n (pc := 4) dX1_putString_4 rfl rfl ?_
      refine Go_iconst (pc := 5) dX1_putString_5 ?_
      refine Go_icmp_ge (pc := 6) (tgt := 32) dX1_putString_6 (by decide) (by omega) (by decide) (fun c6 => ?_) (fun c6 => ?_)
      · exact Go_return (pc := 32) dX1_putString_32 rfl rfl (by first | omega | rw [Int.mul_comm 4 a])
      · refine Go_iload_n (pc := 9) dX1_putString_9 rfl rfl ?_
        refine Go_if_lt (pc := 10) (tgt := 32) dX1_putString_10 (by decide) (by omega) (fun c10 => ?_) (fun c10 => ?_)
        · exact Go_return (pc := 32) dX1_putString_32 rfl rfl (by first | omega | rw [Int.mul_comm 4 a])
        · refine Go_iload_n (pc := 13) dX1_putString_13 rfl rfl ?_
          refine Go_iconst (pc := 14) dX1_putString_14 ?_
          refine Go_icmp_ge (pc := 15) (tgt := 32) dX1_putString_15 (by decide) (by omega) (by decide) (fun c15 => ?_) (fun c15 => ?_)
          · exact Go_return (pc := 32) dX1_putString_32 rfl rfl (by first | omega | rw [Int.mul_comm 4 a])
          · refine Go_aload_n (pc := 18) dX1_putString_18 rfl (by decide) rfl ?_
            refine Go_getr (pc := 19) (r := 2) dX1_putString_19 fo_X1_11 (by decide) rfl rfl (by decide) ?_
            refine Go_bipush (pc := 22) dX1_putString_22 (by decide) (by decide) ?_
            refine Go_iload_n (pc := 24) dX1_putString_24 rfl rfl ?_
            refine Go_iconst (pc := 25) dX1_putString_25 ?_
            refine Go_imul (pc := 26) dX1_putString_26 ?_
            refine Go_iadd (pc := 27) dX1_putString_27 ?_
            refine Go_iload_n (pc := 28) dX1_putString_28 rfl rfl ?_
            refine Go_iadd (pc := 29) dX1_putString_29 ?_
            refine Go_iload_n (pc := 30) dX1_putString_30 rfl rfl ?_
            refine Go_iastore (pc := 31) dX1_putString_31 (by decide) rfl (by omega) (by omega) ?_
            refine Go_M (M1 := setR M 2 (updI (M 2) ((63 + (a * 4)) + b) z)) rfl ?_
            exact Go_return (pc := 32) dX1_putString_32 rfl rfl (by first | omega | rw [Int.mul_comm 4 a])
  · refine Go_iload_n (pc := 0) dX1_putString_0 rfl rfl ?_
    refine Go_if_lt (pc := 1) (tgt := 32) dX1_putString_1 (by decide) (by omega) (fun c1 => ?_) (fun c1 => ?_)
    · exact Go_return (pc := 32) dX1_putString_32 rfl rfl (by first | omega | rw [Int.mul_comm 4 a])
    · refine Go_iload_n (pc := 4) dX1_putString_4 rfl rfl ?_
      refine Go_iconst (pc := 5) dX1_putString_5 ?_
      refine Go_icmp_ge (pc := 6) (tgt := 32) dX1_putString_6 (by decide) (by omega) (by decide) (fun c6 => ?_) (fun c6 => ?_)
      · exact Go_return (pc := 32) dX1_putString_32 rfl rfl (by first | omega | rw [Int.mul_comm 4 a])
      · refine Go_iload_n (pc := 9) dX1_putString_9 rfl rfl ?_
        refine Go_if_lt (pc := 10) (tgt := 32) dX1_putString_10 (by decide) (by omega) (fun c10 => ?_) (fun c10 => ?_)
        · exact Go_return (pc := 32) dX1_putString_32 rfl rfl (by first | omega | rw [Int.mul_comm 4 a])
        · refine Go_iload_n (pc := 13) dX1_putString_13 rfl rfl ?_
          refine Go_iconst (pc := 14) dX1_putString_14 ?_
          refine Go_icmp_ge (pc := 15) (tgt := 32) dX1_putString_15 (by decide) (by omega) (by decide) (fun c15 => ?_) (fun c15 => ?_)
          · exact Go_return (pc := 32) dX1_putString_32 rfl rfl (by first | omega | rw [Int.mul_comm 4 a])
          · refine Go_aload_n (pc := 18) dX1_putString_18 rfl (by decide) rfl ?_
            refine Go_getr (pc := 19) (r := 4) dX1_putString_19 fo_X1_11 (by decide) rfl rfl (by decide) ?_
            refine Go_bipush (pc := 22) dX1_putString_22 (by decide) (by decide) ?_
            refine Go_iload_n (pc := 24) dX1_putString_24 rfl rfl ?_
            refine Go_iconst (pc := 25) dX1_putString_25 ?_
            refine Go_imul (pc := 26) dX1_putString_26 ?_
            refine Go_iadd (pc := 27) dX1_putString_27 ?_
            refine Go_iload_n (pc := 28) dX1_putString_28 rfl rfl ?_
            refine Go_iadd (pc := 29) dX1_putString_29 ?_
            refine Go_iload_n (pc := 30) dX1_putString_30 rfl rfl ?_
            refine Go_iastore (pc := 31) dX1_putString_31 (by decide) rfl (by omega) (by omega) ?_
            refine Go_M (M1 := setR M 4 (updI (M 4) ((63 + (a * 4)) + b) z)) rfl ?_
            exact Go_return (pc := 32) dX1_putString_32 rfl rfl (by first | omega | rw [Int.mul_comm 4 a])
theorem s_X1_shades {d h : Nat} (hd : 0 ≤ d) (hh : h = 1 ∨ h = 3) {M : gMem} : Go d RX1 cX1_shades 1 (some .int) 0 [some (.inr h)] [] M (some (.inl (M (h + 1) 0))) M := by
  rcases hh with rfl | rfl
  · refine Go_aload_n (pc := 0) dX1_shades_0 rfl (by decide) rfl ?_
    refine Go_getr (pc := 1) (r := 2) dX1_shades_1 fo_X1_11 (by decide) rfl rfl (by decide) ?_
    refine Go_iconst (pc := 4) dX1_shades_4 ?_
    refine Go_iaload (pc := 5) (z := M 2 0) dX1_shades_5 (by decide) rfl (by decide) (by decide) (rfl) ?_
    exact Go_ireturn (pc := 6) dX1_shades_6 rfl (by first | rfl | (simp_all; done)) rfl
  · refine Go_aload_n (pc := 0) dX1_shades_0 rfl (by decide) rfl ?_
    refine Go_getr (pc := 1) (r := 4) dX1_shades_1 fo_X1_11 (by decide) rfl rfl (by decide) ?_
    refine Go_iconst (pc := 4) dX1_shades_4 ?_
    refine Go_iaload (pc := 5) (z := M 4 0) dX1_shades_5 (by decide) rfl (by decide) (by decide) (rfl) ?_
    exact Go_ireturn (pc := 6) dX1_shades_6 rfl (by first | rfl | (simp_all; done)) rfl
theorem s_X1_strings {d h : Nat} (hd : 0 ≤ d) (hh : h = 1 ∨ h = 3) {M : gMem} : Go d RX1 cX1_strings 1 (some .int) 0 [some (.inr h)] [] M (some (.inl (M (h + 1) 1))) M := by
  rcases hh with rfl | rfl
  · refine Go_aload_n (pc := 0) dX1_strings_0 rfl (by decide) rfl ?_
    refine Go_getr (pc := 1) (r := 2) dX1_strings_1 fo_X1_11 (by decide) rfl rfl (by decide) ?_
    refine Go_iconst (pc := 4) dX1_strings_4 ?_
    refine Go_iaload (pc := 5) (z := M 2 1) dX1_strings_5 (by decide) rfl (by decide) (by decide) (rfl) ?_
    exact Go_ireturn (pc := 6) dX1_strings_6 rfl (by first | rfl | (simp_all; done)) rfl
  · refine Go_aload_n (pc := 0) dX1_strings_0 rfl (by decide) rfl ?_
    refine Go_getr (pc := 1) (r := 4) dX1_strings_1 fo_X1_11 (by decide) rfl rfl (by decide) ?_
    refine Go_iconst (pc := 4) dX1_strings_4 ?_
    refine Go_iaload (pc := 5) (z := M 4 1) dX1_strings_5 (by decide) rfl (by decide) (by decide) (rfl) ?_
    exact Go_ireturn (pc := 6) dX1_strings_6 rfl (by first | rfl | (simp_all; done)) rfl
theorem s_X1_copyFrom {d h g : Nat} (hd : 1 ≤ d) (hh : h = 1 ∨ h = 3) (hg : g = 1 ∨ g = 3) {M : gMem} : Go d RX1 cX1_copyFrom 2 none 0 [some (.inr h), some (.inr g)] [] M none (setR M (h + 1) (cpyI (M (g + 1)) (M (h + 1)) 0 0 79)) := by
  rcases hh with rfl | rfl <;> rcases hg with rfl | rfl
  · refine Go_aload_n (pc := 0) dX1_copyFrom_0 rfl (by decide) rfl ?_
    refine Go_getr (pc := 1) (r := 2) dX1_copyFrom_1 fo_X1_11 (by decide) rfl rfl (by decide) ?_
    refine Go_iconst (pc := 4) dX1_copyFrom_4 ?_
    refine Go_aload_n (pc := 5) dX1_copyFrom_5 rfl (by decide) rfl ?_
    refine Go_getr (pc := 6) (r := 2) dX1_copyFrom_6 fo_X1_11 (by decide) rfl rfl (by decide) ?_
    refine Go_iconst (pc := 9) dX1_copyFrom_9 ?_
    refine Go_bipush (pc := 10) dX1_copyFrom_10 (by decide) (by decide) ?_
    refine Go_copy (pc := 12) dX1_copyFrom_12 ln_X1_15 na_copy so_copy in_java_lang_System (by decide) (by decide) rfl rfl (by omega) (by omega) (by omega) (by omega) (by omega) (by omega) (Nat.le_of_ble_eq_true rfl) ?_
    refine Go_M (M1 := setR M 2 (cpyI (M 2) (M 2) 0 0 79)) rfl ?_
    exact Go_return (pc := 15) dX1_copyFrom_15 rfl rfl rfl
  · refine Go_aload_n (pc := 0) dX1_copyFrom_0 rfl (by decide) rfl ?_
    refine Go_getr (pc := 1) (r := 4) dX1_copyFrom_1 fo_X1_11 (by decide) rfl rfl (by decide) ?_
    refine Go_iconst (pc := 4) dX1_copyFrom_4 ?_
    refine Go_aload_n (pc := 5) dX1_copyFrom_5 rfl (by decide) rfl ?_
    refine Go_getr (pc := 6) (r := 2) dX1_copyFrom_6 fo_X1_11 (by decide) rfl rfl (by decide) ?_
    refine Go_iconst (pc := 9) dX1_copyFrom_9 ?_
    refine Go_bipush (pc := 10) dX1_copyFrom_10 (by decide) (by decide) ?_
    refine Go_copy (pc := 12) dX1_copyFrom_12 ln_X1_15 na_copy so_copy in_java_lang_System (by decide) (by decide) rfl rfl (by omega) (by omega) (by omega) (by omega) (by omega) (by omega) (Nat.le_of_ble_eq_true rfl) ?_
    refine Go_M (M1 := setR M 2 (cpyI (M 4) (M 2) 0 0 79)) rfl ?_
    exact Go_return (pc := 15) dX1_copyFrom_15 rfl rfl rfl
  · refine Go_aload_n (pc := 0) dX1_copyFrom_0 rfl (by decide) rfl ?_
    refine Go_getr (pc := 1) (r := 2) dX1_copyFrom_1 fo_X1_11 (by decide) rfl rfl (by decide) ?_
    refine Go_iconst (pc := 4) dX1_copyFrom_4 ?_
    refine Go_aload_n (pc := 5) dX1_copyFrom_5 rfl (by decide) rfl ?_
    refine Go_getr (pc := 6) (r := 4) dX1_copyFrom_6 fo_X1_11 (by decide) rfl rfl (by decide) ?_
    refine Go_iconst (pc := 9) dX1_copyFrom_9 ?_
    refine Go_bipush (pc := 10) dX1_copyFrom_10 (by decide) (by decide) ?_
    refine Go_copy (pc := 12) dX1_copyFrom_12 ln_X1_15 na_copy so_copy in_java_lang_System (by decide) (by decide) rfl rfl (by omega) (by omega) (by omega) (by omega) (by omega) (by omega) (Nat.le_of_ble_eq_true rfl) ?_
    refine Go_M (M1 := setR M 4 (cpyI (M 2) (M 4) 0 0 79)) rfl ?_
    exact Go_return (pc := 15) dX1_copyFrom_15 rfl rfl rfl
  · refine Go_aload_n (pc := 0) dX1_copyFrom_0 rfl (by decide) rfl ?_
    refine Go_getr (pc := 1) (r := 4) dX1_copyFrom_1 fo_X1_11 (by decide) rfl rfl (by decide) ?_
    refine Go_iconst (pc := 4) dX1_copyFrom_4 ?_
    refine Go_aload_n (pc := 5) dX1_copyFrom_5 rfl (by decide) rfl ?_
    refine Go_getr (pc := 6) (r := 4) dX1_copyFrom_6 fo_X1_11 (by decide) rfl rfl (by decide) ?_
    refine Go_iconst (pc := 9) dX1_copyFrom_9 ?_
    refine Go_bipush (pc := 10) dX1_copyFrom_10 (by decide) (by decide) ?_
    refine Go_copy (pc := 12) dX1_copyFrom_12 ln_X1_15 na_copy so_copy in_java_lang_System (by decide) (by decide) rfl rfl (by omega) (by omega) (by omega) (by omega) (by omega) (by omega) (Nat.le_of_ble_eq_true rfl) ?_
    refine Go_M (M1 := setR M 4 (cpyI (M 4) (M 4) 0 0 79)) rfl ?_
    exact Go_return (pc := 15) dX1_copyFrom_15 rfl rfl rfl
