/-! the law: its loop -/
section LAW3
variable {p : Program} {l : Launch} {e : Env} {s : State} {m : MethodId} {b L : Nat} {xs : Nat → Int32} {below : List Frame} {meth : Method} {c : Code} {G : va_G} {ad : gAd} {cI cC : ClassId} {i : Nat} {M : gMem}
theorem lsw {j : Nat} (hj : j < 32) (C : lX p s m meth c b L xs G ad cI cC) (h3 : i + 3 < L) (hI : INV M) (kk : ∀ M2, INV M2 → Lo p l e s m b below meth c G ad cI cC 665 i [] M2) : ∀ (H : Heap) (locs : List Loc) (ls : Array Slot), va_P G vwCl (wd ad cI cC M) H → va_S (lA s) s.heap H locs → lv_has ls 4 [(0, .ref b), (1, .ref (ad.1 0)), (2, .ref (ad.1 16)), (3, .int (nI i))] →
    W p l e room_1 s m #[Value.ref b] below meth c H locs 26 1292 (lw_Z below #[Value.ref b] s) (F0 m 32 ls [.int (nI j)]) := by
  intro H locs ls hP hS hl
  by_cases h21 : 21 ≤ j
  · refine lv_tableOut (tgt := 665) C.1 C.2.1 dL_law_32 (Or.inr ?_) (by decide) (kk M hI H locs ls hP hS hl)
    rw [nI_toInt (by omega)]
    omega
  · rcases (show j = 0 ∨ j = 1 ∨ j = 2 ∨ j = 3 ∨ j = 4 ∨ j = 5 ∨ j = 6 ∨ j = 7 ∨ j = 8 ∨ j = 9 ∨ j = 10 ∨ j = 11 ∨ j = 12 ∨ j = 13 ∨ j = 14 ∨ j = 15 ∨ j = 16 ∨ j = 17 ∨ j = 18 ∨ j = 19 ∨ j = 20 by omega) with rfl | rfl | rfl | rfl | rfl | rfl | rfl | rfl | rfl | rfl | rfl | rfl | rfl | rfl | rfl | rfl | rfl | rfl | rfl | rfl | rfl
    · exact lv_tableIn (off := 100) (tgt := 132) C.1 C.2.1 dL_law_32 (by decide) (by decide) rfl (by decide) (lc_shade C h3 hI kk H locs ls hP hS hl)
    · exact lv_tableIn (off := 133) (tgt := 165) C.1 C.2.1 dL_law_32 (by decide) (by decide) rfl (by decide) (lc_string C h3 hI kk H locs ls hP hS hl)
    · exact lv_tableIn (off := 166) (tgt := 198) C.1 C.2.1 dL_law_32 (by decide) (by decide) rfl (by decide) (lc_pull C h3 hI kk H locs ls hP hS hl)
    · exact lv_tableIn (off := 199) (tgt := 231) C.1 C.2.1 dL_law_32 (by decide) (by decide) rfl (by decide) (lc_untie C h3 hI kk H locs ls hP hS hl)
    · exact lv_tableIn (off := 222) (tgt := 254) C.1 C.2.1 dL_law_32 (by decide) (by decide) rfl (by decide) (lc_tell C h3 hI kk H locs ls hP hS hl)
    · exact lv_tableIn (off := 255) (tgt := 287) C.1 C.2.1 dL_law_32 (by decide) (by decide) rfl (by decide) (lc_untell C h3 hI kk H locs ls hP hS hl)
    · exact lv_tableIn (off := 268) (tgt := 300) C.1 C.2.1 dL_law_32 (by decide) (by decide) rfl (by decide) (lc_pass C h3 hI kk H locs ls hP hS hl)
    · exact lv_tableIn (off := 291) (tgt := 323) C.1 C.2.1 dL_law_32 (by decide) (by decide) rfl (by decide) (lc_set C h3 hI kk H locs ls hP hS hl)
    · exact lv_tableIn (off := 324) (tgt := 356) C.1 C.2.1 dL_law_32 (by decide) (by decide) rfl (by decide) (lc_shadeOf C h3 hI kk H locs ls hP hS hl)
    · exact lv_tableIn (off := 357) (tgt := 389) C.1 C.2.1 dL_law_32 (by decide) (by decide) rfl (by decide) (lc_stringOf C h3 hI kk H locs ls hP hS hl)
    · exact lv_tableIn (off := 390) (tgt := 422) C.1 C.2.1 dL_law_32 (by decide) (by decide) rfl (by decide) (lc_groupAt C h3 hI kk H locs ls hP hS hl)
    · exact lv_tableIn (off := 413) (tgt := 445) C.1 C.2.1 dL_law_32 (by decide) (by decide) rfl (by decide) (lc_would C h3 hI kk H locs ls hP hS hl)
    · exact lv_tableIn (off := 456) (tgt := 488) C.1 C.2.1 dL_law_32 (by decide) (by decide) rfl (by decide) (lc_leastPulls C h3 hI kk H locs ls hP hS hl)
    · exact lv_tableIn (off := 479) (tgt := 511) C.1 C.2.1 dL_law_32 (by decide) (by decide) rfl (by decide) (lc_reallyDo C h3 hI kk H locs ls hP hS hl)
    · exact lv_tableIn (off := 492) (tgt := 524) C.1 C.2.1 dL_law_32 (by decide) (by decide) rfl (by decide) (lc_bestHeight C h3 hI kk H locs ls hP hS hl)
    · exact lv_tableIn (off := 525) (tgt := 557) C.1 C.2.1 dL_law_32 (by decide) (by decide) rfl (by decide) (lc_count C h3 hI kk H locs ls hP hS hl)
    · exact lv_tableIn (off := 548) (tgt := 580) C.1 C.2.1 dL_law_32 (by decide) (by decide) rfl (by decide) (lc_undo C h3 hI kk H locs ls hP hS hl)
    · exact lv_tableIn (off := 561) (tgt := 593) C.1 C.2.1 dL_law_32 (by decide) (by decide) rfl (by decide) (lc_type C h3 hI kk H locs ls hP hS hl)
    · exact lv_tableIn (off := 584) (tgt := 616) C.1 C.2.1 dL_law_32 (by decide) (by decide) rfl (by decide) (lc_clearText C h3 hI kk H locs ls hP hS hl)
    · exact lv_tableIn (off := 597) (tgt := 629) C.1 C.2.1 dL_law_32 (by decide) (by decide) rfl (by decide) (lc_fault C h3 hI kk H locs ls hP hS hl)
    · exact lv_tableIn (off := 620) (tgt := 652) C.1 C.2.1 dL_law_32 (by decide) (by decide) rfl (by decide) (lc_play C h3 hI kk H locs ls hP hS hl)
theorem law_loop (C : lX p s m meth c b L xs G ad cI cC) : ∀ (n i : Nat) (M : gMem), i ≤ L + 3 → L + 4 ≤ i + n → INV M → Lo p l e s m b below meth c G ad cI cC 18 i [] M := by
  intro n
  induction n with
  | zero => intro i M h1 h2; exact absurd h2 (by omega)
  | succ n ih =>
    intro i M h1 h2 hI H locs ls hP hS hl
    have hL : L ≤ 2048 := C.2.2.2.2.2.2.2.2.2.2.2.2.2
    have hbl : b < s.heap.size := C.2.2.2.2.2.2.2.2.2.2.2.2.1
    have hX := C.2.2.2.2.2.2.2.2.2.2.2.1
    refine lv_iload_n C.1 C.2.1 dL_law_18 rfl (lv_at hl 3 rfl) ?_
    refine lv_aload_n C.1 C.2.1 dL_law_19 rfl (lv_at hl 0 rfl) ?_
    refine va_slen C.1 C.2.1 hX hbl (Nat.not_le.mpr hbl) hS dL_law_20 ?_
    refine lv_iconst (v := iI 4) C.1 C.2.1 dL_law_21 rfl ?_
    refine lv_isub C.1 C.2.1 dL_law_22 ?_
    have e1 : Int32.ofNat L - iI 4 = iI ((L : Int) - 4) := by rw [iI_sub, iI_n]; rfl
    have e2 : nI i = iI (i : Int) := (iI_n i).symm
    refine lv_icmp_gt (tgt := 671) C.1 C.2.1 dL_law_23 (by decide) (fun c1 => ?_) (fun c1 => ?_)
    · refine lv_iconst (v := 1) C.1 C.2.1 dL_law_671 rfl ?_
      refine va_forget (fun q hq => hS.2.2 q hq) ?_
      refine W.widen (k := 600000) (n := 7302249) (Nat.le_of_ble_eq_true rfl) (Nat.le_of_ble_eq_true rfl) ?_
      exact lw_ret C.1 C.2.1 C.2.2.2.1 C.2.2.2.2.1 dL_law_672
    · have h3 : i + 3 < L := by
        rw [e1, e2, iI_lt ⟨by omega, by omega⟩ ⟨by omega, by omega⟩] at c1
        omega
      refine lv_aload_n C.1 C.2.1 dL_law_26 rfl (lv_at hl 0 rfl) ?_
      refine lv_iload_n C.1 C.2.1 dL_law_27 rfl (lv_at hl 3 rfl) ?_
      refine va_sld C.1 C.2.1 hX hbl (Nat.not_le.mpr hbl) hS (vp_in_nI (show i < L by omega) (by omega)) dL_law_28 ?_
      refine lv_bipush (v := 31) C.1 C.2.1 dL_law_29 (by decide) ?_
      refine lv_iand C.1 C.2.1 dL_law_31 ?_
      obtain ⟨j, hj, ej⟩ := pk_andE (xs (nI i).toNatClampNeg) (m := 31) 5 (by decide)
      rw [ej]
      refine lsw (j := j) hj C h3 hI (fun M2 hI2 => ?_) H locs ls hP hS hl
      intro H2 locs2 ls2 hP2 hS2 hl2
      refine lv_iinc (v := nI (i + 4)) (lv' := [(3, .int (nI (i + 4))), (0, .ref b), (1, .ref (ad.1 0)), (2, .ref (ad.1 16))]) C.1 C.2.1 dL_law_665 hl2 (k := 3) rfl (by rw [← nI_add]; rfl) (by decide) rfl (fun ls3 hl3 => ?_)
      refine lv_goto (tgt := 18) C.1 C.2.1 dL_law_668 (by decide) ?_
      exact ih (i + 4) M2 (by omega) (by omega) hI2 H2 locs2 ls3 hP2 hS2 (lv_sub hl3 [1, 2, 3, 0] rfl)
end LAW3
