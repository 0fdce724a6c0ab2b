/-! the class: a step of a pull -/
theorem gand_or {a b c : Int} (ha : 0 ≤ a ∧ a < 256) (hb : 0 ≤ b ∧ b < 256) (hc : 0 ≤ c ∧ c < 256) : gand (gor a b) c = 0 ↔ gand a c = 0 ∧ gand b c = 0 := by
  obtain ⟨x, hx, rfl⟩ := nat_of ha.1 ha.2
  obtain ⟨y, hy, rfl⟩ := nat_of hb.1 hb.2
  obtain ⟨z, hz, rfl⟩ := nat_of hc.1 hc.2
  have hxy : x ||| y < 2 ^ 8 := Nat.or_lt_two_pow (by omega) (by omega)
  rw [gor_n (by omega) (by omega), gand_n (by omega), gand_n (by omega), gand_n (by omega), Nat.and_or_distrib_right]
  have e : ((x &&& z ||| y &&& z : Nat) = 0) ↔ ((x &&& z : Nat) = 0) ∧ ((y &&& z : Nat) = 0) := Nat.or_eq_zero_iff
  omega
theorem gand_z {b : Int} (h : 0 ≤ b ∧ b < 256) : gand 0 b = 0 := by
  obtain ⟨z, hz, rfl⟩ := nat_of h.1 h.2
  have e := gand_n (a := 0) (b := z) (by decide)
  rw [Nat.zero_and] at e
  exact e
theorem RSp_up {r s : Int} {mv : Int → Int} {b e : Int} (h : RSp r s mv) (b0 : 0 ≤ b) (be : b ≤ e) (e8 : e < 8) (hz : ∀ k, b ≤ k → mv k = 0) : RSp (gor r (gm b e)) s (mvU mv b (e + 1) 1) := by
  obtain ⟨h1, h2, h3⟩ := h
  have hm := gm_b b0 be e8
  refine ⟨gor_b h1 hm, h2, fun k k0 k1 => ?_⟩
  have a := h3 k k0 k1
  have g := gand_or h1 hm (gbit k0 k1)
  have m := gm_mem b0 be e8 k0 k1
  have z := hz k
  unfold mvU
  by_cases q : b ≤ k ∧ k < e + 1
  · rw [if_pos q]; omega
  · rw [if_neg q]; omega
theorem RSp_dn {r s : Int} {mv : Int → Int} {b e : Int} (h : RSp r s mv) (b0 : 0 ≤ b) (be : b ≤ e) (e8 : e < 8) (hz : ∀ k, b ≤ k → mv k = 0) : RSp r (gor s (gm b e)) (mvU mv b (e + 1) (-1)) := by
  obtain ⟨h1, h2, h3⟩ := h
  have hm := gm_b b0 be e8
  refine ⟨h1, gor_b h2 hm, fun k k0 k1 => ?_⟩
  have a := h3 k k0 k1
  have g := gand_or h2 hm (gbit k0 k1)
  have m := gm_mem b0 be e8 k0 k1
  have z := hz k
  unfold mvU
  by_cases q : b ≤ k ∧ k < e + 1
  · rw [if_pos q]; omega
  · rw [if_neg q]; omega
theorem gst_no {u w b : Int} {P mv : Int → Int} {j : Int} (h1 : gand (gm b (endG P b)) u = 0) (h2 : gand (gm b (endG P b)) w = 0) : gst u w (P, mv, j) b = (P, mv, j) := by
  unfold gst
  rw [if_neg (fun z => z.1 h1), if_neg (fun z => z h1), if_neg (fun z => z h2)]
theorem gst_jam {u w b : Int} {P mv : Int → Int} {j : Int} (h1 : ¬ gand (gm b (endG P b)) u = 0) (h2 : ¬ gand (gm b (endG P b)) w = 0) : gst u w (P, mv, j) b = (deepR P b (endG P b), mv, j + 1) := by
  unfold gst
  rw [if_pos ⟨h1, h2⟩]
theorem gst_u0 {u w b : Int} {P mv : Int → Int} {j : Int} (h1 : ¬ gand (gm b (endG P b)) u = 0) (h2 : gand (gm b (endG P b)) w = 0) (h3 : ¬ badZ P b (endG P b) 1 (P 0) = 0) : gst u w (P, mv, j) b = (P, mv, j) := by
  unfold gst
  rw [if_neg (fun z => z.2 h2), if_pos h1, if_neg h3]
theorem gst_u1 {u w b : Int} {P mv : Int → Int} {j : Int} (h1 : ¬ gand (gm b (endG P b)) u = 0) (h2 : gand (gm b (endG P b)) w = 0) (h3 : badZ P b (endG P b) 1 (P 0) = 0) : gst u w (P, mv, j) b = (movR P b (endG P b + 1) 1, mvU mv b (endG P b + 1) 1, j) := by
  unfold gst
  rw [if_neg (fun z => z.2 h2), if_pos h1, if_pos h3]
theorem gst_d0 {u w b : Int} {P mv : Int → Int} {j : Int} (h1 : gand (gm b (endG P b)) u = 0) (h2 : ¬ gand (gm b (endG P b)) w = 0) (h3 : ¬ badZ P b (endG P b) (-1) (P 0) = 0) : gst u w (P, mv, j) b = (P, mv, j) := by
  unfold gst
  rw [if_neg (fun z => z.1 h1), if_neg (fun z => z h1), if_pos h2, if_neg h3]
theorem gst_d1 {u w b : Int} {P mv : Int → Int} {j : Int} (h1 : gand (gm b (endG P b)) u = 0) (h2 : ¬ gand (gm b (endG P b)) w = 0) (h3 : badZ P b (endG P b) (-1) (P 0) = 0) : gst u w (P, mv, j) b = (movR P b (endG P b + 1) (-1), mvU mv b (endG P b + 1) (-1), j) := by
  unfold gst
  rw [if_neg (fun z => z.1 h1), if_neg (fun z => z h1), if_pos h2, if_pos h3]
/-- nothing has moved from the lowest shade of a group on that is still to come -/
def notY (i : Int) (P mv : Int → Int) : Prop := ∀ l, i ≤ l → l < P 0 → sc P (l - 1) 3 = 0 → ∀ k, l ≤ k → mv k = 0
theorem notY_s {i : Int} {P mv : Int → Int} (h : notY i P mv) : notY (i + 1) P mv := fun l a b c k q => h l (by omega) b c k q
theorem notY_g {i : Int} {P Q mv : Int → Int} (hW : Wf P) (i0 : 0 ≤ i) (i1 : i < P 0) (h : notY i P mv) (hz : sc P (i - 1) 3 = 0) (q0 : Q 0 = P 0) (hk : ∀ k, 0 ≤ k → k < 8 → (0 < sc Q k 3 ↔ 0 < sc P k 3)) (hQ : Wf Q) (y : Int) : notY (i + 1) Q (mvU mv i (endG P i + 1) y) := by
  intro l a b c k q
  have n := hW.n
  have e1 := hk (l - 1) (by omega) (by omega)
  have e2 := hW.kn (l - 1)
  have e3 := endG_kn (f := P) (b := i) (l - 1) (by omega)
  unfold mvU
  rw [if_neg (by omega)]
  exact h i (Int.le_refl i) i1 hz k (by omega)
theorem notY_d {i : Int} {P Q mv : Int → Int} (hW : Wf P) (i0 : 0 ≤ i) (h : notY i P mv) (q0 : Q 0 = P 0) (hk : ∀ k, 0 ≤ k → k < 8 → (0 < sc Q k 3 ↔ 0 < sc P k 3)) : notY (i + 1) Q mv := by
  intro l a b c k q
  have n := hW.n
  have e1 := hk (l - 1) (by omega) (by omega)
  have e2 := hW.kn (l - 1)
  exact h l (by omega) (by omega) (by omega) k q
theorem s_X6_stepOf {d : Nat} (hd : 4 ≤ d) {u w : Int} {M : gMem} (hW : Wf (M 4)) (hu : inR u) (hw : inR w) : Go d RX6 cX6_stepOf 10 (some .int) 0 [some (.inr 3), some (.inl u), some (.inl w), none, none, none, none, none, none, none] [] M (some (.inl (stepJ (M 4) u w))) (setR M 4 (stepR (M 4) u w)) := by
  have hn := hW.n
  have K : ∀ i, 0 ≤ i → i ≤ M 4 0 → ∀ (P mv : Int → Int) (r s j : Int) (x y z : Option MV), Wf P → P 0 = M 4 0 → RSp r s mv → notY i P mv → Go d RX6 cX6_stepOf 10 (some .int) 11 [some (.inr 3), some (.inl u), some (.inl w), some (.inl r), some (.inl s), some (.inl j), some (.inl i), x, y, z] [] (setR M 4 P) (some (.inl (gph u w (M 4 0) i (P, mv, j)).2.2)) (setR M 4 (tieZ (gph u w (M 4 0) i (P, mv, j)).1 (gph u w (M 4 0) i (P, mv, j)).2.1 (M 4 0 - 1))) := by
    refine up_ind 0 (M 4 0) _ (fun i h0 h1 ih P mv r s j x y z hW4 q0 hrs hnot => ?_)
    have he : i < P 0 → i ≤ endG P i ∧ endG P i < P 0 := fun q => endG_b (f := P) (k := i) q
    refine Go_iload (pc := 11) dX6_stepOf_11 rfl ?_
    refine Go_aload_n (pc := 13) dX6_stepOf_13 rfl (by decide) rfl ?_
    refine Go_invV (pc := 14) (y := yX1_shades) (avs := []) (k := 3) (rest := [.inl i]) (x := .inl (P 0))  (d' := d - 1) dX6_stepOf_14 ln_X6_10 mo_X1_shades vo_X1_shades rfl (rc_3) rfl rfl (Nat.le_of_ble_eq_true rfl) (by omega) (Nat.le_of_ble_eq_true rfl) rfl (s_X1_shades (by omega) (by decide)) ?_
    refine Go_icmp_ge (pc := 17) (tgt := 138) dX6_stepOf_17 (by decide) (by omega) (by omega) (fun c17 => ?_) (fun c17 => ?_)
    · refine Go_aload_n (pc := 138) dX6_stepOf_138 rfl (by decide) rfl ?_
      refine Go_iload_n (pc := 139) dX6_stepOf_139 rfl rfl ?_
      refine Go_iload (pc := 140) dX6_stepOf_140 rfl ?_
      refine Go_invSv (pc := 142) (y := yX6_tie) (avs := [.inr 3, .inl r, .inl s]) (rest := [])   (d' := d - 1) dX6_stepOf_142 ln_X6_68 mo_X6_tie so_X6_tie rfl rfl rfl (Nat.le_of_ble_eq_true rfl) (by omega) (Nat.le_of_ble_eq_true rfl) rfl (s_X6_tie (by omega) hW4 hrs) ?_
      refine Go_M (M1 := setR M 4 (tieZ P mv (P 0 - 1))) ((setR_tw _ _ _ _).trans rfl) ?_
      refine Go_iload (pc := 145) dX6_stepOf_145 rfl ?_
      exact Go_ireturn (pc := 147) dX6_stepOf_147 rfl (by rw [gph_out (by omega)]) (by rw [gph_out (by omega), q0])
    · refine Go_aload_n (pc := 20) dX6_stepOf_20 rfl (by decide) rfl ?_
      refine Go_iload (pc := 21) dX6_stepOf_21 rfl ?_
      refine Go_invV (pc := 23) (y := yX1_isLowestOfGroup) (avs := [.inl i]) (k := 3) (rest := []) (x := .inl (b2i (sc P (i - 1) 3 = 0)))  (d' := d - 1) dX6_stepOf_23 ln_X6_54 mo_X1_isLowestOfGroup vo_X1_isLowestOfGroup rfl (rc_3) rfl rfl (Nat.le_of_ble_eq_true rfl) (by omega) (Nat.le_of_ble_eq_true rfl) rfl (s_X1_isLowestOfGroup (by omega) (by decide) (by first | omega | (simp only [Nat.reduceAdd, setR_s]; omega)) (by first | omega | (simp only [Nat.reduceAdd, setR_s]; omega)) hW4) ?_
      refine Go_ifeqB (pc := 26) (tgt := 132) dX6_stepOf_26 (by decide) (fun c26 => ?_) (fun c26 => ?_)
      · refine Go_iinc (pc := 132) (L' := [some (.inr 3), some (.inl u), some (.inl w), some (.inl r), some (.inl s), some (.inl j), some (.inl (i + 1)), x, y, z]) dX6_stepOf_132 rfl (by decide) rfl ?_
        refine Go_goto (pc := 135) (tgt := 11) dX6_stepOf_135 (by decide) ?_
        rw [gph_go (by omega), if_neg (by first | exact c26 | omega)]
        exact ih (by omega) P mv r s j _ _ _ hW4 q0 hrs (notY_s hnot)
      · refine Go_aload_n (pc := 29) dX6_stepOf_29 rfl (by decide) rfl ?_
        refine Go_iload (pc := 30) dX6_stepOf_30 rfl ?_
        refine Go_invV (pc := 32) (y := yX1_groupOf) (avs := [.inl i]) (k := 3) (rest := []) (x := .inl (gm i (endG P i)))  (d' := d - 1) dX6_stepOf_32 ln_X6_57 mo_X1_groupOf vo_X1_groupOf rfl (rc_3) rfl rfl (Nat.le_of_ble_eq_true rfl) (by omega) (Nat.le_of_ble_eq_true rfl) rfl (s_X1_groupOf_low (by omega) hW4 (by first | omega | (simp only [Nat.reduceAdd, setR_s]; omega)) (by first | omega | (simp only [Nat.reduceAdd, setR_s]; omega)) c26) ?_
        refine Go_istore (pc := 35) (L' := [some (.inr 3), some (.inl u), some (.inl w), some (.inl r), some (.inl s), some (.inl j), some (.inl i), some (.inl (gm i (endG P i))), y, z]) dX6_stepOf_35 (by decide) rfl ?_
        refine Go_iload (pc := 37) dX6_stepOf_37 rfl ?_
        refine Go_iload_n (pc := 39) dX6_stepOf_39 rfl rfl ?_
        refine Go_iand (pc := 40) dX6_stepOf_40 ?_
        refine Go_if_eq (pc := 41) (tgt := 48) dX6_stepOf_41 (by decide) (inR_gand _ _) (fun c41 => ?_) (fun c41 => ?_)
        · refine Go_iconst (pc := 48) dX6_stepOf_48 ?_
          refine Go_istore (pc := 49) (L' := [some (.inr 3), some (.inl u), some (.inl w), some (.inl r), some (.inl s), some (.inl j), some (.inl i), some (.inl (gm i (endG P i))), some (.inl 0), z]) dX6_stepOf_49 (by decide) rfl ?_
          refine Go_iload (pc := 51) dX6_stepOf_51 rfl ?_
          refine Go_iload_n (pc := 53) dX6_stepOf_53 rfl rfl ?_
          refine Go_iand (pc := 54) dX6_stepOf_54 ?_
          refine Go_if_eq (pc := 55) (tgt := 62) dX6_stepOf_55 (by decide) (inR_gand _ _) (fun c55 => ?_) (fun c55 => ?_)
          · refine Go_iconst (pc := 62) dX6_stepOf_62 ?_
            refine Go_istore (pc := 63) (L' := [some (.inr 3), some (.inl u), some (.inl w), some (.inl r), some (.inl s), some (.inl j), some (.inl i), some (.inl (gm i (endG P i))), some (.inl 0), some (.inl 0)]) dX6_stepOf_63 (by decide) rfl ?_
            refine Go_iload (pc := 65) dX6_stepOf_65 rfl ?_
            refine Go_if_eq (pc := 67) (tgt := 87) dX6_stepOf_67 (by decide) (by decide) (fun _ => ?_) (fun q => absurd q (by decide))
            refine Go_iload (pc := 87) dX6_stepOf_87 rfl ?_
            refine Go_if_eq (pc := 89) (tgt := 110) dX6_stepOf_89 (by decide) (by decide) (fun _ => ?_) (fun q => absurd q (by decide))
            refine Go_iload (pc := 110) dX6_stepOf_110 rfl ?_
            refine Go_if_eq (pc := 112) (tgt := 132) dX6_stepOf_112 (by decide) (by decide) (fun _ => ?_) (fun q => absurd q (by decide))
            refine Go_iinc (pc := 132) (L' := [some (.inr 3), some (.inl u), some (.inl w), some (.inl r), some (.inl s), some (.inl j), some (.inl (i + 1)), some (.inl (gm i (endG P i))), some (.inl 0), some (.inl 0)]) dX6_stepOf_132 rfl (by decide) rfl ?_
            refine Go_goto (pc := 135) (tgt := 11) dX6_stepOf_135 (by decide) ?_
            rw [gph_go (by omega), if_pos (by first | exact c26 | omega), gst_no c41 (by assumption)]
            exact ih (by omega) P mv r s j _ _ _ hW4 q0 hrs (notY_s hnot)
          · refine Go_iconst (pc := 58) dX6_stepOf_58 ?_
            refine Go_goto (pc := 59) (tgt := 63) dX6_stepOf_59 (by decide) ?_
            refine Go_istore (pc := 63) (L' := [some (.inr 3), some (.inl u), some (.inl w), some (.inl r), some (.inl s), some (.inl j), some (.inl i), some (.inl (gm i (endG P i))), some (.inl 0), some (.inl 1)]) dX6_stepOf_63 (by decide) rfl ?_
            refine Go_iload (pc := 65) dX6_stepOf_65 rfl ?_
            refine Go_if_eq (pc := 67) (tgt := 87) dX6_stepOf_67 (by decide) (by decide) (fun _ => ?_) (fun q => absurd q (by decide))
            refine Go_iload (pc := 87) dX6_stepOf_87 rfl ?_
            refine Go_if_eq (pc := 89) (tgt := 110) dX6_stepOf_89 (by decide) (by decide) (fun _ => ?_) (fun q => absurd q (by decide))
            refine Go_iload (pc := 110) dX6_stepOf_110 rfl ?_
            refine Go_if_eq (pc := 112) (tgt := 132) dX6_stepOf_112 (by decide) (by decide) (fun q => absurd q (by decide)) (fun _ => ?_)
            refine Go_aload_n (pc := 115) dX6_stepOf_115 rfl (by decide) rfl ?_
            refine Go_iload (pc := 116) dX6_stepOf_116 rfl ?_
            refine Go_iconst (pc := 118) dX6_stepOf_118 ?_
            refine Go_invS (pc := 119) (y := yX6_moveGroup) (avs := [.inr 3, .inl (gm i (endG P i)), .inl (-1)]) (rest := []) (x := .inl (b2i (badZ P i (endG P i) (-1) (P 0) = 0)))  (d' := d - 1) dX6_stepOf_119 ln_X6_64 mo_X6_moveGroup so_X6_moveGroup rfl rfl rfl (Nat.le_of_ble_eq_true rfl) (by omega) (Nat.le_of_ble_eq_true rfl) rfl (s_X6_moveGroup (by omega) (by decide) hW4 (grp_end hW4 h0 (by omega))) ?_
            refine Go_M (M1 := setR M 4 (if badZ P i (endG P i) (-1) (P 0) = 0 then movR P i ((endG P i) + 1) (-1) else P)) ((setR_tw _ _ _ _).trans rfl) ?_
            refine Go_ifeqB (pc := 122) (tgt := 132) dX6_stepOf_122 (by decide) (fun c122 => ?_) (fun c122 => ?_)
            · refine Go_iinc (pc := 132) (L' := [some (.inr 3), some (.inl u), some (.inl w), some (.inl r), some (.inl s), some (.inl j), some (.inl (i + 1)), some (.inl (gm i (endG P i))), some (.inl 0), some (.inl 1)]) dX6_stepOf_132 rfl (by decide) rfl ?_
              refine Go_goto (pc := 135) (tgt := 11) dX6_stepOf_135 (by decide) ?_
              rw [gph_go (by omega), if_pos c26, gst_d0 c41 c55 c122]
              exact Go_M (by rw [if_neg c122]) (ih (by omega) P mv r s j _ _ _ hW4 q0 hrs (notY_s hnot))
            · refine Go_iload (pc := 125) dX6_stepOf_125 rfl ?_
              refine Go_iload (pc := 127) dX6_stepOf_127 rfl ?_
              refine Go_ior (pc := 129) dX6_stepOf_129 ?_
              refine Go_istore (pc := 130) (L' := [some (.inr 3), some (.inl u), some (.inl w), some (.inl r), some (.inl (gor s (gm i (endG P i)))), some (.inl j), some (.inl i), some (.inl (gm i (endG P i))), some (.inl 0), some (.inl 1)]) dX6_stepOf_130 (by decide) rfl ?_
              refine Go_iinc (pc := 132) (L' := [some (.inr 3), some (.inl u), some (.inl w), some (.inl r), some (.inl (gor s (gm i (endG P i)))), some (.inl j), some (.inl (i + 1)), some (.inl (gm i (endG P i))), some (.inl 0), some (.inl 1)]) dX6_stepOf_132 rfl (by decide) rfl ?_
              refine Go_goto (pc := 135) (tgt := 11) dX6_stepOf_135 (by decide) ?_
              have e4 := he (by omega)
              have g := gst_W (u := u) (w := w) (σ := (P, mv, j)) hW4 h0 (by show i < P 0; omega)
              rw [gst_d1 c41 c55 c122] at g
              have g0 : movR P i (endG P i + 1) (-1) 0 = P 0 := g.2.1 0 (by decide)
              rw [gph_go (by omega), if_pos c26, gst_d1 c41 c55 c122]
              exact Go_M (by rw [if_pos c122]) (ih (by omega) _ _ r _ j _ _ _ g.1 (g0.trans q0) (RSp_dn hrs h0 e4.1 (by omega) (hnot i (by omega) (by omega) c26)) (notY_g hW4 h0 (by omega) hnot c26 g0 g.2.2.1 g.1 _))
        · refine Go_iconst (pc := 44) dX6_stepOf_44 ?_
          refine Go_goto (pc := 45) (tgt := 49) dX6_stepOf_45 (by decide) ?_
          refine Go_istore (pc := 49) (L' := [some (.inr 3), some (.inl u), some (.inl w), some (.inl r), some (.inl s), some (.inl j), some (.inl i), some (.inl (gm i (endG P i))), some (.inl 1), z]) dX6_stepOf_49 (by decide) rfl ?_
          refine Go_iload (pc := 51) dX6_stepOf_51 rfl ?_
          refine Go_iload_n (pc := 53) dX6_stepOf_53 rfl rfl ?_
          refine Go_iand (pc := 54) dX6_stepOf_54 ?_
          refine Go_if_eq (pc := 55) (tgt := 62) dX6_stepOf_55 (by decide) (inR_gand _ _) (fun c55a => ?_) (fun c55a => ?_)
          · refine Go_iconst (pc := 62) dX6_stepOf_62 ?_
            refine Go_istore (pc := 63) (L' := [some (.inr 3), some (.inl u), some (.inl w), some (.inl r), some (.inl s), some (.inl j), some (.inl i), some (.inl (gm i (endG P i))), some (.inl 1), some (.inl 0)]) dX6_stepOf_63 (by decide) rfl ?_
            refine Go_iload (pc := 65) dX6_stepOf_65 rfl ?_
            refine Go_if_eq (pc := 67) (tgt := 87) dX6_stepOf_67 (by decide) (by decide) (fun q => absurd q (by decide)) (fun _ => ?_)
            refine Go_iload (pc := 70) dX6_stepOf_70 rfl ?_
            refine Go_if_eq (pc := 72) (tgt := 87) dX6_stepOf_72 (by decide) (by decide) (fun _ => ?_) (fun q => absurd q (by decide))
            refine Go_iload (pc := 87) dX6_stepOf_87 rfl ?_
            refine Go_if_eq (pc := 89) (tgt := 110) dX6_stepOf_89 (by decide) (by decide) (fun q => absurd q (by decide)) (fun _ => ?_)
            refine Go_aload_n (pc := 92) dX6_stepOf_92 rfl (by decide) rfl ?_
            refine Go_iload (pc := 93) dX6_stepOf_93 rfl ?_
            refine Go_iconst (pc := 95) dX6_stepOf_95 ?_
            refine Go_invS (pc := 96) (y := yX6_moveGroup) (avs := [.inr 3, .inl (gm i (endG P i)), .inl 1]) (rest := []) (x := .inl (b2i (badZ P i (endG P i) 1 (P 0) = 0)))  (d' := d - 1) dX6_stepOf_96 ln_X6_64 mo_X6_moveGroup so_X6_moveGroup rfl rfl rfl (Nat.le_of_ble_eq_true rfl) (by omega) (Nat.le_of_ble_eq_true rfl) rfl (s_X6_moveGroup (by omega) (by decide) hW4 (grp_end hW4 h0 (by omega))) ?_
            refine Go_M (M1 := setR M 4 (if badZ P i (endG P i) 1 (P 0) = 0 then movR P i ((endG P i) + 1) 1 else P)) ((setR_tw _ _ _ _).trans rfl) ?_
            refine Go_ifeqB (pc := 99) (tgt := 110) dX6_stepOf_99 (by decide) (fun c99 => ?_) (fun c99 => ?_)
            · refine Go_iload (pc := 110) dX6_stepOf_110 rfl ?_
              refine Go_if_eq (pc := 112) (tgt := 132) dX6_stepOf_112 (by decide) (by decide) (fun _ => ?_) (fun q => absurd q (by decide))
              refine Go_iinc (pc := 132) (L' := [some (.inr 3), some (.inl u), some (.inl w), some (.inl r), some (.inl s), some (.inl j), some (.inl (i + 1)), some (.inl (gm i (endG P i))), some (.inl 1), some (.inl 0)]) dX6_stepOf_132 rfl (by decide) rfl ?_
              refine Go_goto (pc := 135) (tgt := 11) dX6_stepOf_135 (by decide) ?_
              rw [gph_go (by omega), if_pos c26, gst_u0 c41 c55a c99]
              exact Go_M (by rw [if_neg c99]) (ih (by omega) P mv r s j _ _ _ hW4 q0 hrs (notY_s hnot))
            · refine Go_iload_n (pc := 102) dX6_stepOf_102 rfl rfl ?_
              refine Go_iload (pc := 103) dX6_stepOf_103 rfl ?_
              refine Go_ior (pc := 105) dX6_stepOf_105 ?_
              refine Go_istore_n (pc := 106) (L' := [some (.inr 3), some (.inl u), some (.inl w), some (.inl (gor r (gm i (endG P i)))), some (.inl s), some (.inl j), some (.inl i), some (.inl (gm i (endG P i))), some (.inl 1), some (.inl 0)]) dX6_stepOf_106 rfl (by decide) rfl ?_
              refine Go_goto (pc := 107) (tgt := 132) dX6_stepOf_107 (by decide) ?_
              refine Go_iinc (pc := 132) (L' := [some (.inr 3), some (.inl u), some (.inl w), some (.inl (gor r (gm i (endG P i)))), some (.inl s), some (.inl j), some (.inl (i + 1)), some (.inl (gm i (endG P i))), some (.inl 1), some (.inl 0)]) dX6_stepOf_132 rfl (by decide) rfl ?_
              refine Go_goto (pc := 135) (tgt := 11) dX6_stepOf_135 (by decide) ?_
              have e4 := he (by omega)
              have g := gst_W (u := u) (w := w) (σ := (P, mv, j)) hW4 h0 (by show i < P 0; omega)
              rw [gst_u1 c41 c55a c99] at g
              have g0 : movR P i (endG P i + 1) 1 0 = P 0 := g.2.1 0 (by decide)
              rw [gph_go (by omega), if_pos c26, gst_u1 c41 c55a c99]
              exact Go_M (by rw [if_pos c99]) (ih (by omega) _ _ _ s j _ _ _ g.1 (g0.trans q0) (RSp_up hrs h0 e4.1 (by omega) (hnot i (by omega) (by omega) c26)) (notY_g hW4 h0 (by omega) hnot c26 g0 g.2.2.1 g.1 _))
          · refine Go_iconst (pc := 58) dX6_stepOf_58 ?_
            refine Go_goto (pc := 59) (tgt := 63) dX6_stepOf_59 (by decide) ?_
            refine Go_istore (pc := 63) (L' := [some (.inr 3), some (.inl u), some (.inl w), some (.inl r), some (.inl s), some (.inl j), some (.inl i), some (.inl (gm i (endG P i))), some (.inl 1), some (.inl 1)]) dX6_stepOf_63 (by decide) rfl ?_
            refine Go_iload (pc := 65) dX6_stepOf_65 rfl ?_
            refine Go_if_eq (pc := 67) (tgt := 87) dX6_stepOf_67 (by decide) (by decide) (fun q => absurd q (by decide)) (fun _ => ?_)
            refine Go_iload (pc := 70) dX6_stepOf_70 rfl ?_
            refine Go_if_eq (pc := 72) (tgt := 87) dX6_stepOf_72 (by decide) (by decide) (fun q => absurd q (by decide)) (fun _ => ?_)
            refine Go_aload_n (pc := 75) dX6_stepOf_75 rfl (by decide) rfl ?_
            refine Go_iload (pc := 76) dX6_stepOf_76 rfl ?_
            refine Go_invSv (pc := 78) (y := yX6_deepen) (avs := [.inr 3, .inl (gm i (endG P i))]) (rest := [])   (d' := d - 1) dX6_stepOf_78 ln_X6_60 mo_X6_deepen so_X6_deepen rfl rfl rfl (Nat.le_of_ble_eq_true rfl) (by omega) (Nat.le_of_ble_eq_true rfl) rfl (s_X6_deepen (by omega) hW4 (grp_end hW4 h0 (by omega))) ?_
            refine Go_M (M1 := setR M 4 (deepR P i (endG P i))) ((setR_tw _ _ _ _).trans rfl) ?_
            refine Go_iinc (pc := 81) (L' := [some (.inr 3), some (.inl u), some (.inl w), some (.inl r), some (.inl s), some (.inl (j + 1)), some (.inl i), some (.inl (gm i (endG P i))), some (.inl 1), some (.inl 1)]) dX6_stepOf_81 rfl (by decide) rfl ?_
            refine Go_goto (pc := 84) (tgt := 132) dX6_stepOf_84 (by decide) ?_
            refine Go_iinc (pc := 132) (L' := [some (.inr 3), some (.inl u), some (.inl w), some (.inl r), some (.inl s), some (.inl (j + 1)), some (.inl (i + 1)), some (.inl (gm i (endG P i))), some (.inl 1), some (.inl 1)]) dX6_stepOf_132 rfl (by decide) rfl ?_
            refine Go_goto (pc := 135) (tgt := 11) dX6_stepOf_135 (by decide) ?_
            have g := gst_W (u := u) (w := w) (σ := (P, mv, j)) hW4 h0 (by show i < P 0; omega)
            rw [gst_jam c41 c55a] at g
            have g0 : deepR P i (endG P i) 0 = P 0 := g.2.1 0 (by decide)
            rw [gph_go (by omega), if_pos c26, gst_jam c41 c55a]
            exact ih (by omega) _ _ r s _ _ _ _ g.1 (g0.trans q0) hrs (notY_d hW4 h0 hnot g0 g.2.2.1)
  have hrs0 : RSp 0 0 (fun _ => 0) := by
    refine ⟨by omega, by omega, fun k k0 k1 => ?_⟩
    rw [gand_z (gbit k0 k1)]
    exact ⟨Or.inr (Or.inl rfl), by show (¬ (0 : Int) = 0 ↔ (0 : Int) = 1); decide, by show (¬ (0 : Int) = 0 ↔ (0 : Int) = -1); decide⟩
  refine Go_iconst (pc := 0) dX6_stepOf_0 ?_
  refine Go_istore_n (pc := 1) (L' := [some (.inr 3), some (.inl u), some (.inl w), some (.inl 0), none, none, none, none, none, none]) dX6_stepOf_1 rfl (by decide) rfl ?_
  refine Go_iconst (pc := 2) dX6_stepOf_2 ?_
  refine Go_istore (pc := 3) (L' := [some (.inr 3), some (.inl u), some (.inl w), some (.inl 0), some (.inl 0), none, none, none, none, none]) dX6_stepOf_3 (by decide) rfl ?_
  refine Go_iconst (pc := 5) dX6_stepOf_5 ?_
  refine Go_istore (pc := 6) (L' := [some (.inr 3), some (.inl u), some (.inl w), some (.inl 0), some (.inl 0), some (.inl 0), none, none, none, none]) dX6_stepOf_6 (by decide) rfl ?_
  refine Go_iconst (pc := 8) dX6_stepOf_8 ?_
  refine Go_istore (pc := 9) (L' := [some (.inr 3), some (.inl u), some (.inl w), some (.inl 0), some (.inl 0), some (.inl 0), some (.inl 0), none, none, none]) dX6_stepOf_9 (by decide) rfl ?_
  exact Go_M (setR_id _ _).symm (K 0 (by omega) (by omega) (M 4) (fun _ => 0) 0 0 0 _ _ _ hW rfl hrs0 (fun l a b c k q => rfl))
