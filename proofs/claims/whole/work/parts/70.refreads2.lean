/-! what is read, order by order -/
theorem RdS_f {f : Int → Int} {n p k v : Int} {r A : Int → Int} (e : rdF f n p r = (v, A)) (hb : brF f n p k = v) (hv : ¬ v = -1) : RdS f n p k r := ⟨by rw [e, hb], fun z => absurd (hb.symm.trans z) hv⟩
theorem sg59 {f : Int → Int} {n q : Int} (h : TxOk f n) (q0 : 0 ≤ q) : sgF f n q = 59 ↔ cT f n q = 59 := by
  have := sg_c h q0
  omega
theorem rds_two {f : Int → Int} {n p k : Int} (r : Int → Int) (h : TxOk f n) (p0 : 0 ≤ p) (hk : kdF f n p = k) (k3 : k = 0 ∨ k = 1 ∨ k = 3) : RdS f n p k r := by
  have wl := wd_len (f := f) (n := n) (p := p)
  have wk := woF_kd f n p
  have hE : letE f n p = p + 4 := by
    rcases k3 with e | e | e
    · exact wl.1 (by omega)
    · exact wl.2.1 (by omega)
    · exact wl.2.2.2.1 (by omega)
  have hw : woF f n p = k := by omega
  have w0 : ¬ woF f n p < 0 := by omega
  have w24 : ¬ (woF f n p = 2 ∨ woF f n p = 4) := by omega
  have hbr : brF f n p k = br24 f n p := by unfold brF; rw [if_neg (show ¬ k = 5 by omega), if_neg (show ¬ k = 2 by omega), if_neg (show ¬ k = 4 by omega)]
  have ho : olF k = 9 := by unfold olF; rw [if_neg (show ¬ k = 2 by omega), if_neg (show ¬ k = 4 by omega)]
  have hl : wlF k = 4 := if_neg (show ¬ k = 2 by omega)
  by_cases a1 : cT f n (p + 4) = 32
  · by_cases a2 : dgP f n (p + 4 + 1)
    · obtain ⟨y1, y2, y3⟩ := dgr_y a1 a2
      rw [← hE] at y1 y2 y3
      have n1 : ¬ dgr f n (letE f n p) < 0 := by omega
      have q1 : dga f n (letE f n p) = p + 6 := by omega
      by_cases a3 : cT f n (p + 6) = 32
      · by_cases a4 : dgP f n (p + 6 + 1)
        · obtain ⟨z1, z2, z3⟩ := dgr_y a3 a4
          rw [← q1] at z1 z2 z3
          have n2 : ¬ dgr f n (dga f n (letE f n p)) < 0 := by omega
          have q2 : dga f n (dga f n (letE f n p)) = p + 8 := by omega
          have s8 := sg59 h (q := p + 8) (by omega)
          rw [← q2] at s8
          by_cases a5 : cT f n (p + 8) = 59
          · have hs : sgF f n (dga f n (dga f n (letE f n p))) = 59 := s8.mpr (by rw [q2]; exact a5)
            have e : rdF f n p r = (-1, updI (rdC f n p r) 7 (dga f n (dga f n (letE f n p)) + 1)) := by unfold rdF; rw [if_neg w0, if_neg n1, if_neg w24, if_neg n2, if_pos hs]
            have hb : brF f n p k = -1 := by rw [hbr]; unfold br24; rw [if_pos a1, if_pos a2, if_pos a3, if_pos a4, if_pos a5]
            refine ⟨by rw [e, hb], fun _ => ?_⟩
            rw [e, ho, hl]
            refine ⟨?_, ?_, ?_, fun _ _ => ?_⟩
            · show updI (rdC f n p r) 7 (dga f n (dga f n (letE f n p)) + 1) 7 = _
              rw [updI_s]
              rw [q2]
              omega
            · show updI (rdC f n p r) 7 (dga f n (dga f n (letE f n p)) + 1) 10 = _
              unfold rdC rdB rdA
              rw [updI_n (by decide), updI_n (by decide), updI_n (by decide), updI_n (by decide), updI_n (by decide), updI_s]
              exact hw
            · show updI (rdC f n p r) 7 (dga f n (dga f n (letE f n p)) + 1) 11 = _
              unfold rdC rdB
              rw [updI_n (by decide), updI_n (by decide), updI_n (by decide), updI_s, y1, hE]
            · show updI (rdC f n p r) 7 (dga f n (dga f n (letE f n p)) + 1) 12 = _
              unfold rdC
              rw [updI_n (by decide), updI_s, z1, q1, show p + 6 + 1 = p + 4 + 3 by omega]
          · have hs : ¬ sgF f n (dga f n (dga f n (letE f n p))) = 59 := fun z => a5 (by have := s8.mp z; rw [q2] at this; exact this)
            refine RdS_f (v := 8) (A := rdC f n p r) ?_ (by rw [hbr]; unfold br24; rw [if_pos a1, if_pos a2, if_pos a3, if_pos a4, if_neg a5]) (by decide)
            unfold rdF
            rw [if_neg w0, if_neg n1, if_neg w24, if_neg n2, if_neg hs, show dga f n (dga f n (letE f n p)) - p = 8 by omega]
        · obtain ⟨z1, z2⟩ := dgr_m a3 a4
          rw [← q1] at z1 z2
          have n2 : dgr f n (dga f n (letE f n p)) < 0 := by omega
          refine RdS_f (v := 7) (A := rdC f n p r) ?_ (by rw [hbr]; unfold br24; rw [if_pos a1, if_pos a2, if_pos a3, if_neg a4]) (by decide)
          unfold rdF
          rw [if_neg w0, if_neg n1, if_neg w24, if_pos n2, show dga f n (dga f n (letE f n p)) - p = 7 by omega]
      · obtain ⟨z1, z2⟩ := dgr_n a3
        rw [← q1] at z1 z2
        have n2 : dgr f n (dga f n (letE f n p)) < 0 := by omega
        refine RdS_f (v := 6) (A := rdC f n p r) ?_ (by rw [hbr]; unfold br24; rw [if_pos a1, if_pos a2, if_neg a3]) (by decide)
        unfold rdF
        rw [if_neg w0, if_neg n1, if_neg w24, if_pos n2, show dga f n (dga f n (letE f n p)) - p = 6 by omega]
    · obtain ⟨y1, y2⟩ := dgr_m a1 a2
      rw [← hE] at y1 y2
      have n1 : dgr f n (letE f n p) < 0 := by omega
      refine RdS_f (v := 5) (A := rdB f n p r) ?_ (by rw [hbr]; unfold br24; rw [if_pos a1, if_neg a2]) (by decide)
      unfold rdF
      rw [if_neg w0, if_pos n1, show dga f n (letE f n p) - p = 5 by omega]
  · obtain ⟨y1, y2⟩ := dgr_n a1
    rw [← hE] at y1 y2
    have n1 : dgr f n (letE f n p) < 0 := by omega
    refine RdS_f (v := 4) (A := rdB f n p r) ?_ (by rw [hbr]; unfold br24; rw [if_neg a1]) (by decide)
    unfold rdF
    rw [if_neg w0, if_pos n1, show dga f n (letE f n p) - p = 4 by omega]
theorem rds_one2 {f : Int → Int} {n p : Int} (r : Int → Int) (h : TxOk f n) (p0 : 0 ≤ p) (hk : kdF f n p = 2) : RdS f n p 2 r := by
  have wl := wd_len (f := f) (n := n) (p := p)
  have wk := woF_kd f n p
  have hE : letE f n p = p + 5 := by omega
  have hw : woF f n p = 2 := by omega
  have w0 : ¬ woF f n p < 0 := by omega
  have w24 : woF f n p = 2 ∨ woF f n p = 4 := by omega
  have hbr : brF f n p 2 = br15 f n p := rfl
  have ho : olF 2 = 8 := rfl
  have hl : wlF 2 = 5 := rfl
  by_cases a1 : cT f n (p + 5) = 32
  · by_cases a2 : dgP f n (p + 5 + 1)
    · obtain ⟨y1, y2, y3⟩ := dgr_y a1 a2
      rw [← hE] at y1 y2 y3
      have n1 : ¬ dgr f n (letE f n p) < 0 := by omega
      have q1 : dga f n (letE f n p) = p + 7 := by omega
      have s8 := sg59 h (q := p + 7) (by omega)
      rw [← q1] at s8
      by_cases a5 : cT f n (p + 7) = 59
      · have hs : sgF f n (dga f n (letE f n p)) = 59 := s8.mpr (by rw [q1]; exact a5)
        have e : rdF f n p r = (-1, updI (updI (rdB f n p r) 12 0) 7 (dga f n (letE f n p) + 1)) := by unfold rdF; rw [if_neg w0, if_neg n1, if_pos w24, if_pos hs]
        have hb : brF f n p 2 = -1 := by rw [hbr]; unfold br15; rw [if_pos a1, if_pos a2, if_pos a5]
        refine ⟨by rw [e, hb], fun _ => ?_⟩
        rw [e, ho, hl]
        refine ⟨?_, ?_, ?_, fun u w => by first | exact absurd rfl u | exact absurd rfl w⟩
        · show updI (updI (rdB f n p r) 12 0) 7 (dga f n (letE f n p) + 1) 7 = _
          rw [updI_s]
          rw [q1]
          omega
        · show updI (updI (rdB f n p r) 12 0) 7 (dga f n (letE f n p) + 1) 10 = _
          unfold rdB rdA
          rw [updI_n (by decide), updI_n (by decide), updI_n (by decide), updI_n (by decide), updI_s]
          exact hw
        · show updI (updI (rdB f n p r) 12 0) 7 (dga f n (letE f n p) + 1) 11 = _
          unfold rdB
          rw [updI_n (by decide), updI_n (by decide), updI_s, y1, hE]
      · have hs : ¬ sgF f n (dga f n (letE f n p)) = 59 := fun z => a5 (by have := s8.mp z; rw [q1] at this; exact this)
        refine RdS_f (v := 7) (A := updI (rdB f n p r) 12 0) ?_ (by rw [hbr]; unfold br15; rw [if_pos a1, if_pos a2, if_neg a5]) (by decide)
        unfold rdF
        rw [if_neg w0, if_neg n1, if_pos w24, if_neg hs, show dga f n (letE f n p) - p = 7 by omega]
    · obtain ⟨y1, y2⟩ := dgr_m a1 a2
      rw [← hE] at y1 y2
      have n1 : dgr f n (letE f n p) < 0 := by omega
      refine RdS_f (v := 6) (A := rdB f n p r) ?_ (by rw [hbr]; unfold br15; rw [if_pos a1, if_neg a2]) (by decide)
      unfold rdF
      rw [if_neg w0, if_pos n1, show dga f n (letE f n p) - p = 6 by omega]
  · obtain ⟨y1, y2⟩ := dgr_n a1
    rw [← hE] at y1 y2
    have n1 : dgr f n (letE f n p) < 0 := by omega
    refine RdS_f (v := 5) (A := rdB f n p r) ?_ (by rw [hbr]; unfold br15; rw [if_neg a1]) (by decide)
    unfold rdF
    rw [if_neg w0, if_pos n1, show dga f n (letE f n p) - p = 5 by omega]
theorem rds_one4 {f : Int → Int} {n p : Int} (r : Int → Int) (h : TxOk f n) (p0 : 0 ≤ p) (hk : kdF f n p = 4) : RdS f n p 4 r := by
  have wl := wd_len (f := f) (n := n) (p := p)
  have wk := woF_kd f n p
  have hE : letE f n p = p + 4 := by omega
  have hw : woF f n p = 4 := by omega
  have w0 : ¬ woF f n p < 0 := by omega
  have w24 : woF f n p = 2 ∨ woF f n p = 4 := by omega
  have hbr : brF f n p 4 = br14 f n p := rfl
  have ho : olF 4 = 7 := rfl
  have hl : wlF 4 = 4 := rfl
  by_cases a1 : cT f n (p + 4) = 32
  · by_cases a2 : dgP f n (p + 4 + 1)
    · obtain ⟨y1, y2, y3⟩ := dgr_y a1 a2
      rw [← hE] at y1 y2 y3
      have n1 : ¬ dgr f n (letE f n p) < 0 := by omega
      have q1 : dga f n (letE f n p) = p + 6 := by omega
      have s8 := sg59 h (q := p + 6) (by omega)
      rw [← q1] at s8
      by_cases a5 : cT f n (p + 6) = 59
      · have hs : sgF f n (dga f n (letE f n p)) = 59 := s8.mpr (by rw [q1]; exact a5)
        have e : rdF f n p r = (-1, updI (updI (rdB f n p r) 12 0) 7 (dga f n (letE f n p) + 1)) := by unfold rdF; rw [if_neg w0, if_neg n1, if_pos w24, if_pos hs]
        have hb : brF f n p 4 = -1 := by rw [hbr]; unfold br14; rw [if_pos a1, if_pos a2, if_pos a5]
        refine ⟨by rw [e, hb], fun _ => ?_⟩
        rw [e, ho, hl]
        refine ⟨?_, ?_, ?_, fun u w => by first | exact absurd rfl u | exact absurd rfl w⟩
        · show updI (updI (rdB f n p r) 12 0) 7 (dga f n (letE f n p) + 1) 7 = _
          rw [updI_s]
          rw [q1]
          omega
        · show updI (updI (rdB f n p r) 12 0) 7 (dga f n (letE f n p) + 1) 10 = _
          unfold rdB rdA
          rw [updI_n (by decide), updI_n (by decide), updI_n (by decide), updI_n (by decide), updI_s]
          exact hw
        · show updI (updI (rdB f n p r) 12 0) 7 (dga f n (letE f n p) + 1) 11 = _
          unfold rdB
          rw [updI_n (by decide), updI_n (by decide), updI_s, y1, hE]
      · have hs : ¬ sgF f n (dga f n (letE f n p)) = 59 := fun z => a5 (by have := s8.mp z; rw [q1] at this; exact this)
        refine RdS_f (v := 6) (A := updI (rdB f n p r) 12 0) ?_ (by rw [hbr]; unfold br14; rw [if_pos a1, if_pos a2, if_neg a5]) (by decide)
        unfold rdF
        rw [if_neg w0, if_neg n1, if_pos w24, if_neg hs, show dga f n (letE f n p) - p = 6 by omega]
    · obtain ⟨y1, y2⟩ := dgr_m a1 a2
      rw [← hE] at y1 y2
      have n1 : dgr f n (letE f n p) < 0 := by omega
      refine RdS_f (v := 5) (A := rdB f n p r) ?_ (by rw [hbr]; unfold br14; rw [if_pos a1, if_neg a2]) (by decide)
      unfold rdF
      rw [if_neg w0, if_pos n1, show dga f n (letE f n p) - p = 5 by omega]
  · obtain ⟨y1, y2⟩ := dgr_n a1
    rw [← hE] at y1 y2
    have n1 : dgr f n (letE f n p) < 0 := by omega
    refine RdS_f (v := 4) (A := rdB f n p r) ?_ (by rw [hbr]; unfold br14; rw [if_neg a1]) (by decide)
    unfold rdF
    rw [if_neg w0, if_pos n1, show dga f n (letE f n p) - p = 4 by omega]
theorem rds_all {f : Int → Int} {n p : Int} (r : Int → Int) (h : TxOk f n) (p0 : 0 ≤ p) : RdS f n p (kdF f n p) r := by
  rcases kd_cases f n p with hk | hk | hk | hk | hk | hk
  · rw [hk]; exact rds_two r h p0 hk (Or.inl rfl)
  · rw [hk]; exact rds_two r h p0 hk (Or.inr (Or.inl rfl))
  · rw [hk]; exact rds_one2 r h p0 hk
  · rw [hk]; exact rds_two r h p0 hk (Or.inr (Or.inr rfl))
  · rw [hk]; exact rds_one4 r h p0 hk
  · have wk := woF_kd f n p
    rw [hk]
    refine RdS_f (v := 0) (A := rdA f n p r) ?_ rfl (by decide)
    unfold rdF
    rw [if_pos (show woF f n p < 0 by omega)]
