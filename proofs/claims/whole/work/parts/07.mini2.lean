/-! the little machine: memory, switches, returns, calls -/
theorem en_obj {ad : gAd} {cI cC : ClassId} {M : gMem} {k ci : Nat} {fs : List (Option Nat)} (h : ob k = .inr (ci, fs)) : en ad cI cC M k = .inr (ci, fs.mapIdx (fun j o => fv ad M k j o)) := by
  unfold en; rw [h]
theorem en_arr {ad : gAd} {cI cC : ClassId} {M : gMem} {k t n : Nat} (h : ob k = .inl (t, n)) : en ad cI cC M k = .inl (if t = 0 then cI else cC, n, .inl (fun j => iI (M k j))) := by
  unfold en; rw [h]
theorem wd_obj {ad : gAd} {cI cC : ClassId} {M : gMem} {k ci : Nat} {fs : List (Option Nat)} (hk : k < 26) (h : ob k = .inr (ci, fs)) : (wd ad cI cC M)[k]? = some (ad.1 k, .inr (ci, fs.mapIdx (fun j o => fv ad M k j o))) := by
  rw [wd_get _ _ _ _ hk, en_obj h]
theorem wd_arr {ad : gAd} {cI cC : ClassId} {M : gMem} {k t n : Nat} (hk : k < 26) (h : ob k = .inl (t, n)) : (wd ad cI cC M)[k]? = some (ad.1 k, .inl (if t = 0 then cI else cC, n, .inl (fun j => iI (M k j)))) := by
  rw [wd_get _ _ _ _ hk, en_arr h]
section GO2
variable {d : Nat} {own : String} {cc : ByteArray} {nL : Nat} {ret : Option FieldType} {pc : Nat} {L : List (Option MV)} {st : List MV} {M M' : gMem} {v : Option MV}
theorem Go_getr {idx ci j k r : Nat} {fs : List (Option Nat)} (hd : decode cc pc = .ok (.getfield idx, 3)) (hf : fOK own idx ci j) (hk : k < 26) (ho : ob k = .inr (ci, fs)) (hj : fs[j]? = some (some r)) (hr : r ≠ 999) (kk : Go d own cc nL ret (pc + 3) L (.inr r :: st) M v M') : Go d own cc nL ret pc L (.inr k :: st) M v M' := by
  intro p l e s m args below meth c G ad cI cC H locs ls C hP hS hl
  obtain ⟨Cn, T, N, h1, h2, h3, h4⟩ := hf
  have k2 := kk p l e s m args below meth c G ad cI cC H locs ls C hP hS hl
  rw [List.map_cons, vv_ref hr] at k2
  rw [List.map_cons, vv_ref (by omega : k ≠ 999)]
  refine va_get (D := G) (ci := ci) (C := Cn) (T := T) (N := N) C.1 C.2.1 C.2.2.2.2.2.2.1 h4 C.2.2.2.2.2.1 C.2.2.2.2.2.2.2.1 hP k (wd_obj hk ho) h1 j h2 (C.2.2.2.2.2.2.1 _ h3) (fun _ h9 => h9) ?_ hd k2
  rw [List.getElem?_mapIdx, hj]
  rfl
theorem Go_geti {idx ci j k : Nat} {z : Int} {fs : List (Option Nat)} (hd : decode cc pc = .ok (.getfield idx, 3)) (hf : fOK own idx ci j) (hk : k < 26) (ho : ob k = .inr (ci, fs)) (hj : fs[j]? = some none) (hz : M k (j : Int) = z) (kk : Go d own cc nL ret (pc + 3) L (.inl z :: st) M v M') : Go d own cc nL ret pc L (.inr k :: st) M v M' := by
  intro p l e s m args below meth c G ad cI cC H locs ls C hP hS hl
  obtain ⟨Cn, T, N, h1, h2, h3, h4⟩ := hf
  have k2 := kk p l e s m args below meth c G ad cI cC H locs ls C hP hS hl
  subst hz
  rw [List.map_cons, vv_ref (by omega : k ≠ 999)]
  refine va_get (D := G) (ci := ci) (C := Cn) (T := T) (N := N) C.1 C.2.1 C.2.2.2.2.2.2.1 h4 C.2.2.2.2.2.1 C.2.2.2.2.2.2.2.1 hP k (wd_obj hk ho) h1 j h2 (C.2.2.2.2.2.2.1 _ h3) (fun _ h9 => h9) ?_ hd k2
  rw [List.getElem?_mapIdx, hj]
  rfl
theorem wd_put {ad : gAd} {cI cC : ClassId} {M : gMem} {k ci j : Nat} {z : Int} {fs : List (Option Nat)} (hk : k < 26) (ho : ob k = .inr (ci, fs)) (hj : fs[j]? = some none) : (wd ad cI cC M).set k (ad.1 k, .inr (ci, (fs.mapIdx (fun j o => fv ad M k j o)).set j (.int (iI z)))) = wd ad cI cC (setR M k (updI (M k) j z)) := by
  rw [← wd_set (M := M) (M1 := setR M k (updI (M k) j z)) hk (fun q hq => setR_n hq), en_obj ho]
  congr 4
  apply List.ext_getElem?
  intro i
  rw [List.getElem?_mapIdx]
  by_cases e : i = j
  · subst e
    have hl : i < fs.length := (List.getElem?_eq_some_iff.mp hj).1
    rw [List.getElem?_set_self (by simpa using hl), hj]
    simp [fv, setR, updI]
  · rw [List.getElem?_set_ne (fun q => e q.symm), List.getElem?_mapIdx]
    congr 1
    funext o
    cases o with
    | some r => rfl
    | none =>
      have e2 : ¬ (i : Int) = (j : Int) := by omega
      simp [fv, setR, updI, e2]
theorem Go_puti {idx ci j k : Nat} {z : Int} {fs : List (Option Nat)} (hd : decode cc pc = .ok (.putfield idx, 3)) (hf : fIW own idx ci j) (hk : k < 26) (ho : ob k = .inr (ci, fs)) (hj : fs[j]? = some none) (kk : Go d own cc nL ret (pc + 3) L st (setR M k (updI (M k) j z)) v M') : Go d own cc nL ret pc L (.inl z :: .inr k :: st) M v M' := by
  intro p l e s m args below meth c G ad cI cC H locs ls C hP hS hl
  obtain ⟨Cn, T, N, ty, h1, h2, h3, h4, h5, h6, h7, h8⟩ := hf
  rw [List.map_cons, List.map_cons, vv_ref (by omega : k ≠ 999)]
  refine va_put (D := G) (ci := ci) (C := Cn) (T := T) (N := N) C.1 C.2.1 C.2.2.2.2.2.2.1 h4 ty h5 h6 C.2.2.2.2.2.1 C.2.2.2.2.2.2.2.1 hP (wd_D C.2.2.2.2.2.2.2.2.2) hS k (wd_obj hk ho) h1 j h2 (C.2.2.2.2.2.2.1 _ h3) (fun _ h9 => h9) h7 h8 (ty := .int) (v := .int (iI z)) rfl rfl ?_ hd (fun H1 locs1 hP1 hD1 hS1 => ?_)
  · rw [List.length_mapIdx]; exact (List.getElem?_eq_some_iff.mp hj).1
  · rw [wd_put hk ho hj] at hP1
    exact kk p l e s m args below meth c G ad cI cC H1 locs1 ls C hP1 hS1 hl
theorem toN {z : Int} (h : 0 ≤ z) : ((z.toNat : Nat) : Int) = z := Int.toNat_of_nonneg h
theorem ob_n {k t n : Nat} (h : ob k = .inl (t, n)) : n < 2147483648 := by
  unfold ob at h
  split at h <;> first | cases h | skip
  all_goals omega
theorem Go_iaload {k n : Nat} {i z : Int} (hd : decode cc pc = .ok (.iaload, 1)) (hk : k < 26) (ho : ob k = .inl (0, n)) (h0 : 0 ≤ i) (h1 : i < n) (hz : M k i = z) (kk : Go d own cc nL ret (pc + 1) L (.inl z :: st) M v M') : Go d own cc nL ret pc L (.inl i :: .inr k :: st) M v M' := by
  intro p l e s m args below meth c G ad cI cC H locs ls C hP hS hl
  have hn := ob_n ho
  have k2 := kk p l e s m args below meth c G ad cI cC H locs ls C hP hS hl
  subst hz
  rw [List.map_cons, List.map_cons, vv_ref (by omega : k ≠ 999)]
  refine va_iald (i := iI i) C.1 C.2.1 C.2.2.2.2.2.2.2.1 hP k 0 (wd_arr hk ho) rfl (iI_in h0 h1 hn) hd ?_
  rw [iI_nat h0 (by omega), toN h0]
  exact k2
theorem Go_caload {k n : Nat} {i z : Int} (hd : decode cc pc = .ok (.caload, 1)) (hk : k < 26) (ho : ob k = .inl (1, n)) (h0 : 0 ≤ i) (h1 : i < n) (hz : M k i = z) (kk : Go d own cc nL ret (pc + 1) L (.inl z :: st) M v M') : Go d own cc nL ret pc L (.inl i :: .inr k :: st) M v M' := by
  intro p l e s m args below meth c G ad cI cC H locs ls C hP hS hl
  have hn := ob_n ho
  have k2 := kk p l e s m args below meth c G ad cI cC H locs ls C hP hS hl
  subst hz
  rw [List.map_cons, List.map_cons, vv_ref (by omega : k ≠ 999)]
  refine va_cald (i := iI i) C.1 C.2.1 C.2.2.2.2.2.2.2.1 hP k 1 (wd_arr hk ho) rfl (iI_in h0 h1 hn) hd ?_
  rw [iI_nat h0 (by omega), toN h0]
  exact k2
theorem wd_ast {ad : gAd} {cI cC : ClassId} {M : gMem} {k t n : Nat} {i z : Int} (hk : k < 26) (ho : ob k = .inl (t, n)) (h0 : 0 ≤ i) : (wd ad cI cC M).set k (ad.1 k, .inl (if t = 0 then cI else cC, n, .inl (upd (fun j => iI (M k j)) i.toNat (iI z)))) = wd ad cI cC (setR M k (updI (M k) i z)) := by
  rw [← wd_set (M := M) (M1 := setR M k (updI (M k) i z)) hk (fun q hq => setR_n hq), en_arr ho]
  congr 6
  funext j
  unfold upd setR updI
  by_cases e : j = i.toNat
  · rw [if_pos e, if_pos rfl, if_pos (by omega)]
  · rw [if_neg e, if_pos rfl, if_neg (by omega)]
theorem Go_iastore {k n : Nat} {i z : Int} (hd : decode cc pc = .ok (.iastore, 1)) (hk : k < 26) (ho : ob k = .inl (0, n)) (h0 : 0 ≤ i) (h1 : i < n) (kk : Go d own cc nL ret (pc + 1) L st (setR M k (updI (M k) i z)) v M') : Go d own cc nL ret pc L (.inl z :: .inl i :: .inr k :: st) M v M' := by
  intro p l e s m args below meth c G ad cI cC H locs ls C hP hS hl
  have hn := ob_n ho
  rw [List.map_cons, List.map_cons, List.map_cons, vv_ref (by omega : k ≠ 999)]
  refine va_iast (i := iI i) (x := iI z) C.1 C.2.1 C.2.2.2.2.2.2.2.1 hP (wd_D C.2.2.2.2.2.2.2.2.2) hS k 0 (wd_arr hk ho) rfl (iI_in h0 h1 hn) hd (fun H1 locs1 hP1 hD1 hS1 => ?_)
  rw [iI_nat h0 (by omega), wd_ast hk ho h0] at hP1
  exact kk p l e s m args below meth c G ad cI cC H1 locs1 ls C hP1 hS1 hl
theorem iI_nc {z : Int} (h0 : 0 ≤ z) (h1 : z < 65536) : narrow .char (.int (iI z)) = .int (iI z) := by
  have e : iI z = nI z.toNat := by
    rw [← Int32.toInt_inj, iI_toInt ⟨by omega, by omega⟩, nI_toInt (by omega)]
    omega
  rw [e]
  exact (pk_charN (by omega)).1
theorem Go_castore {k n : Nat} {i z : Int} (hd : decode cc pc = .ok (.castore, 1)) (hk : k < 26) (ho : ob k = .inl (1, n)) (h0 : 0 ≤ i) (h1 : i < n) (z0 : 0 ≤ z) (z1 : z < 65536) (kk : Go d own cc nL ret (pc + 1) L st (setR M k (updI (M k) i z)) v M') : Go d own cc nL ret pc L (.inl z :: .inl i :: .inr k :: st) M v M' := by
  intro p l e s m args below meth c G ad cI cC H locs ls C hP hS hl
  have hn := ob_n ho
  rw [List.map_cons, List.map_cons, List.map_cons, vv_ref (by omega : k ≠ 999)]
  refine va_cast (i := iI i) (x := iI z) C.1 C.2.1 C.2.2.2.2.2.2.2.1 hP (wd_D C.2.2.2.2.2.2.2.2.2) hS k 1 (wd_arr hk ho) rfl (iI_in h0 h1 hn) hd (fun H1 locs1 hP1 hD1 hS1 => ?_)
  have he : vp_nar .char (iI z) = iI z := by unfold vp_nar; rw [iI_nc z0 z1]
  rw [he, iI_nat h0 (by omega), wd_ast hk ho h0] at hP1
  exact kk p l e s m args below meth c G ad cI cC H1 locs1 ls C hP1 hS1 hl
theorem Go_alen {k t n : Nat} (hd : decode cc pc = .ok (.arraylength, 1)) (hk : k < 26) (ho : ob k = .inl (t, n)) (kk : Go d own cc nL ret (pc + 1) L (.inl n :: st) M v M') : Go d own cc nL ret pc L (.inr k :: st) M v M' := by
  intro p l e s m args below meth c G ad cI cC H locs ls C hP hS hl
  have k2 := kk p l e s m args below meth c G ad cI cC H locs ls C hP hS hl
  rw [List.map_cons, vv_ref (by omega : k ≠ 999)]
  have e : Int32.ofNat n = iI n := (Int32.ofInt_eq_ofNat).symm
  by_cases ht : t = 0
  · subst ht
    exact va_alen (v := iI n) C.1 C.2.1 C.2.2.2.2.2.2.2.1 hP k 0 (wd_arr hk ho) (ty := .int) rfl e hd k2
  · have hq := wd_arr (ad := ad) (cI := cI) (cC := cC) (M := M) hk ho
    rw [if_neg ht] at hq
    exact va_alen (v := iI n) C.1 C.2.1 C.2.2.2.2.2.2.2.1 hP k 1 hq (ty := .char) rfl e hd k2
-- switches
theorem Go_tsIn {z dflt lo hi : Int} {offs : Array Int} {len : Nat} {off : Int} {tgt : Nat} (hd : decode cc pc = .ok (.tableswitch dflt lo hi offs, len)) (hz : inR z) (h1 : lo ≤ z) (h2 : z ≤ hi) (ho : offs[(z - lo).toNat]? = some off) (ht : (pc : Int) + off = (tgt : Int)) (k : Go d own cc nL ret tgt L st M v M') : Go d own cc nL ret pc L (.inl z :: st) M v M' := by
  intro p l e s m args below meth c G ad cI cC H locs ls C hP hS hl
  exact lv_tableIn C.1 C.2.1 hd (by rw [iI_toInt hz]; omega) (by rw [iI_toInt hz]; omega) (by rw [iI_toInt hz]; exact ho) ht (k p l e s m args below meth c G ad cI cC H locs ls C hP hS hl)
theorem Go_tsOut {z dflt lo hi : Int} {offs : Array Int} {len : Nat} {tgt : Nat} (hd : decode cc pc = .ok (.tableswitch dflt lo hi offs, len)) (hz : inR z) (h : z < lo ∨ hi < z) (ht : (pc : Int) + dflt = (tgt : Int)) (k : Go d own cc nL ret tgt L st M v M') : Go d own cc nL ret pc L (.inl z :: st) M v M' := by
  intro p l e s m args below meth c G ad cI cC H locs ls C hP hS hl
  exact lv_tableOut C.1 C.2.1 hd (by rw [iI_toInt hz]; exact h) ht (k p l e s m args below meth c G ad cI cC H locs ls C hP hS hl)
theorem Go_ls {z dflt : Int} {ps : Array (Int × Int)} {len : Nat} {off : Int} {tgt : Nat} (hd : decode cc pc = .ok (.lookupswitch dflt ps, len)) (hp : (ps.toList.zip (ps.toList.drop 1)).all (fun (a, next) => a.1 < next.1) = true) (hz : inR z) (ho : Op.lookupswitch.offset ps.toList dflt z = off) (ht : (pc : Int) + off = (tgt : Int)) (k : Go d own cc nL ret tgt L st M v M') : Go d own cc nL ret pc L (.inl z :: st) M v M' := by
  intro p l e s m args below meth c G ad cI cC H locs ls C hP hS hl
  exact lv_lookup C.1 C.2.1 hd hp (by rw [iI_toInt hz]; exact ho) ht (k p l e s m args below meth c G ad cI cC H locs ls C hP hS hl)
-- returns
theorem Go_ireturn {z : Int} (hd : decode cc pc = .ok (.ireturn, 1)) (hr : ret = some .int) (hv : v = some (.inl z)) (hM : M' = M) : Go d own cc nL ret pc L [.inl z] M v M' := by
  intro p l e s m args below meth c G ad cI cC H locs ls C hP hS hl
  subst hv; subst hM
  exact W.iret C.1 C.2.1 (C.2.2.2.1.trans hr) (fun t ht hW => ⟨rfl, by rw [ht]; exact hP, hS.F ht⟩) hS.2.2 hd C.2.2.2.2.1
theorem Go_zreturn {z : Int} (hd : decode cc pc = .ok (.ireturn, 1)) (hr : ret = some .boolean) (hz : z = 0 ∨ z = 1) (hv : v = some (.inl z)) (hM : M' = M) : Go d own cc nL ret pc L [.inl z] M v M' := by
  intro p l e s m args below meth c G ad cI cC H locs ls C hP hS hl
  subst hv; subst hM
  exact W.zret (v := iI z) C.1 C.2.1 (C.2.2.2.1.trans hr) (by rcases hz with h | h <;> subst h <;> rfl) (fun t ht hW => ⟨rfl, by rw [ht]; exact hP, hS.F ht⟩) hS.2.2 hd C.2.2.2.2.1
theorem Go_breturn {z : Int} (hd : decode cc pc = .ok (.ireturn, 1)) (hr : ret = some .byte) (hz : z = 0 ∨ z = 1) (hv : v = some (.inl z)) (hM : M' = M) : Go d own cc nL ret pc L [.inl z] M v M' := by
  intro p l e s m args below meth c G ad cI cC H locs ls C hP hS hl
  subst hv; subst hM
  exact W.zret (v := iI z) C.1 C.2.1 (C.2.2.2.1.trans hr) (by rcases hz with h | h <;> subst h <;> rfl) (fun t ht hW => ⟨rfl, by rw [ht]; exact hP, hS.F ht⟩) hS.2.2 hd C.2.2.2.2.1
theorem Go_creturn {z : Int} (hd : decode cc pc = .ok (.ireturn, 1)) (hr : ret = some .char) (z0 : 0 ≤ z) (z1 : z < 65536) (hv : v = some (.inl z)) (hM : M' = M) : Go d own cc nL ret pc L [.inl z] M v M' := by
  intro p l e s m args below meth c G ad cI cC H locs ls C hP hS hl
  subst hv; subst hM
  exact W.zret (v := iI z) C.1 C.2.1 (C.2.2.2.1.trans hr) (iI_nc z0 z1) (fun t ht hW => ⟨rfl, by rw [ht]; exact hP, hS.F ht⟩) hS.2.2 hd C.2.2.2.2.1
theorem Go_return (hd : decode cc pc = .ok (.return_, 1)) (hr : ret = none) (hv : v = none) (hM : M' = M) : Go d own cc nL ret pc L [] M v M' := by
  intro p l e s m args below meth c G ad cI cC H locs ls C hP hS hl
  subst hv; subst hM
  exact W.vret C.1 C.2.1 (C.2.2.2.1.trans hr) (fun t ht hW => ⟨rfl, by rw [ht]; exact hP, hS.F ht⟩) hS.2.2 hd C.2.2.2.2.1
theorem Go_areturn {k : Nat} {n : String} (hd : decode cc pc = .ok (.areturn, 1)) (hr : ret = some (.object n)) (hk : k ≠ 999) (hv : v = some (.inr k)) (hM : M' = M) : Go d own cc nL ret pc L [.inr k] M v M' := by
  intro p l e s m args below meth c G ad cI cC H locs ls C hP hS hl
  subst hv; subst hM
  rw [List.map_cons, vv_ref hk]
  exact W.aret (v := .ref (ad.1 k)) C.1 C.2.1 (C.2.2.2.1.trans hr) (Or.inl ⟨n, rfl⟩) (Or.inr ⟨_, rfl⟩) (fun t ht hW => ⟨by rw [Option.map_some, vv_ref hk], by rw [ht]; exact hP, hS.F ht⟩) hS.2.2 hd C.2.2.2.2.1
-- Math
theorem Go_abs {idx : Nat} {a : Int} (hd : decode cc pc = .ok (.invokestatic idx, 3)) (hl : Cond.methodLink own idx Lib.Math.abs.name ∈ TB) (h2 : Cond.static Lib.Math.abs.name ∈ TB) (h3 : Cond.initialized "java/lang/Math" ∈ TB) (h4 : Cond.code Lib.Math.abs.name Lib.Math.abs.code 1 (some .int) ∈ TB) (ha : inR a) (hd1 : 1 ≤ d) (hr : st.length ≤ 8) (k : Go d own cc nL ret (pc + 3) L (.inl (a.natAbs : Int) :: st) M v M') : Go d own cc nL ret pc L (.inl a :: st) M v M' := by
  intro p l e s m args below meth c G ad cI cC H locs ls C hP hS hl'
  have k2 := k p l e s m args below meth c G ad cI cC H locs ls C hP hS hl'
  have hw := C.2.2.2.2.2.2.1
  have hs : ((st.map (vv ad)).map fun v => v.category).sum = st.length := by
    have : (st.map (vv ad)).map (fun v => v.category) = st.map (fun _ => 1) := by
      rw [List.map_map]; exact List.map_congr_left (fun x _ => vv_cat C.2.2.2.2.2.2.2.2.2 x)
    rw [this]; clear k2 this k hl' hr
    induction st with
    | nil => rfl
    | cons x t ih => simp only [List.map_cons, List.sum_cons, List.length_cons, ih]; omega
  refine va_mabs (x := iI a) C.1 C.2.1 (C.2.2.1.trans hl'.1.symm) C.2.2.2.2.2.1 (hw _ hl) (hw _ h2) (hw _ h3) (hw _ h4) (by show 1 ≤ d; exact hd1) (by rw [hs]; show _ ≤ 64 * d; omega) (Nat.zero_le _) (Nat.zero_le _) hd ?_
  have he : (if 0 ≤ iI a then iI a else 0 - iI a) = iI (a.natAbs : Int) := by
    show (if iI 0 ≤ iI a then iI a else iI 0 - iI a) = iI (a.natAbs : Int)
    by_cases h : 0 ≤ a
    · rw [if_pos ((iI_le inR_0 ha).mpr h)]; congr 1; omega
    · rw [if_neg (fun q => h ((iI_le inR_0 ha).mp q)), ← iI_sub]; congr 1; omega
  rw [he]
  exact k2
theorem st_sum {ad : gAd} (hI : gI ad) (st : List MV) : ((st.map (vv ad)).map fun v => v.category).sum = st.length := by
  induction st with
  | nil => rfl
  | cons x t ih => rw [List.map_cons, List.map_cons, List.sum_cons, ih, vv_cat hI, List.length_cons]; omega
theorem Go_max {idx : Nat} {a b : Int} (hd : decode cc pc = .ok (.invokestatic idx, 3)) (hl : Cond.methodLink own idx Lib.Math.max.name ∈ TB) (h2 : Cond.static Lib.Math.max.name ∈ TB) (h3 : Cond.initialized "java/lang/Math" ∈ TB) (h4 : Cond.code Lib.Math.max.name Lib.Math.max.code 2 (some .int) ∈ TB) (ha : inR a) (hb : inR b) (hd1 : 1 ≤ d) (hr : st.length ≤ 8) (k : Go d own cc nL ret (pc + 3) L (.inl (max a b) :: st) M v M') : Go d own cc nL ret pc L (.inl b :: .inl a :: st) M v M' := by
  intro p l e s m args below meth c G ad cI cC H locs ls C hP hS hl'
  have k2 := k p l e s m args below meth c G ad cI cC H locs ls C hP hS hl'
  have hw := C.2.2.2.2.2.2.1
  refine va_mmax (x := iI a) (y := iI b) C.1 C.2.1 (C.2.2.1.trans hl'.1.symm) C.2.2.2.2.2.1 (hw _ hl) (hw _ h2) (hw _ h3) (hw _ h4) (by show 1 ≤ d; exact hd1) (by rw [st_sum C.2.2.2.2.2.2.2.2.2]; show _ ≤ 64 * d; omega) (Nat.zero_le _) (Nat.zero_le _) hd ?_
  have he : (if iI a < iI b then iI b else iI a) = iI (max a b) := by
    by_cases h : a < b
    · rw [if_pos ((iI_lt ha hb).mpr h)]; congr 1; omega
    · rw [if_neg (fun q => h ((iI_lt ha hb).mp q))]; congr 1; omega
  rw [he]
  exact k2
theorem Go_min {idx : Nat} {a b : Int} (hd : decode cc pc = .ok (.invokestatic idx, 3)) (hl : Cond.methodLink own idx Lib.Math.min.name ∈ TB) (h2 : Cond.static Lib.Math.min.name ∈ TB) (h3 : Cond.initialized "java/lang/Math" ∈ TB) (h4 : Cond.code Lib.Math.min.name Lib.Math.min.code 2 (some .int) ∈ TB) (ha : inR a) (hb : inR b) (hd1 : 1 ≤ d) (hr : st.length ≤ 8) (k : Go d own cc nL ret (pc + 3) L (.inl (min a b) :: st) M v M') : Go d own cc nL ret pc L (.inl b :: .inl a :: st) M v M' := by
  intro p l e s m args below meth c G ad cI cC H locs ls C hP hS hl'
  have k2 := k p l e s m args below meth c G ad cI cC H locs ls C hP hS hl'
  have hw := C.2.2.2.2.2.2.1
  refine va_mmin (x := iI a) (y := iI b) C.1 C.2.1 (C.2.2.1.trans hl'.1.symm) C.2.2.2.2.2.1 (hw _ hl) (hw _ h2) (hw _ h3) (hw _ h4) (by show 1 ≤ d; exact hd1) (by rw [st_sum C.2.2.2.2.2.2.2.2.2]; show _ ≤ 64 * d; omega) (Nat.zero_le _) (Nat.zero_le _) hd ?_
  have he : (if iI b < iI a then iI b else iI a) = iI (min a b) := by
    by_cases h : b < a
    · rw [if_pos ((iI_lt hb ha).mpr h)]; congr 1; omega
    · rw [if_neg (fun q => h ((iI_lt hb ha).mp q))]; congr 1; omega
  rw [he]
  exact k2
/-- n values of f from sp on, laid into g from dp on -/
def cpyI (f g : Int → Int) (sp dp n : Int) : Int → Int := fun q => if dp ≤ q ∧ q < dp + n then f (sp + (q - dp)) else g q
theorem Go_copy {idx k0 k1 n0 n1 : Nat} {sp dp n : Int} (hd : decode cc pc = .ok (.invokestatic idx, 3)) (hl : Cond.methodLink own idx arraycopyName ∈ TB) (h2 : Cond.native arraycopyName ∈ TB) (h3 : Cond.static arraycopyName ∈ TB) (h4 : Cond.initialized "java/lang/System" ∈ TB) (hk0 : k0 < 26) (hk1 : k1 < 26) (ho0 : ob k0 = .inl (0, n0)) (ho1 : ob k1 = .inl (0, n1)) (s0 : 0 ≤ sp) (d0 : 0 ≤ dp) (z0 : 0 ≤ n) (sn : sp + n ≤ n0) (dn : dp + n ≤ n1) (hd1 : 1 ≤ d) (hr : st.length ≤ 8)
    (k : Go d own cc nL ret (pc + 3) L st (setR M k1 (cpyI (M k0) (M k1) sp dp n)) v M') : Go d own cc nL ret pc L (.inl n :: .inl dp :: .inr k1 :: .inl sp :: .inr k0 :: st) M v M' := by
  intro p l e s m args below meth c G ad cI cC H locs ls C hP hS hl'
  have hw := C.2.2.2.2.2.2.1
  have hn0 := ob_n ho0
  have hn1 := ob_n ho1
  have q1 : (iI sp).toNatClampNeg = sp.toNat := iI_nat s0 (by omega)
  have q2 : (iI dp).toNatClampNeg = dp.toNat := iI_nat d0 (by omega)
  have q3 : (iI n).toNatClampNeg = n.toNat := iI_nat z0 (by omega)
  have ng : ∀ {z : Int}, 0 ≤ z → z < 2147483648 → ¬ iI z < 0 := fun h1 h2 h => by have := (iI_lt ⟨by omega, h2⟩ inR_0).mp h; omega
  simp only [List.map_cons]
  rw [vv_ref (by omega : k0 ≠ 999), vv_ref (by omega : k1 ≠ 999)]
  refine va_copyi (sp := iI sp) (dp := iI dp) (n := iI n) (ty := .int) C.1 C.2.1 (C.2.2.1.trans hl'.1.symm) C.2.2.2.2.2.1 (hw _ hl) (hw _ h2) (hw _ h3) (hw _ h4) C.2.2.2.2.2.2.2.1 hP (wd_D C.2.2.2.2.2.2.2.2.2) hS k0 k1 0 0 (wd_arr hk0 ho0) (wd_arr hk1 ho1) rfl rfl rfl (ng s0 (by omega)) (ng d0 (by omega)) (ng z0 (by omega)) (by rw [q1, q3]; omega) (by rw [q2, q3]; omega) (fun _ _ => rfl) (by show 1 ≤ d; exact hd1)
    (by rw [st_sum C.2.2.2.2.2.2.2.2.2]; show _ ≤ 64 * d; have : nativeFrameWords "java/lang/System" "arraycopy" 5 ≤ 40 := by decide +kernel
        omega) hd (fun H1 locs1 hP1 hD1 hS1 => ?_)
  have he : (wd ad cI cC M).set k1 (ad.1 k1, .inl (if 0 = 0 then cI else cC, n1, .inl (va_cpy (fun j : Nat => iI (M k0 j)) (fun j : Nat => iI (M k1 j)) (iI sp).toNatClampNeg (iI dp).toNatClampNeg (iI n).toNatClampNeg))) = wd ad cI cC (setR M k1 (cpyI (M k0) (M k1) sp dp n)) := by
    rw [← wd_set (M := M) (M1 := setR M k1 (cpyI (M k0) (M k1) sp dp n)) hk1 (fun q hq => setR_n hq), en_arr ho1, q1, q2, q3]
    congr 6
    funext j
    unfold va_cpy setR cpyI
    rw [if_pos rfl]
    by_cases h : dp.toNat ≤ j ∧ j < dp.toNat + n.toNat
    · rw [if_pos h, if_pos (by omega)]
      have ha : ((sp.toNat + (j - dp.toNat) : Nat) : Int) = sp + ((j : Int) - dp) := by omega
      show iI (M k0 ((sp.toNat + (j - dp.toNat) : Nat) : Int)) = _
      rw [ha]
    · rw [if_neg h, if_neg (by omega)]
  rw [he] at hP1
  exact k p l e s m args below meth c G ad cI cC H1 locs1 ls C hP1 hS1 hl'
end GO2
