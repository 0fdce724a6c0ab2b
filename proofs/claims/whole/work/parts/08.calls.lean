/-! the little machine: calls -/
def gB (G : va_G) (ad : gAd) (cI cC : ClassId) (M : gMem) (U : State) : Prop := va_P G vwCl (wd ad cI cC M) U.heap ∧ va_K G vwCl [(cI, .int), (cC, .char)] U ∧ gSt ad U U.heap
def gL0 (nL : Nat) (avs : List MV) : List (Option MV) := avs.map some ++ List.replicate (nL - avs.length) none
theorem lg_len {ad : gAd} (hI : gI ad) (avs : List MV) : (lg_sl (avs.map (vv ad))).length = avs.length := by
  induction avs with
  | nil => rfl
  | cons x t ih =>
    have e : lg_sl ((x :: t).map (vv ad)) = [.val (vv ad x)] ++ lg_sl (t.map (vv ad)) := by
      have hc := vv_cat hI x
      simp [lg_sl, hc]
    rw [e, List.length_append, ih]
    simp; omega
theorem args_in {ad : gAd} (hI : gI ad) : ∀ (avs : List MV) (k i : Nat) (x : MV), avs[i]? = some x → (k + i, vv ad x) ∈ lv_args k (avs.map (vv ad)) := by
  intro avs
  induction avs with
  | nil => intro k i x h; cases h
  | cons a t ih =>
    intro k i x h
    have hc := vv_cat hI a
    have e : lv_args k ((a :: t).map (vv ad)) = (k, vv ad a) :: lv_args (k + 1) (t.map (vv ad)) := by
      simp [lv_args, hc]
    rw [e]
    cases i with
    | zero =>
      have := Option.some.inj h
      subst this
      exact List.mem_cons_self
    | succ j =>
      have h2 := ih (k + 1) j x h
      rw [show k + (j + 1) = k + 1 + j by omega]
      exact List.mem_cons_of_mem _ h2
theorem gL_entry {ad : gAd} (hI : gI ad) (avs : List MV) {nL : Nat} (h : avs.length ≤ nL) : gL ad ((lg_sl (avs.map (vv ad)) ++ List.replicate (nL - (lg_sl (avs.map (vv ad))).length) Slot.unset).toArray) nL (gL0 nL avs) := by
  obtain ⟨h1, h2, h3⟩ := lv_entry (avs.map (vv ad)) (n := nL) (by rw [lg_len hI]; exact h)
  refine ⟨h1, h2, fun q hq => ?_⟩
  obtain ⟨x, hx, e⟩ := gP_of hq
  have hlt : q.1 < avs.length := by
    rcases Nat.lt_or_ge q.1 avs.length with z | z
    · exact z
    · rw [gL0, List.getElem?_append_right (by simpa using z)] at hx
      have := List.eq_of_mem_replicate (List.mem_of_getElem? hx)
      cases this
  rw [gL0, List.getElem?_append_left (by simpa using hlt), List.getElem?_map] at hx
  have hx2 : avs[q.1]? = some x := by
    cases ha : avs[q.1]? with
    | none => rw [ha] at hx; cases hx
    | some b => rw [ha] at hx; simp at hx; rw [hx]
  have h4 := args_in hI avs 0 q.1 x hx2
  rw [Nat.zero_add, ← e] at h4
  exact h3 q h4
def gW (y : MethodName) (cc : ByteArray) (nL : Nat) (ret : Option FieldType) : List Cond := .code y cc nL ret :: TB
theorem Go.met {d nL : Nat} {y : MethodName} {cc : ByteArray} {ret : Option FieldType} {avs : List MV} {M M' : gMem} {v : Option MV} (hy : plainName y.cls = true) (hn : avs.length ≤ nL) (h : Go d y.cls cc nL ret 0 (gL0 nL avs) [] M v M') (l : Launch) (G : va_G) (ad : gAd) (cI cC : ClassId) (hI : gI ad) :
    Met l y (gW y cc nL ret) (rmd d) (va_Pc (avs.map (vv ad)) (gB G ad cI cC M)) (gQ G ad cI cC v M') 0 0 (gA ad) := by
  refine Met.ofW (cc := cc) (maxL := nL) (ret := ret) hy rfl ?_
  intro p e s m args below meth c s₁ B hml hv
  obtain ⟨rfl, hP, hK, hSt⟩ := hv
  have hts := atoms_spec (ws := gW y cc nL ret) B.pre
  have hown := findClass_of_methodNamed B.named
  have hl := gL_entry hI avs hn
  rw [lg_entry_eq]
  exact h p l e s m _ below meth c G ad cI cC s.heap [] _ ⟨B.exec, B.bytes, hml, B.returns, B.notSynchronized, hown, fun w hw => hts w (List.mem_cons_of_mem _ hw), hK, hSt, hI⟩ hP va_S.rf hl
def rcv (k : Nat) (C : String) : Prop := (∃ (ci : Nat) (fs : List (Option Nat)) (T : u_T) (N : Nat), k < 26 ∧ ob k = .inr (ci, fs) ∧ vwCl[ci]? = some (C, T, N)) ∨ (∃ i : Nat, i < 6 ∧ k = 100 + i ∧ C = "java/lang/String")
theorem rcv_ne {k : Nat} {C : String} (h : rcv k C) : k ≠ 999 := by
  rcases h with ⟨_, _, _, _, h, -⟩ | ⟨i, h, h2, -⟩ <;> omega
theorem rcv_cell {k : Nat} {C : String} {G : va_G} {ad : gAd} {cI cC : ClassId} {M : gMem} {s : State} {H : Heap} {locs : List Loc} (h : rcv k C) (hK : va_K G vwCl [(cI, .int), (cC, .char)] s) (hSt : gSt ad s s.heap) (hP : va_P G vwCl (wd ad cI cC M) H) (hS : va_S (gA ad) s.heap H locs) : ∃ cell : Cell, H[ad.1 k]? = some cell ∧ cell.vm.isStatics = false ∧ s.vm.findClass C = some cell.cls := by
  rcases h with ⟨ci, fs, T, N, h1, h2, h3⟩ | ⟨i, h1, rfl, rfl⟩
  · exact va_recv hK hP h3 (wd_obj h1 h2)
  · obtain ⟨cell, q1, q2, q3, q4⟩ := (hSt.1.1 i h1).1
    exact ⟨cell, by rw [hS.2.1 _ (Array.getElem?_eq_some_iff.mp q1).1 q4]; exact q1, q2, q3⟩
theorem gB_blind {G : va_G} {ad : gAd} {cI cC : ClassId} {M : gMem} {av : List Value} : FrameBlind (va_Pc av (gB G ad cI cC M)) := fun a U g mk q => by
  obtain ⟨q0, qP, qK, qS⟩ := q
  exact ⟨q0, qP, va_K.moved (u := U) (U := U.calling g mk a) (Vm.Alike.refl U.vm) qK, gSt.same (u := U) (U := U.calling g mk a) qS rfl⟩
theorem gB_of {G : va_G} {ad : gAd} {cI cC : ClassId} {M : gMem} {s U : State} {H : Heap} {locs : List Loc} (hK : va_K G vwCl [(cI, .int), (cC, .char)] s) (hSt : gSt ad s s.heap) (hP : va_P G vwCl (wd ad cI cC M) H) (hS : va_S (gA ad) s.heap H locs) (hU : U.heap = H) (hW : s.WarmedH U.vm) : gB G ad cI cC M U :=
  ⟨by rw [hU]; exact hP, va_K.moved hW.alike hK, hSt.go hW (by rw [hU]; exact hS.2.1)⟩
section GO3
variable {d : Nat} {own : String} {cc : ByteArray} {nL : Nat} {ret : Option FieldType} {pc : Nat} {L : List (Option MV)} {M M' : gMem} {v : Option MV}
theorem go_on {p : Program} {l : Launch} {e : Env} {R : Room} {s : State} {m : MethodId} {args a : Array Value} {below : List Frame} {meth : Method} {c : Code} {H : Heap} {locs : List Loc} {Q : State → Prop} {ls : Array Slot} {rest st0 : List Value} {G : va_G} {ad : gAd} {cI cC : ClassId} {v1 : Option MV} {M1 : gMem}
    (hr : va_Run p l e R s m args below meth c H locs 0 0 0 0 (F0 m pc ls st0) rest (gQ G ad cI cC v1 M1 a) (gA ad)) (hS : va_S (gA ad) s.heap H locs)
    (kk : ∀ (H1 : Heap) (locs1 : List Loc), va_P G vwCl (wd ad cI cC M1) H1 → va_S (gA ad) s.heap H1 locs1 → W p l e R s m args below meth c H1 locs1 0 0 Q (F0 m (pc + 3) ls ((v1.map (vv ad)).toList ++ rest))) : W p l e R s m args below meth c H locs 0 0 Q (F0 m pc ls st0) := by
  intro T hT X
  obtain ⟨v, st₀, t, T', L, h0, X', hL, e1, e2, ⟨hv, hp, hz, hk⟩, st⟩ := hr T hT X
  cases hv
  rw [h0] at hz hk
  obtain ⟨t2, a1, b1⟩ := kk T'.heap (locs ++ L) (by rw [e1]; exact hp)
    ⟨Nat.le_trans hS.1 (by rw [e1]; exact hz), fun q h1 h2 => by rw [e1, hk q (Nat.lt_of_lt_of_le h1 hS.1) h2]; exact hS.2.1 q h1 h2, fun q hq => by
      rcases List.mem_append.mp hq with h | h
      · exact hS.2.2 q h
      · exact hL q h⟩ T' rfl X'
  exact ⟨t2, st t2 a1, b1⟩
theorem Go_invV0 {idx n k d' nL' : Nat} {y : MethodName} {own' : String} {cc' : ByteArray} {ret' : Option FieldType} {avs rest stk : List MV} {v1 : Option MV} {M1 : gMem} {L0 : List (Option MV)} (hd : decode cc pc = .ok (.invokevirtual idx, 3)) (hl : Cond.methodLink own idx y ∈ TB) (hm : mOK y cc' nL' ret' n) (hv : vOK y) (hown : y.cls = own') (hk : rcv k y.cls)
    (hs : avs.reverse ++ .inr k :: rest = stk) (hn : avs.length = n) (hnl : avs.length + 1 ≤ nL') (hd' : d' + 1 ≤ d) (hr : rest.length ≤ 8) (hL0 : gL0 nL' (.inr k :: avs) = L0) (call : Go d' own' cc' nL' ret' 0 L0 [] M v1 M1)
    (kk : Go d own cc nL ret (pc + 3) L (v1.toList ++ rest) M1 v M') : Go d own cc nL ret pc L stk M v M' := by
  intro p l e s m args below meth c G ad cI cC H locs ls C hP hS hls
  subst hown; subst hs; subst hL0
  have hI : gI ad := C.2.2.2.2.2.2.2.2.2
  have hts := C.2.2.2.2.2.2.1
  have hM := Go.met hm.1 (by simpa using hnl) call l G ad cI cC hI
  have hG : GoodIn TB (wsV own idx y.cls y (gW y cc' nL' ret')) := fun w hw => by
    refine tb_good w ?_
    simp only [wsV, gW, List.cons_append, List.nil_append, List.mem_cons] at hw
    rcases hw with h | h | h | h | h | h
    · rw [h]; exact hl
    · rw [h]; exact hv.1
    · rw [h]; exact hv.2
    · rw [h]; exact hm.2.2.1
    · rw [h]; exact hm.2.1
    · exact h
  have cw := cwV (R := rmd d) (s := s) (args := args) (own := own) (index := idx) (C := y.cls) (y := y) (bytes := cc') (maxL := nL') (ret := ret') (rm := rmd d') (mc := 0) (ms := 0) n hts hG rfl rfl rfl ⟨rfl, hm.2.2.2.1⟩ ⟨hd', by show 8 + (nL' + 11) + 64 * d' ≤ 64 * d; have := hm.2.2.2.2; omega⟩
  have hne := rcv_ne hk
  have hr1 := va_runV (As := avs.map (vv ad)) (rest := rest.map (vv ad)) (b := ad.1 k) (g := F0 m pc ls ((avs.reverse ++ .inr k :: rest).map (vv ad))) (H := H) (locs := locs) (e := e) (below := below) (meth := meth) (cells := 0) (slots := 0) ⟨C.1, C.2.1, C.2.2.1, C.2.2.2.2.2.1, hts⟩ hM cw
    ⟨gB_blind, rcv_cell hk C.2.2.2.2.2.2.2.1 C.2.2.2.2.2.2.2.2.1 hP hS, fun U hU hW => ⟨by rw [List.map_cons, vv_ref hne], gB_of C.2.2.2.2.2.2.2.1 C.2.2.2.2.2.2.2.2.1 hP hS hU hW⟩⟩ rfl (by simpa using hn) hls.1
    (by show List.map (vv ad) _ = _; rw [List.map_append, List.map_reverse, List.map_cons, vv_ref hne]) (lv_room (by rw [st_sum hI]; exact hr)) hd ⟨Nat.zero_le _, Nat.zero_le _⟩
  refine go_on hr1 hS (fun H1 locs1 hP1 hS1 => ?_)
  have k2 := kk p l e s m args below meth c G ad cI cC H1 locs1 ls C hP1 hS1 hls
  rw [List.map_append] at k2
  cases v1 with
  | none => exact k2
  | some x => exact k2
theorem Go_invS0 {idx n d' nL' : Nat} {y : MethodName} {own' : String} {cc' : ByteArray} {ret' : Option FieldType} {avs rest stk : List MV} {v1 : Option MV} {M1 : gMem} {L0 : List (Option MV)} (hd : decode cc pc = .ok (.invokestatic idx, 3)) (hl : Cond.methodLink own idx y ∈ TB) (hm : mOK y cc' nL' ret' n) (hv : Cond.static y ∈ TB) (hown : y.cls = own')
    (hs : avs.reverse ++ rest = stk) (hn : avs.length = n) (hnl : avs.length ≤ nL') (hd' : d' + 1 ≤ d) (hr : rest.length ≤ 8) (hL0 : gL0 nL' avs = L0) (call : Go d' own' cc' nL' ret' 0 L0 [] M v1 M1)
    (kk : Go d own cc nL ret (pc + 3) L (v1.toList ++ rest) M1 v M') : Go d own cc nL ret pc L stk M v M' := by
  intro p l e s m args below meth c G ad cI cC H locs ls C hP hS hls
  subst hown; subst hs; subst hL0
  have hI : gI ad := C.2.2.2.2.2.2.2.2.2
  have hts := C.2.2.2.2.2.2.1
  have hM := Go.met hm.1 hnl call l G ad cI cC hI
  have hG : GoodIn TB (va_wsS own idx y (gW y cc' nL' ret')) := fun w hw => by
    refine tb_good w ?_
    simp only [va_wsS, gW, List.cons_append, List.nil_append, List.mem_cons] at hw
    rcases hw with h | h | h | h | h
    · rw [h]; exact hl
    · rw [h]; exact hv
    · rw [h]; exact hm.2.2.1
    · rw [h]; exact hm.2.1
    · exact h
  have cw := va_cwS (R := rmd d) (s := s) (args := args) (own := own) (index := idx) (y := y) (bytes := cc') (maxL := nL') (ret := ret') (rm := rmd d') (mc := 0) (ms := 0) n hts hG rfl rfl rfl hm.2.2.2.1 ⟨hd', by show 8 + (nL' + 11) + 64 * d' ≤ 64 * d; have := hm.2.2.2.2; omega⟩
  have hr1 := va_runS (As := avs.map (vv ad)) (rest := rest.map (vv ad)) (g := F0 m pc ls ((avs.reverse ++ rest).map (vv ad))) (H := H) (locs := locs) (e := e) (below := below) (meth := meth) (cells := 0) (slots := 0) ⟨C.1, C.2.1, C.2.2.1, C.2.2.2.2.2.1, hts⟩ hM cw
    ⟨gB_blind, fun U hU hW => ⟨rfl, gB_of C.2.2.2.2.2.2.2.1 C.2.2.2.2.2.2.2.2.1 hP hS hU hW⟩⟩ rfl (by simpa using hn) hls.1
    (by show List.map (vv ad) _ = _; rw [List.map_append, List.map_reverse]) (lv_room (by rw [st_sum hI]; exact hr)) hd ⟨Nat.zero_le _, Nat.zero_le _⟩
  refine go_on hr1 hS (fun H1 locs1 hP1 hS1 => ?_)
  have k2 := kk p l e s m args below meth c G ad cI cC H1 locs1 ls C hP1 hS1 hls
  rw [List.map_append] at k2
  cases v1 with
  | none => exact k2
  | some x => exact k2
theorem Go_invV {idx n k d' nL' : Nat} {y : MethodName} {own' : String} {cc' : ByteArray} {ret' : Option FieldType} {avs rest stk : List MV} {x : MV} {M1 : gMem} {L0 : List (Option MV)} (hd : decode cc pc = .ok (.invokevirtual idx, 3)) (hl : Cond.methodLink own idx y ∈ TB) (hm : mOK y cc' nL' ret' n) (hv : vOK y) (hown : y.cls = own') (hk : rcv k y.cls)
    (hs : avs.reverse ++ .inr k :: rest = stk) (hn : avs.length = n) (hnl : avs.length + 1 ≤ nL') (hd' : d' + 1 ≤ d) (hr : rest.length ≤ 8) (hL0 : gL0 nL' (.inr k :: avs) = L0) (call : Go d' own' cc' nL' ret' 0 L0 [] M (some x) M1)
    (kk : Go d own cc nL ret (pc + 3) L (x :: rest) M1 v M') : Go d own cc nL ret pc L stk M v M' := Go_invV0 hd hl hm hv hown hk hs hn hnl hd' hr hL0 call kk
theorem Go_invVv {idx n k d' nL' : Nat} {y : MethodName} {own' : String} {cc' : ByteArray} {ret' : Option FieldType} {avs rest stk : List MV} {M1 : gMem} {L0 : List (Option MV)} (hd : decode cc pc = .ok (.invokevirtual idx, 3)) (hl : Cond.methodLink own idx y ∈ TB) (hm : mOK y cc' nL' ret' n) (hv : vOK y) (hown : y.cls = own') (hk : rcv k y.cls)
    (hs : avs.reverse ++ .inr k :: rest = stk) (hn : avs.length = n) (hnl : avs.length + 1 ≤ nL') (hd' : d' + 1 ≤ d) (hr : rest.length ≤ 8) (hL0 : gL0 nL' (.inr k :: avs) = L0) (call : Go d' own' cc' nL' ret' 0 L0 [] M none M1)
    (kk : Go d own cc nL ret (pc + 3) L rest M1 v M') : Go d own cc nL ret pc L stk M v M' := Go_invV0 hd hl hm hv hown hk hs hn hnl hd' hr hL0 call kk
theorem Go_invS {idx n d' nL' : Nat} {y : MethodName} {own' : String} {cc' : ByteArray} {ret' : Option FieldType} {avs rest stk : List MV} {x : MV} {M1 : gMem} {L0 : List (Option MV)} (hd : decode cc pc = .ok (.invokestatic idx, 3)) (hl : Cond.methodLink own idx y ∈ TB) (hm : mOK y cc' nL' ret' n) (hv : Cond.static y ∈ TB) (hown : y.cls = own')
    (hs : avs.reverse ++ rest = stk) (hn : avs.length = n) (hnl : avs.length ≤ nL') (hd' : d' + 1 ≤ d) (hr : rest.length ≤ 8) (hL0 : gL0 nL' avs = L0) (call : Go d' own' cc' nL' ret' 0 L0 [] M (some x) M1)
    (kk : Go d own cc nL ret (pc + 3) L (x :: rest) M1 v M') : Go d own cc nL ret pc L stk M v M' := Go_invS0 hd hl hm hv hown hs hn hnl hd' hr hL0 call kk
theorem Go_invSv {idx n d' nL' : Nat} {y : MethodName} {own' : String} {cc' : ByteArray} {ret' : Option FieldType} {avs rest stk : List MV} {M1 : gMem} {L0 : List (Option MV)} (hd : decode cc pc = .ok (.invokestatic idx, 3)) (hl : Cond.methodLink own idx y ∈ TB) (hm : mOK y cc' nL' ret' n) (hv : Cond.static y ∈ TB) (hown : y.cls = own')
    (hs : avs.reverse ++ rest = stk) (hn : avs.length = n) (hnl : avs.length ≤ nL') (hd' : d' + 1 ≤ d) (hr : rest.length ≤ 8) (hL0 : gL0 nL' avs = L0) (call : Go d' own' cc' nL' ret' 0 L0 [] M none M1)
    (kk : Go d own cc nL ret (pc + 3) L rest M1 v M') : Go d own cc nL ret pc L stk M v M' := Go_invS0 hd hl hm hv hown hs hn hnl hd' hr hL0 call kk
/-- the private static methods of the outer class that the nested ones call -/
def gNest (own : String) (idx : Nat) (y : MethodName) : Prop := (own = RX6 ∧ idx = 25 ∧ y = yX7_bitOf) ∨ (own = RX1 ∧ idx = 36 ∧ y = yX7_bitOf) ∨ (own = RX3 ∧ idx = 106 ∧ y = yX7_isError)
theorem gNest_of {ad : gAd} {s : State} {H : Heap} {idx : Nat} {y : MethodName} (h : gSt ad s H) (g : gNest own idx y) : va_Nw (.methodLinkNest own idx y "StringShades") s := by
  rcases g with ⟨rfl, rfl, rfl⟩ | ⟨rfl, rfl, rfl⟩ | ⟨rfl, rfl, rfl⟩
  · exact h.2.2.2.2.1
  · exact h.2.2.2.2.2.1
  · exact h.2.2.2.2.2.2
theorem Go_invSN {idx n d' nL' : Nat} {y : MethodName} {own' : String} {cc' : ByteArray} {ret' : Option FieldType} {avs rest stk : List MV} {x : MV} {M1 : gMem} {L0 : List (Option MV)} (hd : decode cc pc = .ok (.invokestatic idx, 3)) (hl : gNest own idx y) (hm : mOK y cc' nL' ret' n) (hv : Cond.static y ∈ TB) (hown : y.cls = own')
    (hs : avs.reverse ++ rest = stk) (hn : avs.length = n) (hnl : avs.length ≤ nL') (hd' : d' + 1 ≤ d) (hr : rest.length ≤ 8) (hL0 : gL0 nL' avs = L0) (call : Go d' own' cc' nL' ret' 0 L0 [] M (some x) M1)
    (kk : Go d own cc nL ret (pc + 3) L (x :: rest) M1 v M') : Go d own cc nL ret pc L stk M v M' := by
  intro p l e s m args below meth c G ad cI cC H locs ls C hP hS hls
  subst hown; subst hs; subst hL0
  have hI : gI ad := C.2.2.2.2.2.2.2.2.2
  have hts := C.2.2.2.2.2.2.1
  have hM := Go.met hm.1 hnl call l G ad cI cC hI
  have hG : GoodIn TB (gW y cc' nL' ret') := fun w hw => by
    refine tb_good w ?_
    simp only [gW, List.mem_cons] at hw
    rcases hw with h | h
    · rw [h]; exact hm.2.1
    · exact h
  have cw := va_cnB (R := rmd d) (s := s) (args := args) (own := own) (host := "StringShades") (index := idx) (y := y) (bytes := cc') (maxL := nL') (ret := ret') (rm := rmd d') (mc := 0) (ms := 0) n hts hG rfl rfl rfl (gNest_of C.2.2.2.2.2.2.2.2.1 hl) (hts _ hm.2.2.1) hm.2.2.2.1 ⟨hd', by show 8 + (nL' + 11) + 64 * d' ≤ 64 * d; have := hm.2.2.2.2; omega⟩
  have hr1 := va_runSN (As := avs.map (vv ad)) (rest := rest.map (vv ad)) (g := F0 m pc ls ((avs.reverse ++ rest).map (vv ad))) (H := H) (locs := locs) (e := e) (below := below) (meth := meth) (cells := 0) (slots := 0) ⟨C.1, C.2.1, C.2.2.1, C.2.2.2.2.2.1, hts⟩ hM ⟨cw, hts _ hv, trivial⟩
    ⟨gB_blind, fun U hU hW => ⟨rfl, gB_of C.2.2.2.2.2.2.2.1 C.2.2.2.2.2.2.2.2.1 hP hS hU hW⟩⟩ rfl (by simpa using hn) hls.1
    (by show List.map (vv ad) _ = _; rw [List.map_append, List.map_reverse]) (lv_room (by rw [st_sum hI]; exact hr)) hd ⟨Nat.zero_le _, Nat.zero_le _⟩
  refine go_on hr1 hS (fun H1 locs1 hP1 hS1 => ?_)
  exact kk p l e s m args below meth c G ad cI cC H1 locs1 ls C hP1 hS1 hls
end GO3
theorem nk_X6_25 : gNest RX6 25 yX7_bitOf := Or.inl ⟨rfl, rfl, rfl⟩
theorem nk_X1_36 : gNest RX1 36 yX7_bitOf := Or.inr (Or.inl ⟨rfl, rfl, rfl⟩)
theorem nk_X3_106 : gNest RX3 106 yX7_isError := Or.inr (Or.inr ⟨rfl, rfl, rfl⟩)
