/-! the law: its rows over the little machine -/
def lA (s : State) : Nat → Prop := fun q => s.heap.size ≤ q
def lX (p : Program) (s : State) (m : MethodId) (meth : Method) (c : Code) (b L : Nat) (xs : Nat → Int32) (G : va_G) (ad : gAd) (cI cC : ClassId) : Prop :=
  p.tables.exec = Jvm.exec ∧ c.code = cL_law ∧ c.maxLocals = 4 ∧ meth.sig.returnType = ret ∧ meth.locks = false ∧ s.vm.findClass RL = some m.cls ∧ (∀ w ∈ TB, w.before #[Value.ref b] s = true) ∧ va_K G vwCl [(cI, .int), (cC, .char)] s ∧ gSt ad s s.heap ∧ gI ad ∧ (∀ k, k < 26 → s.heap.size ≤ ad.1 k) ∧ va_X b L xs s s.heap ∧ b < s.heap.size ∧ L ≤ 2048
def Lo (p : Program) (l : Launch) (e : Env) (s : State) (m : MethodId) (b : Nat) (below : List Frame) (meth : Method) (c : Code) (G : va_G) (ad : gAd) (cI cC : ClassId) (pc : Nat) (i : Nat) (st : List MV) (M : gMem) : Prop :=
  ∀ (H : Heap) (locs : List Loc) (ls : Array Slot), va_P G vwCl (wd ad cI cC M) H → va_S (lA s) s.heap H locs → lv_has ls 4 [(0, .ref b), (1, .ref (ad.1 0)), (2, .ref (ad.1 16)), (3, .int (nI i))] →
    W p l e room_1 s m #[Value.ref b] below meth c H locs 26 1292 (lw_Z below #[Value.ref b] s) (F0 m pc ls (st.map (vv ad)))
section LAW
variable {p : Program} {l : Launch} {e : Env} {s : State} {m : MethodId} {b L : Nat} {xs : Nat → Int32} {below : List Frame} {meth : Method} {c : Code} {G : va_G} {ad : gAd} {cI cC : ClassId} {pc i : Nat} {st : List MV} {M : gMem}
theorem Lo_x (C : lX p s m meth c b L xs G ad cI cC) (hd : decode cL_law pc = .ok (.aload_n 1, 1)) (k : Lo p l e s m b below meth c G ad cI cC (pc + 1) i (.inr 0 :: st) M) : Lo p l e s m b below meth c G ad cI cC pc i st M := by
  intro H locs ls hP hS hl
  have h := k H locs ls hP hS hl
  rw [List.map_cons, vv_ref (by decide)] at h
  exact lv_aload_n C.1 C.2.1 hd rfl (lv_at hl 1 rfl) h
theorem Lo_m (C : lX p s m meth c b L xs G ad cI cC) (hd : decode cL_law pc = .ok (.aload_n 2, 1)) (k : Lo p l e s m b below meth c G ad cI cC (pc + 1) i (.inr 16 :: st) M) : Lo p l e s m b below meth c G ad cI cC pc i st M := by
  intro H locs ls hP hS hl
  have h := k H locs ls hP hS hl
  rw [List.map_cons, vv_ref (by decide)] at h
  exact lv_aload_n C.1 C.2.1 hd rfl (lv_at hl 2 rfl) h
theorem Lo_arg (C : lX p s m meth c b L xs G ad cI cC) {q : Nat} {n : Int} (hd0 : decode cL_law pc = .ok (.aload_n 0, 1)) (hd1 : decode cL_law (pc + 1) = .ok (.iload_n 3, 1)) (hd2 : decode cL_law (pc + 1 + 1) = .ok (.iconst n, 1)) (hd3 : decode cL_law (pc + 1 + 1 + 1) = .ok (.iadd, 1)) (hd4 : decode cL_law (pc + 1 + 1 + 1 + 1) = .ok (.iaload, 1)) (hn : Int32.ofInt n = nI q) (hq : i + q < L) (k : Lo p l e s m b below meth c G ad cI cC (pc + 1 + 1 + 1 + 1 + 1) i (.inl (xs (i + q)).toInt :: st) M) : Lo p l e s m b below meth c G ad cI cC pc i st M := by
  intro H locs ls hP hS hl
  have hL : L ≤ 2048 := C.2.2.2.2.2.2.2.2.2.2.2.2.2
  have hbl : b < s.heap.size := C.2.2.2.2.2.2.2.2.2.2.2.2.1
  have h := k H locs ls hP hS hl
  refine lv_aload_n C.1 C.2.1 hd0 rfl (lv_at hl 0 rfl) ?_
  refine lv_iload_n C.1 C.2.1 hd1 rfl (lv_at hl 3 rfl) ?_
  refine lv_iconst C.1 C.2.1 hd2 hn ?_
  refine lv_iadd C.1 C.2.1 hd3 ?_
  rw [nI_add]
  refine va_sld C.1 C.2.1 C.2.2.2.2.2.2.2.2.2.2.2.1 hbl (Nat.not_le.mpr hbl) hS (vp_in_nI hq (by omega)) hd4 ?_
  rw [nI_clamp (by omega)]
  rw [List.map_cons] at h
  rw [show Value.int (xs (i + q)) = vv ad (.inl (xs (i + q)).toInt) from by show _ = Value.int (iI _); rw [iI_of]]
  exact h
theorem Lo_call {idx n k ci nL' : Nat} {fs : List (Option Nat)} {T : u_T} {N : Nat} {y : MethodName} {own' : String} {cc' : ByteArray} {avs rest stk : List MV} {x : MV} {M1 : gMem} {L0 : List (Option MV)} (C : lX p s m meth c b L xs G ad cI cC) (hd : decode cL_law pc = .ok (.invokevirtual idx, 3)) (hl : Cond.methodLink RL idx y ∈ TB) (hm : mOK y cc' nL' (some .int) n) (hv : vOK y) (hown : y.cls = own') (hk : k < 26) (ho : ob k = .inr (ci, fs)) (hc : vwCl[ci]? = some (y.cls, T, N))
    (hs : avs.reverse ++ .inr k :: rest = stk) (hn : avs.length = n) (hnl : avs.length + 1 ≤ nL') (hr : rest.length ≤ 8) (hL0 : gL0 nL' (.inr k :: avs) = L0) (call : Go 12 own' cc' nL' (some .int) 0 L0 [] M (some x) M1)
    (kk : Lo p l e s m b below meth c G ad cI cC (pc + 3) i (x :: rest) M1) : Lo p l e s m b below meth c G ad cI cC pc i stk M := by
  intro H locs ls hP hS hls
  subst hown; subst hs; subst hL0
  obtain ⟨hx, hb, hml, hrt, hlk, hof, hts, hK, hSt, hI, hAd, hX, hbl, hL⟩ := C
  have hM := Go.met hm.1 (by simpa using hnl) call l G ad cI cC hI
  have hG : GoodIn TB (wsV RL idx y.cls y (gW y cc' nL' (some .int))) := fun w hw => by
    refine tb_good w ?_
    simp only [wsV, gW, List.cons_append, List.nil_append, List.mem_cons] at hw
    rcases hw with h | h | h | h | h | h
    · rw [h]; exact hl
    · rw [h]; exact hv.1
    · rw [h]; exact hv.2
    · rw [h]; exact hm.2.2.1
    · rw [h]; exact hm.2.1
    · exact h
  have cw := cwV (R := room_1) (s := s) (args := #[Value.ref b]) (own := RL) (index := idx) (C := y.cls) (y := y) (bytes := cc') (maxL := nL') (ret := some .int) (rm := rmd 12) (mc := 0) (ms := 0) n hts hG rfl rfl rfl ⟨rfl, hm.2.2.2.1⟩ ⟨by show 12 + 1 ≤ 2048; decide, by show 8 + (nL' + 11) + 64 * 12 ≤ 84000; have := hm.2.2.2.2; omega⟩
  have hne : k ≠ 999 := by omega
  have hFr : ∀ q, gA ad q → lA s q := by
    rintro q ⟨j, h1, rfl⟩
    exact hAd j h1
  have hgB : ∀ U : State, U.heap = H → s.WarmedH U.vm → gB G ad cI cC M U := fun U hU hW => ⟨by rw [hU]; exact hP, va_K.moved hW.alike hK, hSt.go hW (by rw [hU]; exact fun a ha _ => hS.2.1 a ha (Nat.not_le.mpr ha))⟩
  have hr1 := va_runV (l := l) (As := avs.map (vv ad)) (rest := rest.map (vv ad)) (b := ad.1 k) (g := F0 m pc ls ((avs.reverse ++ .inr k :: rest).map (vv ad))) (H := H) (locs := locs) (e := e) (below := below) (meth := meth) (cells := 26) (slots := 1292) ⟨hx, hb, hml, hof, hts⟩ hM cw
    ⟨gB_blind, va_recv hK hP hc (wd_obj hk ho), fun U hU hW => ⟨by rw [List.map_cons, vv_ref hne], hgB U hU hW⟩⟩ rfl (by simpa using hn) hls.1
    (by show List.map (vv ad) _ = _; rw [List.map_append, List.map_reverse, List.map_cons, vv_ref hne]) (lv_room (by rw [st_sum hI]; exact hr)) hd ⟨Nat.le_of_ble_eq_true rfl, Nat.le_of_ble_eq_true rfl⟩
  intro Tt hT X
  obtain ⟨v, st₀, t, T', LL, h0, X', hLL, e1, e2, ⟨hv1, hp1, hz, hk1⟩, stp⟩ := hr1 Tt hT X
  cases hv1
  rw [h0] at hz hk1
  obtain ⟨t2, a1, b1⟩ := kk T'.heap (locs ++ LL) ls (by rw [e1]; exact hp1)
    ⟨Nat.le_trans hS.1 (by rw [e1]; exact hz), fun q h1 h2 => by rw [e1, hk1 q (Nat.lt_of_lt_of_le h1 hS.1) (fun z => h2 (hFr q z))]; exact hS.2.1 q h1 h2, fun q hq => by
      rcases List.mem_append.mp hq with h | h
      · exact hS.2.2 q h
      · exact hFr _ (hLL q h)⟩ hls T' rfl X'
  exact ⟨t2, stp t2 a1, b1⟩
theorem Lo_eq (C : lX p s m meth c b L xs G ad cI cC) {off : Int} {v : Int} (hd : decode cL_law pc = .ok (.if_icmp .eq off, 3)) (ht : (pc : Int) + off = ((665 : Nat) : Int)) (k : Lo p l e s m b below meth c G ad cI cC 665 i [] M) : Lo p l e s m b below meth c G ad cI cC pc i [.inl v, .inl v] M := by
  intro H locs ls hP hS hl
  exact lv_icmp_eq (tgt := 665) C.1 C.2.1 hd ht (fun _ => k H locs ls hP hS hl) (fun h => absurd rfl h)
end LAW
