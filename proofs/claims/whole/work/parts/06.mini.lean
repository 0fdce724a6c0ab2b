/-! THE LITTLE MACHINE: a picture of the heap by 26 cells of a fixed shape, whole numbers as Int, and one judgement Go: from a place of a method, with these locals, this stack and this memory, the method returns with this value and this memory -/
abbrev MV : Type := Int ⊕ Nat
abbrev gMem : Type := Nat → Int → Int
abbrev gAd : Type := (Nat → Nat) × Value
def iI (z : Int) : Int32 := Int32.ofInt z
abbrev inR (z : Int) : Prop := -2147483648 ≤ z ∧ z < 2147483648
def vv (ad : gAd) (x : MV) : Value := match x with
  | .inl z => .int (iI z)
  | .inr k => if k = 999 then ad.2 else .ref (ad.1 k)
theorem iI_toInt {z : Int} (h : inR z) : (iI z).toInt = z := Int32.toInt_ofInt_of_le (by have := h.1; omega) (by have := h.2; omega)
theorem iI_of (x : Int32) : iI x.toInt = x := Int32.ofInt_toInt x
theorem iI_add (a b : Int) : iI (a + b) = iI a + iI b := Int32.ofInt_add a b
theorem iI_sub (a b : Int) : iI (a - b) = iI a - iI b := Int32.ofInt_sub a b
theorem iI_mul (a b : Int) : iI (a * b) = iI a * iI b := Int32.ofInt_mul a b
theorem iI_neg (a : Int) : iI (-a) = - iI a := Int32.ofInt_neg a
theorem iI_0 : iI 0 = 0 := rfl
theorem iI_eq {a b : Int} (ha : inR a) (hb : inR b) : iI a = iI b ↔ a = b := by
  rw [← Int32.toInt_inj, iI_toInt ha, iI_toInt hb]
theorem iI_lt {a b : Int} (ha : inR a) (hb : inR b) : iI a < iI b ↔ a < b := by
  rw [Int32.lt_iff_toInt_lt, iI_toInt ha, iI_toInt hb]
theorem iI_le {a b : Int} (ha : inR a) (hb : inR b) : iI a ≤ iI b ↔ a ≤ b := by
  rw [Int32.le_iff_toInt_le, iI_toInt ha, iI_toInt hb]
theorem inR_0 : inR 0 := ⟨by decide, by decide⟩
theorem iI_nat {z : Int} (h0 : 0 ≤ z) (h : z < 2147483648) : (iI z).toNatClampNeg = z.toNat := by
  show (iI z).toInt.toNat = _
  rw [iI_toInt ⟨by omega, h⟩]
theorem iI_in {z : Int} {n : Nat} (h0 : 0 ≤ z) (h1 : z < n) (hn : n < 2147483648) : vp_in (iI z) n := by
  rw [vp_in_iff, iI_toInt ⟨by omega, by omega⟩]
  exact ⟨h0, h1⟩
theorem iI_bi {n : Int} (h1 : -128 ≤ n) (h2 : n < 128) : (Int8.ofInt n).toInt32 = iI n := by
  rw [← Int32.toInt_inj, Int8.toInt_toInt32, Int8.toInt_ofInt_of_le (by omega) (by omega), iI_toInt ⟨by omega, by omega⟩]
theorem iI_si {n : Int} (h1 : -32768 ≤ n) (h2 : n < 32768) : (Int16.ofInt n).toInt32 = iI n := by
  rw [← Int32.toInt_inj, Int16.toInt_toInt32, Int16.toInt_ofInt_of_le (by omega) (by omega), iI_toInt ⟨by omega, by omega⟩]
-- the bits
def gand (a b : Int) : Int := (iI a &&& iI b).toInt
def gor (a b : Int) : Int := (iI a ||| iI b).toInt
def gxor (a b : Int) : Int := (iI a ^^^ iI b).toInt
def gshl (a b : Int) : Int := (iI a <<< (iI b &&& 31)).toInt
def gshr (a b : Int) : Int := (iI a >>> (iI b &&& 31)).toInt
theorem inR_toInt (x : Int32) : inR x.toInt := ⟨by have := Int32.le_toInt x; omega, by have := Int32.toInt_lt x; omega⟩
theorem inR_gand (a b : Int) : inR (gand a b) := inR_toInt _
theorem inR_gor (a b : Int) : inR (gor a b) := inR_toInt _
theorem inR_gxor (a b : Int) : inR (gxor a b) := inR_toInt _
theorem inR_gshl (a b : Int) : inR (gshl a b) := inR_toInt _
theorem inR_gshr (a b : Int) : inR (gshr a b) := inR_toInt _
-- memory
def setR (M : gMem) (k : Nat) (r : Int → Int) : gMem := fun q => if q = k then r else M q
def updI (f : Int → Int) (j : Int) (v : Int) : Int → Int := fun q => if q = j then v else f q
theorem setR_s (M : gMem) (k : Nat) (r : Int → Int) : setR M k r k = r := if_pos rfl
theorem setR_n {M : gMem} {k q : Nat} {r : Int → Int} (h : q ≠ k) : setR M k r q = M q := if_neg h
theorem updI_s (f : Int → Int) (j v : Int) : updI f j v j = v := if_pos rfl
theorem updI_n {f : Int → Int} {j v q : Int} (h : q ≠ j) : updI f j v q = f q := if_neg h
/-- the cells: an array (0 ints, 1 chars; its length), or an object (its number among vwCl; its fields: the cell that a reference names, or a whole number) -/
def ob (k : Nat) : (Nat × Nat) ⊕ (Nat × List (Option Nat)) := match k with
  | 0 => .inr (5, [some 1, some 3, some 5, some 7, some 9, some 10])
  | 1 => .inr (1, [some 2])
  | 2 => .inl (0, 79)
  | 3 => .inr (1, [some 4])
  | 4 => .inl (0, 79)
  | 5 => .inr (0, [some 6, none])
  | 6 => .inl (0, 316)
  | 7 => .inr (4, [some 8, none])
  | 8 => .inl (1, 60)
  | 9 => .inr (3, [none, none, none, none])
  | 10 => .inr (2, [some 11, some 12, some 13, some 14, some 15, none, none, none])
  | 11 => .inl (0, 8)
  | 12 => .inl (0, 32)
  | 13 => .inl (0, 32)
  | 14 => .inl (0, 4)
  | 15 => .inl (0, 4)
  | 16 => .inr (6, [some 17, some 18, some 19, some 20, none, some 21, none, none, none, none, none, none, none, some 22, some 23, some 24, some 25])
  | 17 => .inl (0, 79)
  | 18 => .inl (0, 316)
  | 19 => .inl (0, 79)
  | 20 => .inl (0, 79)
  | 21 => .inl (1, 60)
  | 22 => .inl (0, 8)
  | 23 => .inl (0, 8)
  | 24 => .inl (0, 4)
  | 25 => .inl (0, 4)
  | _ => .inl (0, 0)
def fv (ad : gAd) (M : gMem) (k : Nat) (j : Nat) (o : Option Nat) : Value := match o with
  | some r => .ref (ad.1 r)
  | none => .int (iI (M k j))
def en (ad : gAd) (cI cC : ClassId) (M : gMem) (k : Nat) : va_E := match ob k with
  | .inl (t, n) => .inl (if t = 0 then cI else cC, n, .inl (fun j => iI (M k j)))
  | .inr (ci, fs) => .inr (ci, fs.mapIdx (fun j o => fv ad M k j o))
def wd (ad : gAd) (cI cC : ClassId) (M : gMem) : va_W := (List.range 26).map fun k => (ad.1 k, en ad cI cC M k)
theorem wd_get (ad : gAd) (cI cC : ClassId) (M : gMem) {k : Nat} (h : k < 26) : (wd ad cI cC M)[k]? = some (ad.1 k, en ad cI cC M k) := by
  simp [wd, List.getElem?_map, List.getElem?_range h]
theorem wd_out (ad : gAd) (cI cC : ClassId) (M : gMem) {k : Nat} (h : 26 ≤ k) : (wd ad cI cC M)[k]? = none := by
  apply List.getElem?_eq_none
  simp [wd]; omega
theorem en_eq {ad : gAd} {cI cC : ClassId} {M M1 : gMem} {k : Nat} (h : M1 k = M k) : en ad cI cC M1 k = en ad cI cC M k := by
  unfold en fv
  rw [h]
theorem wd_set {ad : gAd} {cI cC : ClassId} {M M1 : gMem} {k : Nat} (hk : k < 26) (h : ∀ q, q ≠ k → M1 q = M q) : (wd ad cI cC M).set k (ad.1 k, en ad cI cC M1 k) = wd ad cI cC M1 := by
  apply List.ext_getElem?
  intro i
  by_cases hi : i < 26
  · by_cases e : i = k
    · subst e
      rw [List.getElem?_set_self (by simpa [wd] using hi), wd_get _ _ _ _ hi]
    · rw [List.getElem?_set_ne (fun q => e q.symm), wd_get _ _ _ _ hi, wd_get _ _ _ _ hi, en_eq (h i e)]
  · rw [wd_out _ _ _ _ (by omega)]
    apply List.getElem?_eq_none
    simp [wd]; omega
def gA (ad : gAd) : Nat → Prop := fun q => ∃ k, k < 26 ∧ q = ad.1 k
def gI (ad : gAd) : Prop := (∀ i j, i < 26 → j < 26 → ad.1 i = ad.1 j → i = j) ∧ (ad.2 = .null ∨ ∃ t, ad.2 = .ref t)
theorem wd_D {ad : gAd} {cI cC : ClassId} {M : gMem} (h : gI ad) : va_D (gA ad) (wd ad cI cC M) := by
  have lt : ∀ {k : Nat} {q : Nat × va_E}, (wd ad cI cC M)[k]? = some q → k < 26 ∧ q.1 = ad.1 k := by
    intro k q hq
    by_cases hk : k < 26
    · rw [wd_get _ _ _ _ hk] at hq
      exact ⟨hk, by rw [← Option.some.inj hq]⟩
    · rw [wd_out _ _ _ _ (by omega)] at hq
      cases hq
  refine ⟨fun i j p q hp hq e => ?_, fun k q hq => ⟨k, (lt hq).1, (lt hq).2⟩⟩
  have a := lt hp
  have b := lt hq
  exact h.1 i j a.1 b.1 (by rw [← a.2, ← b.2, e])
-- the text constants: pull drop untie tell pass and the empty one, the cells 100 to 105, their bytes 200 to 205
def sLen : List Nat := [4, 4, 5, 4, 4, 0]
def sByt : List (List Int32) := [[112, 117, 108, 108], [100, 114, 111, 112], [117, 110, 116, 105, 101], [116, 101, 108, 108], [112, 97, 115, 115], []]
def sIdx (i : Nat) : Nat := 56 + 2 * i
def sTxt (i : Nat) : String := match i with
  | 0 => "pull"
  | 1 => "drop"
  | 2 => "untie"
  | 3 => "tell"
  | 4 => "pass"
  | _ => ""
def gSt (ad : gAd) (s : State) (H : Heap) : Prop :=
  vk_S 6 sLen sByt (fun i => ad.1 (100 + i)) (fun i => ad.1 (200 + i)) (gA ad) s H ∧ va_Z "java/lang/String" "COMPACT_STRINGS" "Z" (.int 1) (gA ad) s H ∧
  va_Z "jdk/internal/util/Preconditions" "SIOOBE_FORMATTER" "Ljava/util/function/BiFunction;" ad.2 (gA ad) s H ∧ (∀ i : Nat, i < 6 → vk_R RX3 (sIdx i) (sTxt i) (ad.1 (100 + i)) s) ∧
  va_Nw (.methodLinkNest RX6 25 yX7_bitOf "StringShades") s ∧ va_Nw (.methodLinkNest RX1 36 yX7_bitOf "StringShades") s ∧ va_Nw (.methodLinkNest RX3 106 yX7_isError "StringShades") s
theorem gSt.go {ad : gAd} {s U : State} {H H1 : Heap} (h : gSt ad s H) (hW : s.WarmedH U.vm) (hq : ∀ a : Nat, a < H.size → ¬ gA ad a → H1[a]? = H[a]?) : gSt ad U H1 :=
  ⟨(h.1.kept hq).moved hW.alike, (h.2.1.kept hq).moved hW.alike, (h.2.2.1.kept hq).moved hW.alike, fun i hi => vk_R.warm hW (h.2.2.2.1 i hi), va_Nw.warmM hW h.2.2.2.2.1, va_Nw.warmM hW h.2.2.2.2.2.1, va_Nw.warmM hW h.2.2.2.2.2.2⟩
theorem gSt.same {ad : gAd} {u U : State} {H : Heap} (h : gSt ad u H) (hv : U.vm = u.vm) : gSt ad U H := by
  have ha : u.vm.Alike U.vm := by rw [hv]; exact Vm.Alike.refl u.vm
  exact ⟨h.1.moved ha, h.2.1.moved ha, h.2.2.1.moved ha, fun i hi => vk_R.same hv (h.2.2.2.1 i hi), va_Nw.same rfl hv.symm h.2.2.2.2.1, va_Nw.same rfl hv.symm h.2.2.2.2.2.1, va_Nw.same rfl hv.symm h.2.2.2.2.2.2⟩
-- locals
def gP (ad : gAd) (L : List (Option MV)) : List (Nat × Value) := (List.range L.length).filterMap fun i => (L[i]?.join).map fun x => (i, vv ad x)
theorem gP_in {ad : gAd} {L : List (Option MV)} {i : Nat} {x : MV} (h : L[i]? = some (some x)) : (i, vv ad x) ∈ gP ad L := by
  have hl : i < L.length := (List.getElem?_eq_some_iff.mp h).1
  exact List.mem_filterMap.mpr ⟨i, List.mem_range.mpr hl, by rw [h]; rfl⟩
theorem gP_of {ad : gAd} {L : List (Option MV)} {q : Nat × Value} (h : q ∈ gP ad L) : ∃ x, L[q.1]? = some (some x) ∧ q.2 = vv ad x := by
  obtain ⟨i, -, hi⟩ := List.mem_filterMap.mp h
  cases hL : L[i]? with
  | none => rw [hL] at hi; cases hi
  | some o =>
    rw [hL] at hi
    cases o with
    | none => cases hi
    | some x =>
      have e := Option.some.inj hi
      subst e
      exact ⟨x, hL, rfl⟩
def gL (ad : gAd) (ls : Array Slot) (nL : Nat) (L : List (Option MV)) : Prop := lv_has ls nL (gP ad L)
theorem gL_at {ad : gAd} {ls : Array Slot} {nL : Nat} {L : List (Option MV)} (h : gL ad ls nL L) {i : Nat} {x : MV} (hi : L[i]? = some (some x)) : ls[i]? = some (.val (vv ad x)) := h.2.2 _ (gP_in hi)
theorem vv_cat {ad : gAd} (hI : gI ad) (x : MV) : (vv ad x).category = 1 := by
  cases x with
  | inl z => rfl
  | inr k =>
    show (if k = 999 then ad.2 else Value.ref (ad.1 k)).category = 1
    by_cases hk : k = 999
    · rw [if_pos hk]
      rcases hI.2 with h | ⟨t, h⟩ <;> rw [h] <;> rfl
    · rw [if_neg hk]; rfl
theorem gL_set {ad : gAd} (hI : gI ad) {ls : Array Slot} {nL : Nat} {L : List (Option MV)} {i : Nat} {x : MV} (h : lv_has ls nL ((i, vv ad x) :: (gP ad L).filter (fun q => !(q.1 == i) && !(q.1 + 1 == i && q.2.category == 2)))) : gL ad ls nL (L.set i (some x)) := by
  refine ⟨h.1, h.2.1, fun q hq => ?_⟩
  obtain ⟨y, h1, h2⟩ := gP_of hq
  by_cases e : q.1 = i
  · subst e
    have hl : q.1 < (L.set q.1 (some x)).length := (List.getElem?_eq_some_iff.mp h1).1
    rw [List.getElem?_set_self (by simpa using hl)] at h1
    have e2 := Option.some.inj (Option.some.inj h1)
    rw [h2, ← e2]
    exact h.2.2 (q.1, vv ad x) List.mem_cons_self
  · rw [List.getElem?_set_ne (fun z => e z.symm)] at h1
    have hm : (q.1, vv ad y) ∈ gP ad L := gP_in h1
    rw [h2]
    refine h.2.2 (q.1, vv ad y) (List.mem_cons_of_mem _ (List.mem_filter.mpr ⟨hm, ?_⟩))
    have hc := vv_cat hI y
    simp [e, hc]
-- the judgement
def rmd (d : Nat) : Room := { frames := d, cells := 0, slots := 0, locals := 64 * d }
def gCx (own : String) (cc : ByteArray) (nL : Nat) (ret : Option FieldType) (p : Program) (s : State) (m : MethodId) (meth : Method) (c : Code) (args : Array Value) (G : va_G) (ad : gAd) (cI cC : ClassId) : Prop :=
  p.tables.exec = Jvm.exec ∧ c.code = cc ∧ c.maxLocals = nL ∧ meth.sig.returnType = ret ∧ meth.locks = false ∧ s.vm.findClass own = some m.cls ∧ (∀ w ∈ TB, w.before args s = true) ∧ va_K G vwCl [(cI, .int), (cC, .char)] s ∧ gSt ad s s.heap ∧ gI ad
def gQ (G : va_G) (ad : gAd) (cI cC : ClassId) (v : Option MV) (M' : gMem) : Array Value → State → Outcome → State → Prop := fun _ st o t =>
  o = .returned (v.map (vv ad)) ∧ va_P G vwCl (wd ad cI cC M') t.heap ∧ va_F (gA ad) st t
def Go (d : Nat) (own : String) (cc : ByteArray) (nL : Nat) (ret : Option FieldType) (pc : Nat) (L : List (Option MV)) (st : List MV) (M : gMem) (v : Option MV) (M' : gMem) : Prop :=
  ∀ (p : Program) (l : Launch) (e : Env) (s : State) (m : MethodId) (args : Array Value) (below : List Frame) (meth : Method) (c : Code) (G : va_G) (ad : gAd) (cI cC : ClassId) (H : Heap) (locs : List Loc) (ls : Array Slot),
    gCx own cc nL ret p s m meth c args G ad cI cC → va_P G vwCl (wd ad cI cC M) H → va_S (gA ad) s.heap H locs → gL ad ls nL L →
    W p l e (rmd d) s m args below meth c H locs 0 0 (MQ below (gQ G ad cI cC v M') args s 0 0 (gA ad)) (F0 m pc ls (st.map (vv ad)))
section GO
variable {d : Nat} {own : String} {cc : ByteArray} {nL : Nat} {ret : Option FieldType} {pc : Nat} {L : List (Option MV)} {st : List MV} {M M' : gMem} {v : Option MV}
theorem Go_iconst {n : Int} (hd : decode cc pc = .ok (.iconst n, 1)) (k : Go d own cc nL ret (pc + 1) L (.inl n :: st) M v M') : Go d own cc nL ret pc L st M v M' := by
  intro p l e s m args below meth c G ad cI cC H locs ls C hP hS hl
  exact lv_iconst (v := iI n) C.1 C.2.1 hd rfl (k p l e s m args below meth c G ad cI cC H locs ls C hP hS hl)
theorem Go_bipush {n : Int} (hd : decode cc pc = .ok (.bipush n, 2)) (h1 : -128 ≤ n) (h2 : n < 128) (k : Go d own cc nL ret (pc + 2) L (.inl n :: st) M v M') : Go d own cc nL ret pc L st M v M' := by
  intro p l e s m args below meth c G ad cI cC H locs ls C hP hS hl
  exact lv_bipush (v := iI n) C.1 C.2.1 hd (iI_bi h1 h2) (k p l e s m args below meth c G ad cI cC H locs ls C hP hS hl)
theorem Go_sipush {n : Int} (hd : decode cc pc = .ok (.sipush n, 3)) (h1 : -32768 ≤ n) (h2 : n < 32768) (k : Go d own cc nL ret (pc + 3) L (.inl n :: st) M v M') : Go d own cc nL ret pc L st M v M' := by
  intro p l e s m args below meth c G ad cI cC H locs ls C hP hS hl
  exact lv_sipush (v := iI n) C.1 C.2.1 hd (iI_si h1 h2) (k p l e s m args below meth c G ad cI cC H locs ls C hP hS hl)
theorem Go_ldc {index : Nat} {n : Int} {w : Int32} (hw : iI n = w) (hc : Cond.constant own index w ∈ TB) (hd : decode cc pc = .ok (.ldc index, 2)) (k : Go d own cc nL ret (pc + 2) L (.inl n :: st) M v M') : Go d own cc nL ret pc L st M v M' := by
  intro p l e s m args below meth c G ad cI cC H locs ls C hP hS hl
  subst hw
  exact lv_ldc C.1 C.2.1 C.2.2.2.2.2.1 (C.2.2.2.2.2.2.1 _ hc) hd (k p l e s m args below meth c G ad cI cC H locs ls C hP hS hl)
theorem Go_iload_n {i : Fin 4} {j : Nat} {z : Int} (hd : decode cc pc = .ok (.iload_n i, 1)) (hj : (i : Nat) = j) (hi : L[j]? = some (some (.inl z))) (k : Go d own cc nL ret (pc + 1) L (.inl z :: st) M v M') : Go d own cc nL ret pc L st M v M' := by
  intro p l e s m args below meth c G ad cI cC H locs ls C hP hS hl
  exact lv_iload_n C.1 C.2.1 hd hj (gL_at hl hi) (k p l e s m args below meth c G ad cI cC H locs ls C hP hS hl)
theorem Go_iload {j : Nat} {z : Int} (hd : decode cc pc = .ok (.iload j, 2)) (hi : L[j]? = some (some (.inl z))) (k : Go d own cc nL ret (pc + 2) L (.inl z :: st) M v M') : Go d own cc nL ret pc L st M v M' := by
  intro p l e s m args below meth c G ad cI cC H locs ls C hP hS hl
  exact lv_iload C.1 C.2.1 hd (gL_at hl hi) (k p l e s m args below meth c G ad cI cC H locs ls C hP hS hl)
theorem vv_ref {ad : gAd} {r : Nat} (h : r ≠ 999) : vv ad (.inr r) = .ref (ad.1 r) := if_neg h
theorem Go_aload_n {i : Fin 4} {j : Nat} {r : Nat} (hd : decode cc pc = .ok (.aload_n i, 1)) (hj : (i : Nat) = j) (hr : r ≠ 999) (hi : L[j]? = some (some (.inr r))) (k : Go d own cc nL ret (pc + 1) L (.inr r :: st) M v M') : Go d own cc nL ret pc L st M v M' := by
  intro p l e s m args below meth c G ad cI cC H locs ls C hP hS hl
  have hx := gL_at hl hi
  have kk := k p l e s m args below meth c G ad cI cC H locs ls C hP hS hl
  rw [vv_ref hr] at hx
  rw [List.map_cons, vv_ref hr] at kk
  exact lv_aload_n C.1 C.2.1 hd hj hx kk
theorem Go_aload {j : Nat} {r : Nat} (hd : decode cc pc = .ok (.aload j, 2)) (hr : r ≠ 999) (hi : L[j]? = some (some (.inr r))) (k : Go d own cc nL ret (pc + 2) L (.inr r :: st) M v M') : Go d own cc nL ret pc L st M v M' := by
  intro p l e s m args below meth c G ad cI cC H locs ls C hP hS hl
  have hx := gL_at hl hi
  have kk := k p l e s m args below meth c G ad cI cC H locs ls C hP hS hl
  rw [vv_ref hr] at hx
  rw [List.map_cons, vv_ref hr] at kk
  exact lv_aload C.1 C.2.1 hd hx kk
theorem Go_istore_n {i : Fin 4} {j : Nat} {z : Int} {L' : List (Option MV)} (hd : decode cc pc = .ok (.istore_n i, 1)) (hj : (i : Nat) = j) (hn : j < nL) (hL : L.set j (some (.inl z)) = L') (k : Go d own cc nL ret (pc + 1) L' st M v M') : Go d own cc nL ret pc L (.inl z :: st) M v M' := by
  intro p l e s m args below meth c G ad cI cC H locs ls C hP hS hl
  subst hL
  exact lv_istore_n C.1 C.2.1 hd hj hl hn rfl (fun ls' h => k p l e s m args below meth c G ad cI cC H locs ls' C hP hS (gL_set C.2.2.2.2.2.2.2.2.2 (x := .inl z) h))
theorem Go_istore {j : Nat} {z : Int} {L' : List (Option MV)} (hd : decode cc pc = .ok (.istore j, 2)) (hn : j < nL) (hL : L.set j (some (.inl z)) = L') (k : Go d own cc nL ret (pc + 2) L' st M v M') : Go d own cc nL ret pc L (.inl z :: st) M v M' := by
  intro p l e s m args below meth c G ad cI cC H locs ls C hP hS hl
  subst hL
  exact lv_istore C.1 C.2.1 hd hl hn rfl (fun ls' h => k p l e s m args below meth c G ad cI cC H locs ls' C hP hS (gL_set C.2.2.2.2.2.2.2.2.2 (x := .inl z) h))
theorem Go_astore_n {i : Fin 4} {j : Nat} {r : Nat} {L' : List (Option MV)} (hd : decode cc pc = .ok (.astore_n i, 1)) (hj : (i : Nat) = j) (hr : r ≠ 999) (hn : j < nL) (hL : L.set j (some (.inr r)) = L') (k : Go d own cc nL ret (pc + 1) L' st M v M') : Go d own cc nL ret pc L (.inr r :: st) M v M' := by
  intro p l e s m args below meth c G ad cI cC H locs ls C hP hS hl
  subst hL
  rw [List.map_cons, vv_ref hr]
  exact lv_astore_n C.1 C.2.1 hd hj hl hn rfl (fun ls' h => k p l e s m args below meth c G ad cI cC H locs ls' C hP hS (gL_set C.2.2.2.2.2.2.2.2.2 (x := .inr r) (by rw [vv_ref hr]; exact h)))
theorem Go_astore {j : Nat} {r : Nat} {L' : List (Option MV)} (hd : decode cc pc = .ok (.astore j, 2)) (hr : r ≠ 999) (hn : j < nL) (hL : L.set j (some (.inr r)) = L') (k : Go d own cc nL ret (pc + 2) L' st M v M') : Go d own cc nL ret pc L (.inr r :: st) M v M' := by
  intro p l e s m args below meth c G ad cI cC H locs ls C hP hS hl
  subst hL
  rw [List.map_cons, vv_ref hr]
  exact lv_astore C.1 C.2.1 hd hl hn rfl (fun ls' h => k p l e s m args below meth c G ad cI cC H locs ls' C hP hS (gL_set C.2.2.2.2.2.2.2.2.2 (x := .inr r) (by rw [vv_ref hr]; exact h)))
theorem gP_idx {ad : gAd} {L : List (Option MV)} {i : Nat} {x : MV} (h : L[i]? = some (some x)) : ∃ k : Nat, (gP ad L)[k]? = some (i, vv ad x) := List.getElem?_of_mem (gP_in h)
theorem Go_iinc {j : Nat} {n z : Int} {L' : List (Option MV)} (hd : decode cc pc = .ok (.iinc j n, 3)) (hi : L[j]? = some (some (.inl z))) (hn : j < nL) (hL : L.set j (some (.inl (z + n))) = L') (k : Go d own cc nL ret (pc + 3) L' st M v M') : Go d own cc nL ret pc L st M v M' := by
  intro p l e s m args below meth c G ad cI cC H locs ls C hP hS hl
  subst hL
  obtain ⟨q, hq⟩ := gP_idx (ad := ad) hi
  exact lv_iinc (v := iI (z + n)) C.1 C.2.1 hd hl hq (iI_add z n).symm hn rfl (fun ls' h => k p l e s m args below meth c G ad cI cC H locs ls' C hP hS (gL_set C.2.2.2.2.2.2.2.2.2 (x := .inl (z + n)) h))
theorem Go_iadd {a b : Int} (hd : decode cc pc = .ok (.iadd, 1)) (k : Go d own cc nL ret (pc + 1) L (.inl (a + b) :: st) M v M') : Go d own cc nL ret pc L (.inl b :: .inl a :: st) M v M' := by
  intro p l e s m args below meth c G ad cI cC H locs ls C hP hS hl
  have kk := k p l e s m args below meth c G ad cI cC H locs ls C hP hS hl
  rw [List.map_cons, show vv ad (.inl (a + b)) = .int (iI a + iI b) from congrArg Value.int (iI_add a b)] at kk
  exact lv_iadd C.1 C.2.1 hd kk
theorem Go_isub {a b : Int} (hd : decode cc pc = .ok (.isub, 1)) (k : Go d own cc nL ret (pc + 1) L (.inl (a - b) :: st) M v M') : Go d own cc nL ret pc L (.inl b :: .inl a :: st) M v M' := by
  intro p l e s m args below meth c G ad cI cC H locs ls C hP hS hl
  have kk := k p l e s m args below meth c G ad cI cC H locs ls C hP hS hl
  rw [List.map_cons, show vv ad (.inl (a - b)) = .int (iI a - iI b) from congrArg Value.int (iI_sub a b)] at kk
  exact lv_isub C.1 C.2.1 hd kk
theorem Go_imul {a b : Int} (hd : decode cc pc = .ok (.imul, 1)) (k : Go d own cc nL ret (pc + 1) L (.inl (a * b) :: st) M v M') : Go d own cc nL ret pc L (.inl b :: .inl a :: st) M v M' := by
  intro p l e s m args below meth c G ad cI cC H locs ls C hP hS hl
  have kk := k p l e s m args below meth c G ad cI cC H locs ls C hP hS hl
  rw [List.map_cons, show vv ad (.inl (a * b)) = .int (iI a * iI b) from congrArg Value.int (iI_mul a b)] at kk
  exact lv_imul C.1 C.2.1 hd kk
theorem Go_ineg {a : Int} (hd : decode cc pc = .ok (.ineg, 1)) (k : Go d own cc nL ret (pc + 1) L (.inl (-a) :: st) M v M') : Go d own cc nL ret pc L (.inl a :: st) M v M' := by
  intro p l e s m args below meth c G ad cI cC H locs ls C hP hS hl
  have kk := k p l e s m args below meth c G ad cI cC H locs ls C hP hS hl
  rw [List.map_cons, show vv ad (.inl (-a)) = .int (- iI a) from congrArg Value.int (iI_neg a)] at kk
  exact lv_ineg C.1 C.2.1 hd kk
theorem iI_div {a b : Int} (ha : 0 ≤ a) (ha2 : a < 2147483648) (hb : 0 < b) (hb2 : b < 2147483648) : iI (a / b) = iI a / iI b := by
  rw [← Int32.toInt_inj, Int32.toInt_div, iI_toInt ⟨by omega, ha2⟩, iI_toInt ⟨by omega, hb2⟩, Int.tdiv_eq_ediv_of_nonneg ha]
  have h1 : 0 ≤ a / b := Int.ediv_nonneg ha (by omega)
  have h2 : a / b ≤ a := Int.ediv_le_self b ha
  rw [iI_toInt ⟨by omega, by omega⟩]
  exact (Int.bmod_eq_of_le (by omega) (by omega)).symm
theorem Go_idiv {a b : Int} (hd : decode cc pc = .ok (.idiv, 1)) (ha : 0 ≤ a) (ha2 : a < 2147483648) (hb : 0 < b) (hb2 : b < 2147483648) (k : Go d own cc nL ret (pc + 1) L (.inl (a / b) :: st) M v M') : Go d own cc nL ret pc L (.inl b :: .inl a :: st) M v M' := by
  intro p l e s m args below meth c G ad cI cC H locs ls C hP hS hl
  have kk := k p l e s m args below meth c G ad cI cC H locs ls C hP hS hl
  rw [List.map_cons, show vv ad (.inl (a / b)) = .int (iI a / iI b) from congrArg Value.int (iI_div ha ha2 hb hb2)] at kk
  exact lv_idiv C.1 C.2.1 hd (fun h => by have := (iI_eq ⟨by omega, hb2⟩ inR_0).mp h; omega) kk
theorem Go_irem {a b : Int} (hd : decode cc pc = .ok (.irem, 1)) (ha : 0 ≤ a) (ha2 : a < 2147483648) (hb : 0 < b) (hb2 : b < 2147483648) (k : Go d own cc nL ret (pc + 1) L (.inl (a % b) :: st) M v M') : Go d own cc nL ret pc L (.inl b :: .inl a :: st) M v M' := by
  intro p l e s m args below meth c G ad cI cC H locs ls C hP hS hl
  have kk := k p l e s m args below meth c G ad cI cC H locs ls C hP hS hl
  have e1 : iI (a % b) = iI a - iI a / iI b * iI b := by
    rw [← iI_div ha ha2 hb hb2, ← iI_mul, ← iI_sub, Int.emod_def, Int.mul_comm]
  rw [List.map_cons, show vv ad (.inl (a % b)) = .int (iI a - iI a / iI b * iI b) from congrArg Value.int e1] at kk
  exact lv_irem C.1 C.2.1 hd (fun h => by have := (iI_eq ⟨by omega, hb2⟩ inR_0).mp h; omega) kk
theorem Go_iand {a b : Int} (hd : decode cc pc = .ok (.iand, 1)) (k : Go d own cc nL ret (pc + 1) L (.inl (gand a b) :: st) M v M') : Go d own cc nL ret pc L (.inl b :: .inl a :: st) M v M' := by
  intro p l e s m args below meth c G ad cI cC H locs ls C hP hS hl
  have kk := k p l e s m args below meth c G ad cI cC H locs ls C hP hS hl
  rw [List.map_cons, show vv ad (.inl (gand a b)) = .int (iI a &&& iI b) from congrArg Value.int (iI_of _)] at kk
  exact lv_iand C.1 C.2.1 hd kk
theorem Go_ior {a b : Int} (hd : decode cc pc = .ok (.ior, 1)) (k : Go d own cc nL ret (pc + 1) L (.inl (gor a b) :: st) M v M') : Go d own cc nL ret pc L (.inl b :: .inl a :: st) M v M' := by
  intro p l e s m args below meth c G ad cI cC H locs ls C hP hS hl
  have kk := k p l e s m args below meth c G ad cI cC H locs ls C hP hS hl
  rw [List.map_cons, show vv ad (.inl (gor a b)) = .int (iI a ||| iI b) from congrArg Value.int (iI_of _)] at kk
  exact lv_ior C.1 C.2.1 hd kk
theorem Go_ixor {a b : Int} (hd : decode cc pc = .ok (.ixor, 1)) (k : Go d own cc nL ret (pc + 1) L (.inl (gxor a b) :: st) M v M') : Go d own cc nL ret pc L (.inl b :: .inl a :: st) M v M' := by
  intro p l e s m args below meth c G ad cI cC H locs ls C hP hS hl
  have kk := k p l e s m args below meth c G ad cI cC H locs ls C hP hS hl
  rw [List.map_cons, show vv ad (.inl (gxor a b)) = .int (iI a ^^^ iI b) from congrArg Value.int (iI_of _)] at kk
  exact lv_ixor C.1 C.2.1 hd kk
theorem Go_ishl {a b : Int} (hd : decode cc pc = .ok (.ishl, 1)) (k : Go d own cc nL ret (pc + 1) L (.inl (gshl a b) :: st) M v M') : Go d own cc nL ret pc L (.inl b :: .inl a :: st) M v M' := by
  intro p l e s m args below meth c G ad cI cC H locs ls C hP hS hl
  have kk := k p l e s m args below meth c G ad cI cC H locs ls C hP hS hl
  rw [List.map_cons, show vv ad (.inl (gshl a b)) = .int (iI a <<< (iI b &&& 31)) from congrArg Value.int (iI_of _)] at kk
  exact lv_ishl C.1 C.2.1 hd kk
theorem Go_ishr {a b : Int} (hd : decode cc pc = .ok (.ishr, 1)) (k : Go d own cc nL ret (pc + 1) L (.inl (gshr a b) :: st) M v M') : Go d own cc nL ret pc L (.inl b :: .inl a :: st) M v M' := by
  intro p l e s m args below meth c G ad cI cC H locs ls C hP hS hl
  have kk := k p l e s m args below meth c G ad cI cC H locs ls C hP hS hl
  rw [List.map_cons, show vv ad (.inl (gshr a b)) = .int (iI a >>> (iI b &&& 31)) from congrArg Value.int (iI_of _)] at kk
  exact lv_ishr C.1 C.2.1 hd kk
theorem iI_i2c {z : Int} (h0 : 0 ≤ z) (h1 : z < 65536) : ((iI z).toUInt32 % 65536).toInt32 = iI z := by
  have e : iI z = nI z.toNat := by
    rw [← Int32.toInt_inj, iI_toInt ⟨by omega, by omega⟩, nI_toInt (by omega)]
    omega
  rw [e, pk_char, pk_tn (by omega), Nat.mod_eq_of_lt (by omega)]
theorem Go_i2c {z : Int} (hd : decode cc pc = .ok (.i2c, 1)) (h0 : 0 ≤ z) (h1 : z < 65536) (k : Go d own cc nL ret (pc + 1) L (.inl z :: st) M v M') : Go d own cc nL ret pc L (.inl z :: st) M v M' := by
  intro p l e s m args below meth c G ad cI cC H locs ls C hP hS hl
  exact lv_i2c (v := iI z) C.1 C.2.1 hd (iI_i2c h0 h1) (k p l e s m args below meth c G ad cI cC H locs ls C hP hS hl)
theorem Go_dup {x : MV} (hd : decode cc pc = .ok (.dup, 1)) (k : Go d own cc nL ret (pc + 1) L (x :: x :: st) M v M') : Go d own cc nL ret pc L (x :: st) M v M' := by
  intro p l e s m args below meth c G ad cI cC H locs ls C hP hS hl
  exact lv_dup C.1 C.2.1 hd (vv_cat C.2.2.2.2.2.2.2.2.2 x) (k p l e s m args below meth c G ad cI cC H locs ls C hP hS hl)
theorem Go_dup2 {x y : MV} (hd : decode cc pc = .ok (.dup2, 1)) (k : Go d own cc nL ret (pc + 1) L (x :: y :: x :: y :: st) M v M') : Go d own cc nL ret pc L (x :: y :: st) M v M' := by
  intro p l e s m args below meth c G ad cI cC H locs ls C hP hS hl
  exact lv_dup2_11 C.1 C.2.1 hd (vv_cat C.2.2.2.2.2.2.2.2.2 x) (vv_cat C.2.2.2.2.2.2.2.2.2 y) (k p l e s m args below meth c G ad cI cC H locs ls C hP hS hl)
theorem Go_pop {x : MV} (hd : decode cc pc = .ok (.pop, 1)) (k : Go d own cc nL ret (pc + 1) L st M v M') : Go d own cc nL ret pc L (x :: st) M v M' := by
  intro p l e s m args below meth c G ad cI cC H locs ls C hP hS hl
  exact lv_pop C.1 C.2.1 hd (vv_cat C.2.2.2.2.2.2.2.2.2 x) (k p l e s m args below meth c G ad cI cC H locs ls C hP hS hl)
theorem Go_goto {off : Int} {tgt : Nat} (hd : decode cc pc = .ok (.goto off, 3)) (ht : (pc : Int) + off = (tgt : Int)) (k : Go d own cc nL ret tgt L st M v M') : Go d own cc nL ret pc L st M v M' := by
  intro p l e s m args below meth c G ad cI cC H locs ls C hP hS hl
  exact lv_goto C.1 C.2.1 hd ht (k p l e s m args below meth c G ad cI cC H locs ls C hP hS hl)
theorem Go_icmp_eq {a b : Int} {off : Int} {tgt : Nat} (hd : decode cc pc = .ok (.if_icmp .eq off, 3)) (ht : (pc : Int) + off = (tgt : Int)) (ha : inR a) (hb : inR b) (kt : a = b → Go d own cc nL ret tgt L st M v M') (kf : ¬ a = b → Go d own cc nL ret (pc + 3) L st M v M') : Go d own cc nL ret pc L (.inl b :: .inl a :: st) M v M' := by
  intro p l e s m args below meth c G ad cI cC H locs ls C hP hS hl
  exact lv_icmp_eq C.1 C.2.1 hd ht (fun h => kt ((iI_eq ha hb).mp h) p l e s m args below meth c G ad cI cC H locs ls C hP hS hl) (fun h => kf ((not_congr (iI_eq ha hb)).mp h) p l e s m args below meth c G ad cI cC H locs ls C hP hS hl)
theorem Go_if_eq {a : Int} {off : Int} {tgt : Nat} (hd : decode cc pc = .ok (.ifCond .eq off, 3)) (ht : (pc : Int) + off = (tgt : Int)) (ha : inR a) (kt : a = 0 → Go d own cc nL ret tgt L st M v M') (kf : ¬ a = 0 → Go d own cc nL ret (pc + 3) L st M v M') : Go d own cc nL ret pc L (.inl a :: st) M v M' := by
  intro p l e s m args below meth c G ad cI cC H locs ls C hP hS hl
  exact lv_if_eq C.1 C.2.1 hd ht (fun h => kt ((iI_eq ha inR_0).mp h) p l e s m args below meth c G ad cI cC H locs ls C hP hS hl) (fun h => kf ((not_congr (iI_eq ha inR_0)).mp h) p l e s m args below meth c G ad cI cC H locs ls C hP hS hl)
theorem Go_icmp_ne {a b : Int} {off : Int} {tgt : Nat} (hd : decode cc pc = .ok (.if_icmp .ne off, 3)) (ht : (pc : Int) + off = (tgt : Int)) (ha : inR a) (hb : inR b) (kt : ¬ a = b → Go d own cc nL ret tgt L st M v M') (kf : a = b → Go d own cc nL ret (pc + 3) L st M v M') : Go d own cc nL ret pc L (.inl b :: .inl a :: st) M v M' := by
  intro p l e s m args below meth c G ad cI cC H locs ls C hP hS hl
  exact lv_icmp_ne C.1 C.2.1 hd ht (fun h => kt ((not_congr (iI_eq ha hb)).mp h) p l e s m args below meth c G ad cI cC H locs ls C hP hS hl) (fun h => kf ((iI_eq ha hb).mp h) p l e s m args below meth c G ad cI cC H locs ls C hP hS hl)
theorem Go_if_ne {a : Int} {off : Int} {tgt : Nat} (hd : decode cc pc = .ok (.ifCond .ne off, 3)) (ht : (pc : Int) + off = (tgt : Int)) (ha : inR a) (kt : ¬ a = 0 → Go d own cc nL ret tgt L st M v M') (kf : a = 0 → Go d own cc nL ret (pc + 3) L st M v M') : Go d own cc nL ret pc L (.inl a :: st) M v M' := by
  intro p l e s m args below meth c G ad cI cC H locs ls C hP hS hl
  exact lv_if_ne C.1 C.2.1 hd ht (fun h => kt ((not_congr (iI_eq ha inR_0)).mp h) p l e s m args below meth c G ad cI cC H locs ls C hP hS hl) (fun h => kf ((iI_eq ha inR_0).mp h) p l e s m args below meth c G ad cI cC H locs ls C hP hS hl)
theorem Go_icmp_lt {a b : Int} {off : Int} {tgt : Nat} (hd : decode cc pc = .ok (.if_icmp .lt off, 3)) (ht : (pc : Int) + off = (tgt : Int)) (ha : inR a) (hb : inR b) (kt : a < b → Go d own cc nL ret tgt L st M v M') (kf : ¬ a < b → Go d own cc nL ret (pc + 3) L st M v M') : Go d own cc nL ret pc L (.inl b :: .inl a :: st) M v M' := by
  intro p l e s m args below meth c G ad cI cC H locs ls C hP hS hl
  exact lv_icmp_lt C.1 C.2.1 hd ht (fun h => kt ((iI_lt ha hb).mp h) p l e s m args below meth c G ad cI cC H locs ls C hP hS hl) (fun h => kf ((not_congr (iI_lt ha hb)).mp h) p l e s m args below meth c G ad cI cC H locs ls C hP hS hl)
theorem Go_if_lt {a : Int} {off : Int} {tgt : Nat} (hd : decode cc pc = .ok (.ifCond .lt off, 3)) (ht : (pc : Int) + off = (tgt : Int)) (ha : inR a) (kt : a < 0 → Go d own cc nL ret tgt L st M v M') (kf : ¬ a < 0 → Go d own cc nL ret (pc + 3) L st M v M') : Go d own cc nL ret pc L (.inl a :: st) M v M' := by
  intro p l e s m args below meth c G ad cI cC H locs ls C hP hS hl
  exact lv_if_lt C.1 C.2.1 hd ht (fun h => kt ((iI_lt ha inR_0).mp h) p l e s m args below meth c G ad cI cC H locs ls C hP hS hl) (fun h => kf ((not_congr (iI_lt ha inR_0)).mp h) p l e s m args below meth c G ad cI cC H locs ls C hP hS hl)
theorem Go_icmp_ge {a b : Int} {off : Int} {tgt : Nat} (hd : decode cc pc = .ok (.if_icmp .ge off, 3)) (ht : (pc : Int) + off = (tgt : Int)) (ha : inR a) (hb : inR b) (kt : b ≤ a → Go d own cc nL ret tgt L st M v M') (kf : ¬ b ≤ a → Go d own cc nL ret (pc + 3) L st M v M') : Go d own cc nL ret pc L (.inl b :: .inl a :: st) M v M' := by
  intro p l e s m args below meth c G ad cI cC H locs ls C hP hS hl
  exact lv_icmp_ge C.1 C.2.1 hd ht (fun h => kt ((iI_le hb ha).mp h) p l e s m args below meth c G ad cI cC H locs ls C hP hS hl) (fun h => kf ((not_congr (iI_le hb ha)).mp h) p l e s m args below meth c G ad cI cC H locs ls C hP hS hl)
theorem Go_if_ge {a : Int} {off : Int} {tgt : Nat} (hd : decode cc pc = .ok (.ifCond .ge off, 3)) (ht : (pc : Int) + off = (tgt : Int)) (ha : inR a) (kt : 0 ≤ a → Go d own cc nL ret tgt L st M v M') (kf : ¬ 0 ≤ a → Go d own cc nL ret (pc + 3) L st M v M') : Go d own cc nL ret pc L (.inl a :: st) M v M' := by
  intro p l e s m args below meth c G ad cI cC H locs ls C hP hS hl
  exact lv_if_ge C.1 C.2.1 hd ht (fun h => kt ((iI_le inR_0 ha).mp h) p l e s m args below meth c G ad cI cC H locs ls C hP hS hl) (fun h => kf ((not_congr (iI_le inR_0 ha)).mp h) p l e s m args below meth c G ad cI cC H locs ls C hP hS hl)
theorem Go_icmp_gt {a b : Int} {off : Int} {tgt : Nat} (hd : decode cc pc = .ok (.if_icmp .gt off, 3)) (ht : (pc : Int) + off = (tgt : Int)) (ha : inR a) (hb : inR b) (kt : b < a → Go d own cc nL ret tgt L st M v M') (kf : ¬ b < a → Go d own cc nL ret (pc + 3) L st M v M') : Go d own cc nL ret pc L (.inl b :: .inl a :: st) M v M' := by
  intro p l e s m args below meth c G ad cI cC H locs ls C hP hS hl
  exact lv_icmp_gt C.1 C.2.1 hd ht (fun h => kt ((iI_lt hb ha).mp h) p l e s m args below meth c G ad cI cC H locs ls C hP hS hl) (fun h => kf ((not_congr (iI_lt hb ha)).mp h) p l e s m args below meth c G ad cI cC H locs ls C hP hS hl)
theorem Go_if_gt {a : Int} {off : Int} {tgt : Nat} (hd : decode cc pc = .ok (.ifCond .gt off, 3)) (ht : (pc : Int) + off = (tgt : Int)) (ha : inR a) (kt : 0 < a → Go d own cc nL ret tgt L st M v M') (kf : ¬ 0 < a → Go d own cc nL ret (pc + 3) L st M v M') : Go d own cc nL ret pc L (.inl a :: st) M v M' := by
  intro p l e s m args below meth c G ad cI cC H locs ls C hP hS hl
  exact lv_if_gt C.1 C.2.1 hd ht (fun h => kt ((iI_lt inR_0 ha).mp h) p l e s m args below meth c G ad cI cC H locs ls C hP hS hl) (fun h => kf ((not_congr (iI_lt inR_0 ha)).mp h) p l e s m args below meth c G ad cI cC H locs ls C hP hS hl)
theorem Go_icmp_le {a b : Int} {off : Int} {tgt : Nat} (hd : decode cc pc = .ok (.if_icmp .le off, 3)) (ht : (pc : Int) + off = (tgt : Int)) (ha : inR a) (hb : inR b) (kt : a ≤ b → Go d own cc nL ret tgt L st M v M') (kf : ¬ a ≤ b → Go d own cc nL ret (pc + 3) L st M v M') : Go d own cc nL ret pc L (.inl b :: .inl a :: st) M v M' := by
  intro p l e s m args below meth c G ad cI cC H locs ls C hP hS hl
  exact lv_icmp_le C.1 C.2.1 hd ht (fun h => kt ((iI_le ha hb).mp h) p l e s m args below meth c G ad cI cC H locs ls C hP hS hl) (fun h => kf ((not_congr (iI_le ha hb)).mp h) p l e s m args below meth c G ad cI cC H locs ls C hP hS hl)
theorem Go_if_le {a : Int} {off : Int} {tgt : Nat} (hd : decode cc pc = .ok (.ifCond .le off, 3)) (ht : (pc : Int) + off = (tgt : Int)) (ha : inR a) (kt : a ≤ 0 → Go d own cc nL ret tgt L st M v M') (kf : ¬ a ≤ 0 → Go d own cc nL ret (pc + 3) L st M v M') : Go d own cc nL ret pc L (.inl a :: st) M v M' := by
  intro p l e s m args below meth c G ad cI cC H locs ls C hP hS hl
  exact lv_if_le C.1 C.2.1 hd ht (fun h => kt ((iI_le ha inR_0).mp h) p l e s m args below meth c G ad cI cC H locs ls C hP hS hl) (fun h => kf ((not_congr (iI_le ha inR_0)).mp h) p l e s m args below meth c G ad cI cC H locs ls C hP hS hl)
end GO
