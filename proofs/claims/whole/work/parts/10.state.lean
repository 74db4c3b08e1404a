/-! what a state of the class, and of the reference, IS: the cells, by what they hold -/
/-- the class's own numbers and arrays: clauseCount, thereCount, followedCount, hintCount, draft, draftOrder, clauses, orders, there, hints -/
abbrev XS : Type := Int32 × Int32 × Int32 × Int32 × Int32 × Int64 × (Nat → Int32) × (Nat → Int64) × (Nat → Int32) × (Nat → Int32)
abbrev XW (ax : Nat → Nat) (yx : Nat → ClassId) (u : XS) : va_W := match u with
  | (cc, tc, fc, hc, dr, dO, fC, fO, fT, fH) => [(ax 0, .inr (0, [.ref (ax 1), .ref (ax 2), .ref (ax 3), .ref (ax 4), .int cc, .int tc, .int fc, .int hc, .int dr, .long dO])), (ax 1, .inl (yx 1, 600, .inl fC)), (ax 2, .inl (yx 2, 600, .inr (.inl fO))), (ax 3, .inl (yx 3, 600, .inl fT)), (ax 4, .inl (yx 4, 40, .inl fH))]
abbrev tysX (yx : Nat → ClassId) : List (ClassId × FieldType) := [(yx 1, .int), (yx 2, .long), (yx 3, .boolean), (yx 4, .int)]
/-- the reference's: code, count, there, followed, strange, size, hintCount, literals, lengths, draft, hints, value, models, low -/
abbrev MS : Type := Int32 × Int32 × Int32 × Int32 × Int32 × Int32 × Int32 × (Nat → Int32) × (Nat → Int32) × (Nat → Int32) × (Nat → Int32) × (Nat → Int32) × (Nat → Int64) × (Nat → Int64)
abbrev MW (am : Nat → Nat) (ym : Nat → ClassId) (u : MS) : va_W := match u with
  | (co, ct, th, fo, sg, sz, hc, fL, fN, fD, fH, fV, fM, fW) => [(am 0, .inr (1, [.int co, .int ct, .int th, .int fo, .int sg, .ref (am 1), .ref (am 2), .int sz, .ref (am 3), .int hc, .ref (am 4), .ref (am 5), .ref (am 6), .ref (am 7)])), (am 1, .inl (ym 1, 9600, .inl fL)), (am 2, .inl (ym 2, 600, .inl fN)), (am 3, .inl (ym 3, 16, .inl fD)), (am 4, .inl (ym 4, 40, .inl fH)), (am 5, .inl (ym 5, 17, .inl fV)), (am 6, .inl (ym 6, 1024, .inr (.inl fM))), (am 7, .inl (ym 7, 7, .inr (.inl fW)))]
abbrev tysM (ym : Nat → ClassId) : List (ClassId × FieldType) := [(ym 1, .int), (ym 2, .int), (ym 3, .int), (ym 4, .int), (ym 5, .int), (ym 6, .long), (ym 7, .long)]
/-- read alone: the cells are there -/
abbrev rdX (dC : Nat → ClassId) (dI : Nat → Nat → Nat) (ax : Nat → Nat) (yx : Nat → ClassId) (u : XS) (U : State) : Prop := va_P (dC, dI) cls2 (XW ax yx u) U.heap ∧ va_K (dC, dI) cls2 (tysX yx) U
abbrev rdM (dC : Nat → ClassId) (dI : Nat → Nat → Nat) (am : Nat → Nat) (ym : Nat → ClassId) (u : MS) (U : State) : Prop := va_P (dC, dI) cls2 (MW am ym u) U.heap ∧ va_K (dC, dI) cls2 (tysM ym) U
/-- before a method that writes -/
abbrev preX (dC : Nat → ClassId) (dI : Nat → Nat → Nat) (ax : Nat → Nat) (yx : Nat → ClassId) (sz : Nat) (u : XS) (U : State) : Prop := U.heap.size = sz ∧ va_P (dC, dI) cls2 (XW ax yx u) U.heap ∧ va_K (dC, dI) cls2 (tysX yx) U ∧ va_D (fun _ => True) (XW ax yx u)
abbrev preM (dC : Nat → ClassId) (dI : Nat → Nat → Nat) (am : Nat → Nat) (ym : Nat → ClassId) (sz : Nat) (u : MS) (U : State) : Prop := U.heap.size = sz ∧ va_P (dC, dI) cls2 (MW am ym u) U.heap ∧ va_K (dC, dI) cls2 (tysM ym) U ∧ va_D (fun _ => True) (MW am ym u)
/-- behind it -/
abbrev atX (dC : Nat → ClassId) (dI : Nat → Nat → Nat) (A : Nat → Prop) (ax : Nat → Nat) (yx : Nat → ClassId) (u : XS) (t : State) : Prop := va_P (dC, dI) cls2 (XW ax yx u) t.heap ∧ va_K (dC, dI) cls2 (tysX yx) t ∧ va_D A (XW ax yx u)
abbrev atM (dC : Nat → ClassId) (dI : Nat → Nat → Nat) (A : Nat → Prop) (am : Nat → Nat) (ym : Nat → ClassId) (u : MS) (t : State) : Prop := va_P (dC, dI) cls2 (MW am ym u) t.heap ∧ va_K (dC, dI) cls2 (tysM ym) t ∧ va_D A (MW am ym u)
/-- calling doesn't touch what these say -/
theorem blind_rdX {dC : Nat → ClassId} {dI : Nat → Nat → Nat} {ax : Nat → Nat} {yx : Nat → ClassId} {u : XS} {av : List Value} : FrameBlind (va_Pc av (rdX dC dI ax yx u)) := fun a U g mk q => by
  obtain ⟨q0, qP, qK⟩ := q
  exact ⟨q0, qP, va_K.moved (u := U) (U := U.calling g mk a) (Vm.Alike.refl U.vm) qK⟩
theorem blind_rdM {dC : Nat → ClassId} {dI : Nat → Nat → Nat} {am : Nat → Nat} {ym : Nat → ClassId} {u : MS} {av : List Value} : FrameBlind (va_Pc av (rdM dC dI am ym u)) := fun a U g mk q => by
  obtain ⟨q0, qP, qK⟩ := q
  exact ⟨q0, qP, va_K.moved (u := U) (U := U.calling g mk a) (Vm.Alike.refl U.vm) qK⟩
theorem blind_preX {dC : Nat → ClassId} {dI : Nat → Nat → Nat} {ax : Nat → Nat} {yx : Nat → ClassId} {sz : Nat} {u : XS} {av : List Value} : FrameBlind (va_Pc av (preX dC dI ax yx sz u)) := fun a U g mk q => by
  obtain ⟨q0, q1, qP, qK, qD⟩ := q
  exact ⟨q0, q1, qP, va_K.moved (u := U) (U := U.calling g mk a) (Vm.Alike.refl U.vm) qK, qD⟩
theorem blind_preM {dC : Nat → ClassId} {dI : Nat → Nat → Nat} {am : Nat → Nat} {ym : Nat → ClassId} {sz : Nat} {u : MS} {av : List Value} : FrameBlind (va_Pc av (preM dC dI am ym sz u)) := fun a U g mk q => by
  obtain ⟨q0, q1, qP, qK, qD⟩ := q
  exact ⟨q0, q1, qP, va_K.moved (u := U) (U := U.calling g mk a) (Vm.Alike.refl U.vm) qK, qD⟩
/-- the shift of a long as the machine has it -/
abbrev pb_lu (x : Int64) (s : Int32) : Int64 := (x.toUInt64 >>> (s.toInt64.toUInt64 &&& Int64.toUInt64 63)).toInt64
/-- the class's words on sets of literals -/
def mk_neg (x : Int32) : Int32 := (x <<< ((16 : Int32) &&& 31)) ||| pb_u x 16
def mk_rest (c f : Int32) : Int32 := c &&& (f ^^^ (-1))
def mk_bit (l : Int32) : Int32 := if 0 < l then (1 : Int32) <<< ((l - 1) &&& 31) else (1 : Int32) <<< ((15 - l) &&& 31)
def mk_told (c f : Int32) : Int32 := if pb_sz (mk_rest c f) = 1 ∧ mk_rest c f &&& mk_neg f = 0 then mk_rest c f else 0
