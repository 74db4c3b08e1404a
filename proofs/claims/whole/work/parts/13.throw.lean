/-! what a throw of the class stands on, and the calls of methods that read alone or throw -/
abbrev IAE : String := "java/lang/IllegalArgumentException"
abbrev ISE : String := "java/lang/IllegalStateException"
abbrev NMS : List String := ["java/lang/RuntimeException", "java/lang/Exception"]
abbrev badI : List Cond := [.castable IAE IAE, .declares ⟨"java/lang/RuntimeException", "<init>", "(Ljava/lang/String;)V"⟩, .declares ⟨"java/lang/Exception", "<init>", "(Ljava/lang/String;)V"⟩, .declares ⟨"java/lang/Throwable", "<init>", "(Ljava/lang/String;)V"⟩]
abbrev badS : List Cond := [.castable ISE ISE, .declares ⟨"java/lang/RuntimeException", "<init>", "(Ljava/lang/String;)V"⟩, .declares ⟨"java/lang/Exception", "<init>", "(Ljava/lang/String;)V"⟩, .declares ⟨"java/lang/Throwable", "<init>", "(Ljava/lang/String;)V"⟩]
/-- the texts -/
abbrev TX : List (Nat × String) := [(26, "not a literal"), (42, "the draft has this variable"), (51, "not a clause's number"), (58, "no room for another hint"), (113, "no clause that is there"), (87, "no place in a clause"), (102, "nothing that is counted")]
def Th (A : Nat → Prop) (U : State) (H : Heap) : Prop :=
  vx_Zq Bundle.tN "UNASSIGNED_STACK" Bundle.steD A U H ∧ vx_Zq Bundle.tN "SUPPRESSED_SENTINEL" Bundle.listD A U H ∧
  va_Nw (.castable IAE IAE) U ∧ va_Nw (.castable ISE ISE) U ∧
  va_Nw (.declares ⟨"java/lang/RuntimeException", "<init>", "(Ljava/lang/String;)V"⟩) U ∧ va_Nw (.declares ⟨"java/lang/Exception", "<init>", "(Ljava/lang/String;)V"⟩) U ∧ va_Nw (.declares ⟨"java/lang/Throwable", "<init>", "(Ljava/lang/String;)V"⟩) U ∧
  (∀ q ∈ TX, ∃ sa, vk_R "ProofBench" q.1 q.2 sa U) ∧ va_Nc ISE IAE U
theorem Th.warm {A : Nat → Prop} {s U : State} {H : Heap} (hW : s.WarmedH U.vm) (h : Th A s H) : Th A U H := by
  obtain ⟨h1, h2, h3, h4, h5, h6, h7, h8, h9⟩ := h
  exact ⟨vx_Zq.moved hW.alike h1, vx_Zq.moved hW.alike h2, va_Nw.warmC hW h3, va_Nw.warmC hW h4, va_Nw.warmD hW h5, va_Nw.warmD hW h6, va_Nw.warmD hW h7, fun q hq => by obtain ⟨sa, h⟩ := h8 q hq; exact ⟨sa, vk_R.warm hW h⟩, va_Nc.moved hW.alike h9⟩
theorem Th.same {A : Nat → Prop} {s U : State} {H : Heap} (hv : U.vm = s.vm) (h : Th A s H) : Th A U H := by
  obtain ⟨h1, h2, h3, h4, h5, h6, h7, h8, h9⟩ := h
  have ha : s.vm.Alike U.vm := by rw [hv]; exact Vm.Alike.refl s.vm
  exact ⟨vx_Zq.moved ha h1, vx_Zq.moved ha h2, va_Nw.same rfl hv.symm h3, va_Nw.same rfl hv.symm h4, va_Nw.same rfl hv.symm h5, va_Nw.same rfl hv.symm h6, va_Nw.same rfl hv.symm h7, fun q hq => by obtain ⟨sa, h⟩ := h8 q hq; exact ⟨sa, vk_R.same hv h⟩, va_Nc.moved ha h9⟩
theorem Th.kept {A : Nat → Prop} {U : State} {H H1 : Heap} (h : Th A U H) (hq : ∀ a : Nat, a < H.size → ¬ A a → H1[a]? = H[a]?) : Th A U H1 := by
  obtain ⟨h1, h2, h3⟩ := h
  exact ⟨vx_Zq.kept h1 hq, vx_Zq.kept h2 hq, h3⟩
theorem Th.narrow {A B : Nat → Prop} {U : State} {H : Heap} (h : Th A U H) (hAB : ∀ q, B q → A q) : Th B U H := by
  obtain ⟨h1, h2, h3⟩ := h
  exact ⟨vx_Zq.narrow h1 hAB, vx_Zq.narrow h2 hAB, h3⟩
/-- the same at a state's own heap: nothing below its end may change -/
abbrev ThU (U : State) : Prop := Th (fun q => U.heap.size ≤ q) U U.heap
theorem ThU.calling {U : State} {g : JFrame} {mk : MethodId} {a : Array Value} (h : ThU U) : ThU (U.calling g mk a) := Th.same (s := U) rfl h
theorem ThU.at {s U : State} {H : Heap} (hU : U.heap = H) (hW : s.WarmedH U.vm) (h : Th (fun q => H.size ≤ q) s H) : ThU U := by
  subst hU
  exact Th.warm hW h
theorem atI_in : ∀ w ∈ (vx_atS RX0 28 IAE NMS).filter goodWord, w ∈ WB := fun w h => WB_of ((by decide +kernel : ∀ w ∈ (vx_atS RX0 28 IAE NMS).filter goodWord, w ∈ lw_tbl) w h) (List.mem_filter.mp h).2
theorem atS_in : ∀ w ∈ (vx_atS RX0 60 ISE NMS).filter goodWord, w ∈ WB := fun w h => WB_of ((by decide +kernel : ∀ w ∈ (vx_atS RX0 60 ISE NMS).filter goodWord, w ∈ lw_tbl) w h) (List.mem_filter.mp h).2
theorem atI_bad : ∀ w ∈ (vx_atS RX0 28 IAE NMS).filter (fun w => !goodWord w), w ∈ badI := by decide +kernel
theorem atS_bad : ∀ w ∈ (vx_atS RX0 60 ISE NMS).filter (fun w => !goodWord w), w ∈ badS := by decide +kernel
theorem hat_I {A : Nat → Prop} {s : State} {H : Heap} {args : Array Value} (hw : ∀ w ∈ WB, w.before args s = true) (h : Th A s H) : ∀ w ∈ vx_atS RX0 28 IAE NMS, w.before args s = true := by
  obtain ⟨h1, h2, h3, h4, h5, h6, h7, h8, h9⟩ := h
  exact vx_hat (L := vx_atS RX0 28 IAE NMS) (B := badI) (fun w hm => hw w (atI_in w hm)) atI_bad (vx_c (va_Nw.use rfl h3) (vx_c (va_Nw.use rfl h5) (vx_c (va_Nw.use rfl h6) (vx_c (va_Nw.use rfl h7) vx_n))))
theorem hat_S {A : Nat → Prop} {s : State} {H : Heap} {args : Array Value} (hw : ∀ w ∈ WB, w.before args s = true) (h : Th A s H) : ∀ w ∈ vx_atS RX0 60 ISE NMS, w.before args s = true := by
  obtain ⟨h1, h2, h3, h4, h5, h6, h7, h8, h9⟩ := h
  exact vx_hat (L := vx_atS RX0 60 ISE NMS) (B := badS) (fun w hm => hw w (atS_in w hm)) atS_bad (vx_c (va_Nw.use rfl h4) (vx_c (va_Nw.use rfl h5) (vx_c (va_Nw.use rfl h6) (vx_c (va_Nw.use rfl h7) vx_n))))
theorem ot_I : ∀ w ∈ Cond.classLink RX0 24 IAE :: Cond.initialized IAE :: vx_atS RX0 28 IAE NMS, vx_ot w = true := by decide +kernel
theorem ot_S : ∀ w ∈ Cond.classLink RX0 56 ISE :: Cond.initialized ISE :: vx_atS RX0 60 ISE NMS, vx_ot w = true := by decide +kernel
theorem fit_I : Bundle.fit IAE = true := by decide +kernel
theorem fit_S : Bundle.fit ISE = true := by decide +kernel
theorem fit_N : ∀ n ∈ NMS, Bundle.fit n = true := by decide +kernel
section THR
variable {p : Program} {l : Launch} {e : Env} {R : Room} {s : State} {m : MethodId} {args : Array Value} {below : List Frame} {meth : Method} {c : Code} {H : Heap} {locs : List Loc} {cells slots : Nat} {Q : State → Prop}
variable {mc ms : Nat} {A0 : Nat → Prop} {H0 : Heap} {a : Array Value} {pc : Nat} {ls : Array Slot} {st0 rest : List Value} {free : Addr → Prop} {Qc : Array Value → State → Outcome → State → Prop}
/-- 'throw new IllegalArgumentException(text)' in a method of the class, where nothing has been written yet -/
theorem thr_I {cc : ByteArray} (is : Nat) (text : String) (hq : (is, text) ∈ TX) (hexec : p.tables.exec = Jvm.exec) (hb : c.code = cc) (hl : l.stackTraces = false) (hown : s.vm.findClass RX0 = some m.cls) (hw : ∀ w ∈ WB, w.before args s = true) (hT : ThU s) (hsize : ls.size = c.maxLocals)
    (d0 : decode cc pc = .ok (.new 24, 3)) (d3 : decode cc (pc + 3) = .ok (.dup, 1)) (d4 : decode cc (pc + 4) = .ok (.ldc is, 2)) (d6 : decode cc (pc + 6) = .ok (.invokespecial 28, 3)) (d9 : decode cc (pc + 9) = .ok (.athrow, 1))
    (hout : ∀ x ∈ c.exceptionTable.toList, False) (hF : 5 < R.frames) (hL : 82 ≤ R.locals) (hC : cells + 1 ≤ R.cells) (hS : slots + 6 ≤ R.slots) (hlocks : meth.locks = false) {XC : String → State → State → Prop} (hx : ∀ t : State, s.heap.size ≤ t.heap.size → (∀ q : Nat, q < s.heap.size → t.heap[q]? = s.heap[q]?) → XC IAE s t) (hc : cells + 1 ≤ mc) (hs : slots + 6 ≤ ms) :
    W p l e R s m args below meth c s.heap [] cells slots (vx_MQ below Qc XC args s mc ms free) (F0 m pc ls []) := by
  obtain ⟨sa, hstr⟩ := hT.2.2.2.2.2.2.2.1 _ hq
  exact vx_throwS (own := RX0) (cls := IAE) (text := text) (names := NMS) (ik := 24) (is := is) (ic := 28) (sa := sa) (A := fun q => s.heap.size ≤ q) hexec hb hl hown fit_I fit_N (hw _ wb_97) (hw _ wb_6) hstr (hat_I hw hT) ot_I hT.1 hT.2.1 va_S.rf hsize d0 d3 d4 d6 d9 (fun x hx => (hout x hx).elim) (by simpa using hF) (by simpa using hL) hC hS hlocks
    (fun t _ h2 h3 => hx t h2 h3) (fun _ h => nomatch h) hc hs
theorem thr_S {cc : ByteArray} (is : Nat) (text : String) (hq : (is, text) ∈ TX) (hexec : p.tables.exec = Jvm.exec) (hb : c.code = cc) (hl : l.stackTraces = false) (hown : s.vm.findClass RX0 = some m.cls) (hw : ∀ w ∈ WB, w.before args s = true) (hT : ThU s) (hsize : ls.size = c.maxLocals)
    (d0 : decode cc pc = .ok (.new 56, 3)) (d3 : decode cc (pc + 3) = .ok (.dup, 1)) (d4 : decode cc (pc + 4) = .ok (.ldc is, 2)) (d6 : decode cc (pc + 6) = .ok (.invokespecial 60, 3)) (d9 : decode cc (pc + 9) = .ok (.athrow, 1))
    (hout : ∀ x ∈ c.exceptionTable.toList, False) (hF : 5 < R.frames) (hL : 82 ≤ R.locals) (hC : cells + 1 ≤ R.cells) (hS : slots + 6 ≤ R.slots) (hlocks : meth.locks = false) {XC : String → State → State → Prop} (hx : ∀ t : State, s.heap.size ≤ t.heap.size → (∀ q : Nat, q < s.heap.size → t.heap[q]? = s.heap[q]?) → XC ISE s t) (hc : cells + 1 ≤ mc) (hs : slots + 6 ≤ ms) :
    W p l e R s m args below meth c s.heap [] cells slots (vx_MQ below Qc XC args s mc ms free) (F0 m pc ls []) := by
  obtain ⟨sa, hstr⟩ := hT.2.2.2.2.2.2.2.1 _ hq
  exact vx_throwS (own := RX0) (cls := ISE) (text := text) (names := NMS) (ik := 56) (is := is) (ic := 60) (sa := sa) (A := fun q => s.heap.size ≤ q) hexec hb hl hown fit_S fit_N (hw _ wb_177) (hw _ wb_8) hstr (hat_S hw hT) ot_S hT.1 hT.2.1 va_S.rf hsize d0 d3 d4 d6 d9 (fun x hx => (hout x hx).elim) (by simpa using hF) (by simpa using hL) hC hS hlocks
    (fun t _ h2 h3 => hx t h2 h3) (fun _ h => nomatch h) hc hs
/-- a call of a method that reads alone, or throws -/
theorem vx_csi {SX : Type} {post : Int32 → Prop} {px : SX → Prop} {BX : String → SX → State → Prop} {AX : Nat → Prop} (hr : vx_Run p l e R s m args below meth c H locs cells slots mc ms (F0 m pc ls st0) rest (vp_Si post a) (vx_X px BX AX) (fun _ => False)) (hS : va_S A0 H0 H locs) (hAX : ∀ q, q < H.size → AX q → A0 q)
    (kx : ∀ (E : String) (ce : Cell) (q9 : Addr) (u : SX) (t : State) (H1 : Heap), t.heap = H1 → s.vm.Alike t.vm → px u → BX E u t → H.size ≤ H1.size → (∀ q : Nat, q < H.size → ¬ AX q → H1[q]? = H[q]?) → va_S A0 H0 H1 locs → H1[q9]? = some ce → ce.vm = .none → s.vm.findClass E = some ce.cls → vx_W p l e R s m args below meth c H1 locs (cells + mc) (slots + ms) Q (F0 m pc ls rest) q9)
    (kk : ∀ r : Int32, post r → W p l e R s m args below meth c H locs (cells + mc) (slots + ms) Q (F0 m (pc + 3) ls (.int r :: rest))) : W p l e R s m args below meth c H locs cells slots Q (F0 m pc ls st0) := by
  intro T hT X
  rcases hr T hT X with ⟨v, st₀, t, T', L, h0, X', hL, e1, e2, ⟨r, hv, hp, hh⟩, st⟩ | ⟨q, st₀, t, T', L, E, ce, h0, X', hL, e1, e2, ⟨u, hp, hb, hF⟩, hce, hcv, hcl, st⟩
  · cases hv
    obtain ⟨t2, a1, b1⟩ := kk r hp T' (by rw [e1, hh, h0]) (Stand.forget X' (fun q h => (hL q h).elim))
    exact ⟨t2, st t2 a1, b1⟩
  · have hn : L = [] := by
      cases L with
      | nil => rfl
      | cons z zs => exact (hL z List.mem_cons_self).elim
    subst hn
    obtain ⟨k1, k2, k3⟩ := vx_keep (free := fun _ => False) h0 e1 hS hAX (fun _ h => h.elim) hL hF
    rw [List.append_nil] at k3 X'
    obtain ⟨t2, a1, b1⟩ := kx E ce q u t T'.heap e1.symm (by rw [← e2]; exact X'.warmed.alike) hp hb k1 k2 k3 (by rw [e1]; exact hce) hcv hcl T' rfl X'
    exact ⟨t2, st.trans a1, b1⟩
theorem vx_csv {SX : Type} {post : Unit → Prop} {px : SX → Prop} {BX : String → SX → State → Prop} {AX : Nat → Prop} (hr : vx_Run p l e R s m args below meth c H locs cells slots mc ms (F0 m pc ls st0) rest (va_Sv post a) (vx_X px BX AX) (fun _ => False)) (hS : va_S A0 H0 H locs) (hAX : ∀ q, q < H.size → AX q → A0 q)
    (kx : ∀ (E : String) (ce : Cell) (q9 : Addr) (u : SX) (t : State) (H1 : Heap), t.heap = H1 → s.vm.Alike t.vm → px u → BX E u t → H.size ≤ H1.size → (∀ q : Nat, q < H.size → ¬ AX q → H1[q]? = H[q]?) → va_S A0 H0 H1 locs → H1[q9]? = some ce → ce.vm = .none → s.vm.findClass E = some ce.cls → vx_W p l e R s m args below meth c H1 locs (cells + mc) (slots + ms) Q (F0 m pc ls rest) q9)
    (kk : post () → W p l e R s m args below meth c H locs (cells + mc) (slots + ms) Q (F0 m (pc + 3) ls rest)) : W p l e R s m args below meth c H locs cells slots Q (F0 m pc ls st0) := by
  intro T hT X
  rcases hr T hT X with ⟨v, st₀, t, T', L, h0, X', hL, e1, e2, ⟨hv, hp, hh⟩, st⟩ | ⟨q, st₀, t, T', L, E, ce, h0, X', hL, e1, e2, ⟨u, hp, hb, hF⟩, hce, hcv, hcl, st⟩
  · cases hv
    obtain ⟨t2, a1, b1⟩ := kk hp T' (by rw [e1, hh, h0]) (Stand.forget X' (fun q h => (hL q h).elim))
    exact ⟨t2, st t2 a1, b1⟩
  · have hn : L = [] := by
      cases L with
      | nil => rfl
      | cons z zs => exact (hL z List.mem_cons_self).elim
    subst hn
    obtain ⟨k1, k2, k3⟩ := vx_keep (free := fun _ => False) h0 e1 hS hAX (fun _ h => h.elim) hL hF
    rw [List.append_nil] at k3 X'
    obtain ⟨t2, a1, b1⟩ := kx E ce q u t T'.heap e1.symm (by rw [← e2]; exact X'.warmed.alike) hp hb k1 k2 k3 (by rw [e1]; exact hce) hcv hcl T' rfl X'
    exact ⟨t2, st.trans a1, b1⟩
end THR
theorem blind_rdXT {dC : Nat → ClassId} {dI : Nat → Nat → Nat} {ax : Nat → Nat} {yx : Nat → ClassId} {u : XS} {av : List Value} {sz : Nat} : FrameBlind (va_Pc av (fun U => U.heap.size = sz ∧ rdX dC dI ax yx u U ∧ ThU U)) := fun a U g mk q => by
  obtain ⟨q0, q1, ⟨qP, qK⟩, qT⟩ := q
  exact ⟨q0, q1, ⟨qP, va_K.moved (u := U) (U := U.calling g mk a) (Vm.Alike.refl U.vm) qK⟩, qT.calling⟩
theorem blind_preXT {dC : Nat → ClassId} {dI : Nat → Nat → Nat} {ax : Nat → Nat} {yx : Nat → ClassId} {sz : Nat} {u : XS} {av : List Value} : FrameBlind (va_Pc av (fun U => preX dC dI ax yx sz u U ∧ ThU U)) := fun a U g mk q => by
  obtain ⟨q0, ⟨q1, qP, qK, qD⟩, qT⟩ := q
  exact ⟨q0, ⟨q1, qP, va_K.moved (u := U) (U := U.calling g mk a) (Vm.Alike.refl U.vm) qK, qD⟩, qT.calling⟩
