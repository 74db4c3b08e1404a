section
-- ===== PART A: goes FIRST, ahead of the names: the tables' words, and 'selects' of the private methods out of them =====
/-- a private method of a class that the tables say can be made, by its rows of tables_1 -/
def lw_okq (q : MethodName × Nat) : Prop := (q.1.cls ≠ "java/lang/invoke/MethodHandle" ∧ q.1.cls ≠ "java/lang/invoke/VarHandle") ∧ Cond.instantiable q.1.cls q.2 ∈ tables_1 ∧ Cond.privateMethod q.1 ∈ tables_1 ∧ Cond.instanceMethod q.1 ∈ tables_1
theorem lw_p0 : lw_okq (⟨"ProofBench", "emptyDraft", "()V"⟩, 10) := ⟨⟨by decide +kernel, by decide +kernel⟩, List.mem_of_getElem? (i := 10) (by decide +kernel), List.mem_of_getElem? (i := 65) (by decide +kernel), List.mem_of_getElem? (i := 66) (by decide +kernel)⟩
theorem lw_p1 : lw_okq (⟨"java/lang/Throwable", "fillInStackTrace", "(I)Ljava/lang/Throwable;"⟩, 6) := ⟨⟨by decide +kernel, by decide +kernel⟩, List.mem_of_getElem? (i := 135) (by decide +kernel), List.mem_of_getElem? (i := 133) (by decide +kernel), List.mem_of_getElem? (i := 134) (by decide +kernel)⟩
theorem lw_p2 : lw_okq (⟨"ProofBench", "refuseIfFull", "()V"⟩, 10) := ⟨⟨by decide +kernel, by decide +kernel⟩, List.mem_of_getElem? (i := 10) (by decide +kernel), List.mem_of_getElem? (i := 201) (by decide +kernel), List.mem_of_getElem? (i := 202) (by decide +kernel)⟩
theorem lw_p3 : lw_okq (⟨"ProofBench", "keepDraft", "()I"⟩, 10) := ⟨⟨by decide +kernel, by decide +kernel⟩, List.mem_of_getElem? (i := 10) (by decide +kernel), List.mem_of_getElem? (i := 206) (by decide +kernel), List.mem_of_getElem? (i := 207) (by decide +kernel)⟩
theorem lw_p4 : lw_okq (⟨"ProofBench", "firstBadHint", "()I"⟩, 10) := ⟨⟨by decide +kernel, by decide +kernel⟩, List.mem_of_getElem? (i := 10) (by decide +kernel), List.mem_of_getElem? (i := 225) (by decide +kernel), List.mem_of_getElem? (i := 226) (by decide +kernel)⟩
theorem lw_p5 : lw_okq (⟨"ProofBench", "isThere", "(I)Z"⟩, 10) := ⟨⟨by decide +kernel, by decide +kernel⟩, List.mem_of_getElem? (i := 10) (by decide +kernel), List.mem_of_getElem? (i := 229) (by decide +kernel), List.mem_of_getElem? (i := 230) (by decide +kernel)⟩
theorem lw_p6 : lw_okq (⟨"ProofBench", "refuseIfNotThere", "(I)V"⟩, 10) := ⟨⟨by decide +kernel, by decide +kernel⟩, List.mem_of_getElem? (i := 10) (by decide +kernel), List.mem_of_getElem? (i := 240) (by decide +kernel), List.mem_of_getElem? (i := 241) (by decide +kernel)⟩
theorem lw_p7 : lw_okq (⟨"ProofBenchModel", "trueIn", "(I)J"⟩, 14) := ⟨⟨by decide +kernel, by decide +kernel⟩, List.mem_of_getElem? (i := 262) (by decide +kernel), List.mem_of_getElem? (i := 332) (by decide +kernel), List.mem_of_getElem? (i := 333) (by decide +kernel)⟩
theorem lw_p8 : lw_okq (⟨"ProofBenchModel", "truths", "(II)J"⟩, 14) := ⟨⟨by decide +kernel, by decide +kernel⟩, List.mem_of_getElem? (i := 262) (by decide +kernel), List.mem_of_getElem? (i := 336) (by decide +kernel), List.mem_of_getElem? (i := 337) (by decide +kernel)⟩
theorem lw_p9 : lw_okq (⟨"ProofBenchModel", "add", "()I"⟩, 14) := ⟨⟨by decide +kernel, by decide +kernel⟩, List.mem_of_getElem? (i := 262) (by decide +kernel), List.mem_of_getElem? (i := 340) (by decide +kernel), List.mem_of_getElem? (i := 341) (by decide +kernel)⟩
theorem lw_p10 : lw_okq (⟨"ProofBenchModel", "follow", "()I"⟩, 14) := ⟨⟨by decide +kernel, by decide +kernel⟩, List.mem_of_getElem? (i := 262) (by decide +kernel), List.mem_of_getElem? (i := 348) (by decide +kernel), List.mem_of_getElem? (i := 349) (by decide +kernel)⟩
theorem lw_p11 : lw_okq (⟨"ProofBenchModel", "setOut", "()V"⟩, 14) := ⟨⟨by decide +kernel, by decide +kernel⟩, List.mem_of_getElem? (i := 262) (by decide +kernel), List.mem_of_getElem? (i := 352) (by decide +kernel), List.mem_of_getElem? (i := 353) (by decide +kernel)⟩
theorem lw_p12 : lw_okq (⟨"ProofBenchModel", "tell", "(I)V"⟩, 14) := ⟨⟨by decide +kernel, by decide +kernel⟩, List.mem_of_getElem? (i := 262) (by decide +kernel), List.mem_of_getElem? (i := 356) (by decide +kernel), List.mem_of_getElem? (i := 357) (by decide +kernel)⟩
theorem lw_p13 : lw_okq (⟨"ProofBenchModel", "says", "(I)I"⟩, 14) := ⟨⟨by decide +kernel, by decide +kernel⟩, List.mem_of_getElem? (i := 262) (by decide +kernel), List.mem_of_getElem? (i := 360) (by decide +kernel), List.mem_of_getElem? (i := 361) (by decide +kernel)⟩
theorem lw_p14 : lw_okq (⟨"ProofBenchModel", "of", "(I)I"⟩, 14) := ⟨⟨by decide +kernel, by decide +kernel⟩, List.mem_of_getElem? (i := 262) (by decide +kernel), List.mem_of_getElem? (i := 364) (by decide +kernel), List.mem_of_getElem? (i := 365) (by decide +kernel)⟩
theorem lw_p15 : lw_okq (⟨"ProofBenchModel", "accept", "()I"⟩, 14) := ⟨⟨by decide +kernel, by decide +kernel⟩, List.mem_of_getElem? (i := 262) (by decide +kernel), List.mem_of_getElem? (i := 368) (by decide +kernel), List.mem_of_getElem? (i := 369) (by decide +kernel)⟩
def lw_privs_1 : List (MethodName × Nat) := [(⟨"ProofBench", "emptyDraft", "()V"⟩, 10), (⟨"java/lang/Throwable", "fillInStackTrace", "(I)Ljava/lang/Throwable;"⟩, 6), (⟨"ProofBench", "refuseIfFull", "()V"⟩, 10), (⟨"ProofBench", "keepDraft", "()I"⟩, 10), (⟨"ProofBench", "firstBadHint", "()I"⟩, 10), (⟨"ProofBench", "isThere", "(I)Z"⟩, 10), (⟨"ProofBench", "refuseIfNotThere", "(I)V"⟩, 10), (⟨"ProofBenchModel", "trueIn", "(I)J"⟩, 14), (⟨"ProofBenchModel", "truths", "(II)J"⟩, 14), (⟨"ProofBenchModel", "add", "()I"⟩, 14), (⟨"ProofBenchModel", "follow", "()I"⟩, 14), (⟨"ProofBenchModel", "setOut", "()V"⟩, 14), (⟨"ProofBenchModel", "tell", "(I)V"⟩, 14), (⟨"ProofBenchModel", "says", "(I)I"⟩, 14), (⟨"ProofBenchModel", "of", "(I)I"⟩, 14), (⟨"ProofBenchModel", "accept", "()I"⟩, 14)]
theorem lw_r1 : ∀ q ∈ lw_privs_1, lw_okq q := List.forall_mem_cons.mpr ⟨lw_p0, List.forall_mem_cons.mpr ⟨lw_p1, List.forall_mem_cons.mpr ⟨lw_p2, List.forall_mem_cons.mpr ⟨lw_p3, List.forall_mem_cons.mpr ⟨lw_p4, List.forall_mem_cons.mpr ⟨lw_p5, List.forall_mem_cons.mpr ⟨lw_p6, List.forall_mem_cons.mpr ⟨lw_p7, List.forall_mem_cons.mpr ⟨lw_p8, List.forall_mem_cons.mpr ⟨lw_p9, List.forall_mem_cons.mpr ⟨lw_p10, List.forall_mem_cons.mpr ⟨lw_p11, List.forall_mem_cons.mpr ⟨lw_p12, List.forall_mem_cons.mpr ⟨lw_p13, List.forall_mem_cons.mpr ⟨lw_p14, List.forall_mem_cons.mpr ⟨lw_p15, fun _ h => absurd h List.not_mem_nil⟩⟩⟩⟩⟩⟩⟩⟩⟩⟩⟩⟩⟩⟩⟩⟩
theorem lw_p16 : lw_okq (⟨"ProofBenchModel", "isThere", "(I)Z"⟩, 14) := ⟨⟨by decide +kernel, by decide +kernel⟩, List.mem_of_getElem? (i := 262) (by decide +kernel), List.mem_of_getElem? (i := 376) (by decide +kernel), List.mem_of_getElem? (i := 377) (by decide +kernel)⟩
def lw_privs_2 : List (MethodName × Nat) := [(⟨"ProofBenchModel", "isThere", "(I)Z"⟩, 14)]
theorem lw_r2 : ∀ q ∈ lw_privs_2, lw_okq q := List.forall_mem_cons.mpr ⟨lw_p16, fun _ h => absurd h List.not_mem_nil⟩
def lw_privs : List (MethodName × Nat) := lw_privs_1 ++ (lw_privs_2)
def lw_tbl : List Cond := k2_sels lw_privs ++ tables_1
theorem lw_privs_ok : ∀ q ∈ lw_privs, lw_okq q := by
  show ∀ q ∈ lw_privs_1 ++ (lw_privs_2), lw_okq q
  exact List.forall_mem_append.mpr ⟨lw_r1, lw_r2⟩
end
section
/-! ===== BEGIN words of one list among another's, by their places ===== -/
theorem goodIn_r {big : List Cond} (ws : List Cond) (ps : List Nat) (hp : ws = ps.filterMap (fun i => big[i]?)) (h : ws.all goodWord = true) : GoodIn big ws := by
  intro w hw
  have h1 := List.all_eq_true.mp h w hw
  rw [hp] at hw
  obtain ⟨i, -, hi⟩ := List.mem_filterMap.mp hw
  have hm : w ∈ big := by first | exact List.mem_of_getElem? hi | exact List.getElem?_mem hi
  exact ⟨hm, good_of_word h1⟩
theorem goodIn_app {big a b : List Cond} (ha : GoodIn big a) (hb : GoodIn big b) : GoodIn big (a ++ b) := fun w h => (List.mem_append.mp h).elim (ha w) (hb w)
theorem goodIn_ca {big a b : List Cond} {c : Cond} (ha : GoodIn big (c :: a)) (hb : GoodIn big b) : GoodIn big (c :: (a ++ b)) := fun w h => (List.mem_cons.mp h).elim (fun e => ha w (List.mem_cons.mpr (Or.inl e))) (fun h => (List.mem_append.mp h).elim (fun h => ha w (List.mem_cons.mpr (Or.inr h))) (hb w))
theorem goodIn_sub {big ws : List Cond} (hm : ∀ w ∈ ws, w ∈ big) (h : ws.all goodWord = true) : GoodIn big ws := fun w hw => ⟨hm w hw, good_of_word (List.all_eq_true.mp h w hw)⟩
/-! ===== END ===== -/

/-! ===== BEGIN exceptions that leave a method, and their catching by the caller (launches without stack traces) ===== -/
section VXA
/-! The laws vx_back, vx_callV, vx_callS, vx_callSW, vx_throw0, vx_throwS follow proofs of the library, with one case more: JvmDerived/Free/Laws.lean (Back.of_free), Shelf42/LK1.lean (callV, callS), Shelf/KitTraced.lean (throwNew0V, throwNewS). -/
/-- where a method has thrown q: the class by its name, the cell, what was written, the world -/
def vx_T (XC : String → State → State → Prop) (st : State) (q : Addr) (t : State) (mc ms : Nat) (free : Addr → Prop) : Prop :=
  ∃ (E : String) (ce : Cell) (L : List Loc), XC E st t ∧ t.heap[q]? = some ce ∧ ce.vm = .none ∧ st.vm.findClass E = some ce.cls ∧ st.WarmedH t.vm ∧ st.sameButNew ({ t with vm := st.vm } : State) L mc ms ∧ ∀ z ∈ L, free z.base
def vx_Q (Qc : Array Value → State → Outcome → State → Prop) (XC : String → State → State → Prop) (mc ms : Nat) (free : Addr → Prop) : Array Value → State → Outcome → State → Prop := fun a st o t =>
  (Qc a st o t ∧ ∃ L, FrameEnd st o t L mc ms ∧ ∀ q ∈ L, free q.base) ∨ ∃ q, o = .threw q ∧ vx_T XC st q t mc ms free
/-- a callee that returns or throws -/
def vx_Met (l : Launch) (y : MethodName) (ws : List Cond) (rm : Room) (Pc : Array Value → State → Prop) (Qc : Array Value → State → Outcome → State → Prop) (XC : String → State → State → Prop) (mc ms : Nat) (free : Addr → Prop) : Prop :=
  MetFree l y (headSpec ws rm) Pc (fun _ _ _ _ _ => True) (vx_Q Qc XC mc ms free)
def vx_Post (XC : String → State → State → Prop) (mc ms : Nat) (free : Addr → Prop) : Pt → Array Value → Addr → Pt → Prop := fun A a q B =>
  ∃ (g : JFrame) (mk : MethodId) (t : State) (L : List Loc) (E : String) (ce : Cell), B.U.heap = t.heap ∧ B.U.vm = t.vm ∧ XC E (A.U.calling g mk a) t ∧ t.heap[q]? = some ce ∧ ce.vm = .none ∧ A.U.vm.findClass E = some ce.cls ∧ B.locs = A.locs ++ L ∧ (∀ z ∈ L, free z.base) ∧ B.cells = A.cells + mc ∧ B.slots = A.slots + ms
def vx_Back (l : Launch) (R : Room) (p : Program) (e : Env) (below : List Frame) (s : State) (sargs : Array Value) (y : MethodName) (len W9 : Nat)
    (Pre : Pt → Array Value → Prop) (Post : Pt → Array Value → Option Value → Pt → Prop) (PostX : Pt → Array Value → Addr → Pt → Prop) : Prop :=
  ∀ (m : MethodId) (meth : Method) (c : Code) (A : Pt) (g : JFrame) (ig : Instr) (mk : MethodId) (a : Array Value),
    Stand p l e R s m sargs below meth c A.U A.locs A.cells A.slots → g.method = m → g.locals.size = c.maxLocals → decode c.code g.pc = .ok (ig, len) →
    2 * g.monitorRoom + (g.stack.map fun v => v.category).sum ≤ W9 → A.U.methodNamed? y = some mk → Pre A a →
    (∃ (v : Option Value) (B : Pt), Stand p l e R s m sargs below meth c B.U B.locs B.cells B.slots ∧ Post A a v B ∧
      Steps p.tables e below (doInvoke e (A.U.setTop g) [] mk a).1 (B.U.setTop { g with pc := g.pc + len, stack := v.toList ++ g.stack })) ∨
    (∃ (q : Addr) (B : Pt), Stand p l e R s m sargs below meth c B.U B.locs B.cells B.slots ∧ PostX A a q B ∧
      Steps p.tables e below (doInvoke e (A.U.setTop g) [] mk a).1 ((B.U.setTop g).pushFrame (.throwing q)))
section Payer
variable {l : Launch} {R : Room} {p : Program} {e : Env} {below : List Frame} {s : State} {sargs : Array Value} {y : MethodName} {len W9 : Nat}
theorem vx_back {ws : List Cond} {rm : Room} {Pc : Array Value → State → Prop} {Qc : Array Value → State → Outcome → State → Prop} {XC : String → State → State → Prop} {mc ms : Nat} {free : Addr → Prop} {bytes : ByteArray} {maxL : Nat} {ret : Option FieldType}
    (hM : vx_Met l y ws rm Pc Qc XC mc ms free) (hblind : FrameBlind Pc) (hrc : rm.cells = mc) (hrs : rm.slots = ms)
    (hframes : rm.frames + 1 ≤ R.frames) (hlocals : W9 + (maxL + 11) + rm.locals ≤ R.locals)
    (hws : ∀ w ∈ ws, ∀ a' U, s.WarmedH U.vm → w.before a' U = true) (hcode : Cond.code y bytes maxL ret ∈ ws) (hinit : ∀ a' U, s.WarmedH U.vm → (Cond.initialized y.cls).before a' U = true) :
    vx_Back l R p e below s sargs y len W9 (PreOf R mc ms Pc) (PostOf Qc mc ms free) (vx_Post XC mc ms free) := by
  intro m meth c A g ig mk a X hg hsize hdg hW hn hp
  have h1 : (headSpec ws rm).pre.before a A.U = true := atoms_intro fun w hw => hws w hw _ _ X.warmed
  have h2 : (Cond.code y bytes maxL ret).before a A.U = true := hws _ hcode _ _ X.warmed
  have h3 : (Cond.initialized y.cls).before a A.U = true := hinit _ _ X.warmed
  have h4 : A.cells + (headSpec ws rm).room.cells ≤ R.cells := by rw [show (headSpec ws rm).room.cells = mc from hrc]; exact hp.1
  have h5 : A.slots + (headSpec ws rm).room.slots ≤ R.slots := by rw [show (headSpec ws rm).room.slots = ms from hrs]; exact hp.2.1
  have hPc : Pc a (A.U.calling g mk a) := hblind _ _ _ _ hp.2.2
  obtain ⟨U, Ls, c0, s0⟩ := A
  dsimp only [Pt.U, Pt.locs, Pt.cells, Pt.slots] at h1 h2 h3 h4 h5 X hn hPc ⊢
  obtain ⟨methY, cY, hmY, hcY, -, hlY, -, -, -, -⟩ := Cond.code_spec hn h2
  obtain ⟨kY, hkY, -⟩ := className_of_methodNamed hn
  have hinitY : kY.init = .initialized := Cond.initialized_spec (findClass_of_methodNamed hn) hkY h3
  have h : At U g.method c below := by rw [hg]; exact X.here
  have hlocals9 : W9 + (maxL + 11) + (headSpec ws rm).room.locals ≤ R.locals := hlocals
  have happ : (headSpec ws rm).appliesLoose y e.platform (U.calling g mk a) = true :=
    Spec.appliesLoose_calling (g := g) h hdg hn hkY hinitY
      (X.room_calling (g := g) (R' := (headSpec ws rm).room) hsize hmY hcY hframes (by rw [hlY]; omega) h4 h5) h1
  obtain ⟨mid, hmid⟩ := h.above
  have hfr : (U.setTop g).frames = (.java g :: mid) ++ below := by rw [State.frames_setTop' g h.top, hmid]; rfl
  obtain ⟨o, s₂, hsteps, -, hend, hq⟩ := Steps.callFree hM p X.admits X.cas X.clock (acts := []) hfr happ hPc trivial
  have hq' : vx_Q Qc XC mc ms free a (U.calling g mk a) o s₂ := hq
  rw [State.frames_setTop' g h.top] at hend
  obtain ⟨g₀, hg0⟩ := Option.isSome_iff_exists.mp h.top
  obtain ⟨r, hr⟩ := State.topJava?_eq_some.mp hg0
  have hr' : (({ U with heap := s₂.heap, slotsUsed := s₂.slotsUsed } : State).setVm s₂.vm).frames = .java g₀ :: r := hr
  rcases hq' with ⟨hqc, L, hfe, hL⟩ | ⟨q, rfl, E, ce, L, hx, hce, hcv, hcl, hW₂, hsm, hL⟩
  · obtain ⟨⟨v, rfl⟩, hW₂, e2, q2, q3, q4, q5, q6⟩ := id hfe
    have e3 : s₂ = ({ (U.calling g mk a).setFrames s₂.frames with heap := s₂.heap, slotsUsed := s₂.slotsUsed } : State).setVm s₂.vm := by
      have : s₂ = ({ s₂ with vm := (U.calling g mk a).vm } : State).setVm s₂.vm := rfl
      rw [e2] at this
      exact this
    obtain ⟨c₂, i₂, len₂, hc₂, hd₂, hf₂⟩ := hend
    have hW' : U.WarmedH s₂.vm := hW₂
    have hcc : c₂ = c := by
      have h1 : s₂.code? g.method = U.code? g.method := by
        rw [State.code?_eq, State.code?_eq, hW'.alike.method?]
      exact Option.some.inj (hc₂.symm.trans (h1.trans h.code))
    subst hcc
    have hlen : len₂ = len := by rw [hdg] at hd₂; cases hd₂; rfl
    subst hlen
    have hs₂ : s₂ = (({ U with heap := s₂.heap, slotsUsed := s₂.slotsUsed } : State).setVm s₂.vm).setTop { g with pc := g.pc + len₂, stack := v.toList ++ g.stack } := by
      refine e3.trans ?_
      rw [hf₂, State.calling_eq h.top, State.setFrames_setFrames, State.setTop_of_frames _ hr', hr]
      rfl
    have hsame : U.sameButNew ({ U with heap := s₂.heap, slotsUsed := s₂.slotsUsed } : State) L mc ms := by
      refine ⟨?_, q2, q3, q4, q5, q6⟩
      obtain ⟨t, ht, -⟩ := State.frames_cons hr
      show ({ U with heap := s₂.heap, slotsUsed := s₂.slotsUsed } : State) = { U.setFrames U.frames with heap := s₂.heap, slotsUsed := s₂.slotsUsed }
      rw [State.setFrames_self ht]
    subst hg
    refine Or.inl ⟨v, ⟨(({ U with heap := s₂.heap, slotsUsed := s₂.slotsUsed } : State).setVm s₂.vm), Ls ++ L, c0 + mc, s0 + ms⟩,
      ⟨X.admits, X.cas, X.clock, X.frames, X.room, X.hears, X.method, X.code, (X.here.setHeapUsed s₂.heap s₂.slotsUsed).setVm hW'.alike, X.tail, State.WarmedH.trans X.warmed hW', X.limits, X.bytes, X.same.trans (hsame.setVm s.vm)⟩,
      ⟨g, mk, s₂, L, rfl, rfl, hqc, rfl, hL, rfl, rfl⟩, ?_⟩
    show Steps p.tables e below _ ((({ U with heap := s₂.heap, slotsUsed := s₂.slotsUsed } : State).setVm s₂.vm).setTop { g with pc := g.pc + len₂, stack := v.toList ++ g.stack })
    rw [← hs₂]
    exact hsteps
  · obtain ⟨e2, q2, q3, q4, q5, q6⟩ := id hsm
    have e3 : s₂ = ({ (U.calling g mk a).setFrames s₂.frames with heap := s₂.heap, slotsUsed := s₂.slotsUsed } : State).setVm s₂.vm := by
      have : s₂ = ({ s₂ with vm := (U.calling g mk a).vm } : State).setVm s₂.vm := rfl
      rw [e2] at this
      exact this
    have hf₂ : s₂.frames = .throwing q :: .java g :: U.frames.tail := hend
    have hW' : U.WarmedH s₂.vm := hW₂
    have hs₂ : s₂ = ((({ U with heap := s₂.heap, slotsUsed := s₂.slotsUsed } : State).setVm s₂.vm).setTop g).pushFrame (.throwing q) := by
      refine e3.trans ?_
      rw [hf₂, State.calling_eq h.top, State.setFrames_setFrames, State.pushFrame, State.frames_setTop _ hr', State.setTop_of_frames _ hr', State.setFrames_setFrames, hr]
      rfl
    have hsame : U.sameButNew ({ U with heap := s₂.heap, slotsUsed := s₂.slotsUsed } : State) L mc ms := by
      refine ⟨?_, q2, q3, q4, q5, q6⟩
      obtain ⟨t, ht, -⟩ := State.frames_cons hr
      show ({ U with heap := s₂.heap, slotsUsed := s₂.slotsUsed } : State) = { U.setFrames U.frames with heap := s₂.heap, slotsUsed := s₂.slotsUsed }
      rw [State.setFrames_self ht]
    subst hg
    refine Or.inr ⟨q, ⟨(({ U with heap := s₂.heap, slotsUsed := s₂.slotsUsed } : State).setVm s₂.vm), Ls ++ L, c0 + mc, s0 + ms⟩,
      ⟨X.admits, X.cas, X.clock, X.frames, X.room, X.hears, X.method, X.code, (X.here.setHeapUsed s₂.heap s₂.slotsUsed).setVm hW'.alike, X.tail, State.WarmedH.trans X.warmed hW', X.limits, X.bytes, X.same.trans (hsame.setVm s.vm)⟩,
      ⟨g, mk, s₂, L, E, ce, rfl, rfl, hx, hce, hcv, hcl, rfl, hL, rfl, rfl⟩, ?_⟩
    show Steps p.tables e below _ (((({ U with heap := s₂.heap, slotsUsed := s₂.slotsUsed } : State).setVm s₂.vm).setTop g).pushFrame (.throwing q))
    rw [← hs₂]
    exact hsteps
end Payer
section Calls
variable {p : Program} {l : Launch} {e : Env} {R : Room} {s : State} {m : MethodId} {args : Array Value} {below : List Frame} {meth : Method} {c : Code} {T : State} {locs : List Loc} {cells slots : Nat}
theorem vx_callV (X : Stand p l e R s m args below meth c T locs cells slots) (hexec : p.tables.exec = Jvm.exec) {own C : String} {index : Nat} {y : MethodName} {bytes : ByteArray} {maxL : Nat} {ret : Option FieldType}
    (hown : s.vm.findClass own = some m.cls) (hlink : (Cond.methodLink own index y).before args s = true) (hinst : (Cond.instanceMethod y).before args s = true) (hsel : (Cond.selects C y y).before args s = true)
    (hcode : (Cond.code y bytes maxL ret).before args s = true) (hy : y.cls ≠ "java/lang/invoke/MethodHandle" ∧ y.cls ≠ "java/lang/invoke/VarHandle")
    {W9 : Nat} {Pre : Pt → Array Value → Prop} {Post : Pt → Array Value → Option Value → Pt → Prop} {PostX : Pt → Array Value → Addr → Pt → Prop} (hK : vx_Back l R p e below s args y 3 W9 Pre Post PostX)
    {b : Addr} {cellB : Cell} (hcell : T.heap[b]? = some cellB) (hobj : cellB.vm.isStatics = false) (hcls : s.vm.findClass C = some cellB.cls)
    {g : JFrame} (hg : g.method = m) (hsize : g.locals.size = c.maxLocals) {argsL rest : List Value} (hlen : ∀ sig, parseMethodDescriptor y.desc = some sig → argsL.length = sig.parameters.length)
    (hstack : g.stack = argsL.reverse ++ .ref b :: rest) (hW : 2 * g.monitorRoom + (rest.map fun v => v.category).sum ≤ W9) (hdg : decode c.code g.pc = .ok (.invokevirtual index, 3))
    (hpre : ∀ vm₁, s.WarmedH vm₁ → Pre ⟨T.setVm vm₁, locs, cells, slots⟩ (Value.ref b :: argsL).toArray) :
    (∃ (v : Option Value) (vm₁ : Vm) (B : Pt), s.WarmedH vm₁ ∧ Stand p l e R s m args below meth c B.U B.locs B.cells B.slots ∧ Post ⟨T.setVm vm₁, locs, cells, slots⟩ (Value.ref b :: argsL).toArray v B ∧
      ∀ target, Steps p.tables e below (B.U.setTop { g with pc := g.pc + 3, stack := v.toList ++ rest }) target → Steps p.tables e below (T.setTop g) target) ∨
    (∃ (q : Addr) (vm₁ : Vm) (B : Pt), s.WarmedH vm₁ ∧ Stand p l e R s m args below meth c B.U B.locs B.cells B.slots ∧ PostX ⟨T.setVm vm₁, locs, cells, slots⟩ (Value.ref b :: argsL).toArray q B ∧
      Steps p.tables e below (T.setTop g) ((B.U.setTop { g with stack := rest }).pushFrame (.throwing q))) := by
  obtain ⟨mk, methM, hnamed, hmethM, hstM, habM⟩ := Cond.instanceMethod_spec hinst
  obtain ⟨methM', cM, hmethM', -, -, -, -, -, -, hsigM⟩ := Cond.code_spec hnamed hcode
  cases hmethM.symm.trans hmethM'
  obtain ⟨c2, r2, m2, q1, q2, q3, q4, kP, hkP, hkPi⟩ := Cond.selects_spec hsel
  cases hcls.symm.trans q1
  cases (State.methodFound?_of_named hnamed hy).symm.trans q2
  cases hnamed.symm.trans q3
  have hselP : selectMethod e.platform s.vm cellB.cls mk = .method mk := by rw [Launch.admits_selectMethod X.admits]; exact q4
  obtain ⟨vm₁, X₁, hstep₁⟩ := X.invokevirtual hexec hown hlink hnamed hmethM hstM hkP hkPi hy (a := b) (cell := cellB) hcell
    (fun z h => by rw [h] at hobj; cases hobj) hselP hmethM habM hkP hkPi (g := g) hg (argsL := argsL) (rest := rest) (hlen _ hsigM) hstack hdg
  rcases hK m meth c ⟨T.setVm vm₁, locs, cells, slots⟩ { g with stack := rest } (.invokevirtual index) mk (Value.ref b :: argsL).toArray X₁ hg hsize hdg hW (X₁.named hnamed) (hpre vm₁ X₁.warmed) with ⟨v, B, X', hpost, hsteps⟩ | ⟨q, B, X', hpost, hsteps⟩
  · exact Or.inl ⟨v, vm₁, B, X₁.warmed, X', hpost, fun target h => hstep₁ _ fun acts => by rw [doInvoke_state]; exact hsteps.trans h⟩
  · exact Or.inr ⟨q, vm₁, B, X₁.warmed, X', hpost, hstep₁ _ fun acts => by rw [doInvoke_state]; exact hsteps⟩
theorem vx_callS (X : Stand p l e R s m args below meth c T locs cells slots) (hexec : p.tables.exec = Jvm.exec) {own : String} {index : Nat} {y : MethodName} {bytes : ByteArray} {maxL : Nat} {ret : Option FieldType}
    (hown : s.vm.findClass own = some m.cls) (hlink : (Cond.methodLink own index y).before args s = true) (hstat : (Cond.static y).before args s = true) (hinit : (Cond.initialized y.cls).before args s = true)
    (hcode : (Cond.code y bytes maxL ret).before args s = true) (hy : y.cls ≠ "java/lang/invoke/MethodHandle" ∧ y.cls ≠ "java/lang/invoke/VarHandle")
    {W9 : Nat} {Pre : Pt → Array Value → Prop} {Post : Pt → Array Value → Option Value → Pt → Prop} {PostX : Pt → Array Value → Addr → Pt → Prop} (hK : vx_Back l R p e below s args y 3 W9 Pre Post PostX)
    {g : JFrame} (hg : g.method = m) (hsize : g.locals.size = c.maxLocals) {argsL rest : List Value} (hlen : ∀ sig, parseMethodDescriptor y.desc = some sig → argsL.length = sig.parameters.length)
    (hstack : g.stack = argsL.reverse ++ rest) (hW : 2 * g.monitorRoom + (rest.map fun v => v.category).sum ≤ W9) (hdg : decode c.code g.pc = .ok (.invokestatic index, 3))
    (hpre : ∀ vm₁, s.WarmedH vm₁ → Pre ⟨T.setVm vm₁, locs, cells, slots⟩ argsL.toArray) :
    (∃ (v : Option Value) (vm₁ : Vm) (B : Pt), s.WarmedH vm₁ ∧ Stand p l e R s m args below meth c B.U B.locs B.cells B.slots ∧ Post ⟨T.setVm vm₁, locs, cells, slots⟩ argsL.toArray v B ∧
      ∀ target, Steps p.tables e below (B.U.setTop { g with pc := g.pc + 3, stack := v.toList ++ rest }) target → Steps p.tables e below (T.setTop g) target) ∨
    (∃ (q : Addr) (vm₁ : Vm) (B : Pt), s.WarmedH vm₁ ∧ Stand p l e R s m args below meth c B.U B.locs B.cells B.slots ∧ PostX ⟨T.setVm vm₁, locs, cells, slots⟩ argsL.toArray q B ∧
      Steps p.tables e below (T.setTop g) ((B.U.setTop { g with stack := rest }).pushFrame (.throwing q))) := by
  obtain ⟨mk, hnamed⟩ := Cond.code_named hcode
  obtain ⟨methM, cM, hmethM, -, -, -, -, -, -, hsigM⟩ := Cond.code_spec hnamed hcode
  have hstatic : methM.isStatic = true := Cond.static_spec hnamed hmethM hstat
  obtain ⟨kP, hkP, -⟩ := className_of_methodNamed hnamed
  have hinitP : kP.init = .initialized := Cond.initialized_spec (findClass_of_methodNamed hnamed) hkP hinit
  obtain ⟨vm₁, X₁, hstep₁⟩ := X.invokestatic hexec hown hlink hnamed hmethM hstatic hkP hinitP hy (g := g) hg (argsL := argsL) (rest := rest) (hlen _ hsigM) hstack hdg
  rcases hK m meth c ⟨T.setVm vm₁, locs, cells, slots⟩ { g with stack := rest } (.invokestatic index) mk argsL.toArray X₁ hg hsize hdg hW (X₁.named hnamed) (hpre vm₁ X₁.warmed) with ⟨v, B, X', hpost, hsteps⟩ | ⟨q, B, X', hpost, hsteps⟩
  · exact Or.inl ⟨v, vm₁, B, X₁.warmed, X', hpost, fun target h => hstep₁ _ fun acts => by rw [doInvoke_state]; exact hsteps.trans h⟩
  · exact Or.inr ⟨q, vm₁, B, X₁.warmed, X', hpost, hstep₁ _ fun acts => by rw [doInvoke_state]; exact hsteps⟩
end Calls
theorem vx_cls {s : State} {T : State} {vm₁ : Vm} {E : String} {k : ClassId} (hW : s.WarmedH vm₁) (h : (T.setVm vm₁).vm.findClass E = some k) : s.vm.findClass E = some k := by
  have h1 : vm₁.findClass E = some k := h
  rw [hW.alike.findClass] at h1
  exact h1
/-- the method's frame g, with q thrown over it -/
def vx_W (p : Program) (l : Launch) (e : Env) (R : Room) (s : State) (m : MethodId) (args : Array Value) (below : List Frame) (meth : Method) (c : Code) (H : Heap) (locs : List Loc) (cells slots : Nat) (Q : State → Prop) (g : JFrame) (q : Addr) : Prop :=
  ∀ T : State, T.heap = H → Stand p l e R s m args below meth c T locs cells slots → ∃ t, Steps p.tables e below ((T.setTop g).pushFrame (.throwing q)) t ∧ Q t
def vx_Run (p : Program) (l : Launch) (e : Env) (R : Room) (s : State) (m : MethodId) (args : Array Value) (below : List Frame) (meth : Method) (c : Code) (H : Heap) (locs : List Loc) (cells slots mc ms : Nat) (g : JFrame) (rest : List Value) (Qa : State → Outcome → State → Prop) (XC : String → State → State → Prop) (free : Addr → Prop) : Prop :=
  ∀ T : State, T.heap = H → Stand p l e R s m args below meth c T locs cells slots →
    (∃ (v : Option Value) (st₀ t T' : State) (L : List Loc), st₀.heap = H ∧ Stand p l e R s m args below meth c T' (locs ++ L) (cells + mc) (slots + ms) ∧ (∀ q ∈ L, free q.base) ∧ T'.heap = t.heap ∧ T'.vm = t.vm ∧ Qa st₀ (.returned v) t ∧
      Goes p e below T g T' { g with pc := g.pc + 3, stack := v.toList ++ rest }) ∨
    (∃ (q : Addr) (st₀ t T' : State) (L : List Loc) (E : String) (ce : Cell), st₀.heap = H ∧ Stand p l e R s m args below meth c T' (locs ++ L) (cells + mc) (slots + ms) ∧ (∀ z ∈ L, free z.base) ∧ T'.heap = t.heap ∧ T'.vm = t.vm ∧ XC E st₀ t ∧ t.heap[q]? = some ce ∧ ce.vm = .none ∧ s.vm.findClass E = some ce.cls ∧
      Steps p.tables e below (T.setTop g) ((T'.setTop { g with stack := rest }).pushFrame (.throwing q)))
def vx_X {S : Type} (px : S → Prop) (B : String → S → State → Prop) (A : Nat → Prop) : String → State → State → Prop := fun E st t => ∃ u : S, px u ∧ B E u t ∧ va_F A st t
section Runs
variable {p : Program} {l : Launch} {e : Env} {R : Room} {s : State} {m : MethodId} {args : Array Value} {below : List Frame} {meth : Method} {c : Code} {H : Heap} {locs : List Loc} {cells slots : Nat}
variable {y : MethodName} {bytes cc : ByteArray} {maxL nL mc ms n index : Nat} {ret : Option FieldType} {ws : List Cond} {rm : Room} {Pc : Array Value → State → Prop} {Qc : Array Value → State → Outcome → State → Prop} {XC : String → State → State → Prop} {free : Addr → Prop} {Ts : List Cond} {own C : String} {b : Addr} {As rest : List Value} {g : JFrame}
theorem vx_callBack (cb : CallB R s args own index y bytes maxL ret ws rm mc ms n) (hM : vx_Met l y ws rm Pc Qc XC mc ms free) (hbl : FrameBlind Pc) : vx_Back l R p e below s args y 3 8 (PreOf R mc ms Pc) (PostOf Qc mc ms free) (vx_Post XC mc ms free) := by
  obtain ⟨hrc, hrs, hfr, hlo, hws, hcw, -, hini, -⟩ := cb
  exact vx_back (bytes := bytes) (maxL := maxL) (ret := ret) hM hbl hrc hrs hfr hlo hws hcw (fun a' U hW => word_at hW (Or.inl (by first | rfl | simp [Cond.onTables, Cond.keeps, Cond.steady])) hini)
theorem vx_runV (S : CallFix p m c cc nL s args Ts own) (hM : vx_Met l y ws rm Pc Qc XC mc ms free) (cw : CallW R s args own C index y bytes maxL ret ws rm mc ms n) (hp : PreV s H C b Pc As)
    (hg : g.method = m) (hn : As.length = n) (hsize : g.locals.size = nL) (hstack : g.stack = As.reverse ++ .ref b :: rest) (hW : 2 * g.monitorRoom + (rest.map fun v => v.category).sum ≤ 8) (hdg : decode cc g.pc = .ok (.invokevirtual index, 3)) (hf : cells + mc ≤ R.cells ∧ slots + ms ≤ R.slots) :
    vx_Run p l e R s m args below meth c H locs cells slots mc ms g rest (Qc (Value.ref b :: As).toArray) XC free := by
  have hK : vx_Back l R p e below s args y 3 8 (PreOf R mc ms Pc) (PostOf Qc mc ms free) (vx_Post XC mc ms free) := vx_callBack cw.1 hM hp.1
  obtain ⟨⟨-, -, -, -, -, -, hcode, -, hy, hlen, hl⟩, hin, hse⟩ := cw
  obtain ⟨hx, hb, hml, ho, -⟩ := S
  obtain ⟨-, ⟨cellB, hcB, hoB, hclB⟩, hPc⟩ := hp
  intro T hT X
  rcases vx_callV X hx (C := C) (bytes := bytes) (maxL := maxL) (ret := ret) ho hl hin hse hcode hy hK (by rw [hT]; exact hcB) hoB hclB hg (hsize.trans hml.symm) (argsL := As) (rest := rest) (fun sig h => hn.trans (hlen sig h)) hstack hW (by rw [hb]; exact hdg)
    (fun vm₁ hW₁ => ⟨hf.1, hf.2, hPc (T.setVm vm₁) hT hW₁⟩) with ⟨v, vm₁, ⟨U', l2, c2, s2⟩, hW₁, X', ⟨g', mk, t, L, e1, e2, hq, h1, hL, h2, h3⟩, st⟩ | ⟨q, vm₁, ⟨U', l2, c2, s2⟩, hW₁, X', ⟨g', mk, t, L, E, ce, e1, e2, hq, hce, hcv, hcl, h1, hL, h2, h3⟩, st⟩
  · dsimp only [Pt.U, Pt.locs, Pt.cells, Pt.slots] at X' e1 e2 h1 h2 h3 st
    subst h1; subst h2; subst h3
    exact Or.inl ⟨v, (T.setVm vm₁).calling g' mk (Value.ref b :: As).toArray, t, U', L, hT, X', hL, e1, e2, hq, st⟩
  · dsimp only [Pt.U, Pt.locs, Pt.cells, Pt.slots] at X' e1 e2 h1 h2 h3 st hcl
    subst h1; subst h2; subst h3
    exact Or.inr ⟨q, (T.setVm vm₁).calling g' mk (Value.ref b :: As).toArray, t, U', L, E, ce, hT, X', hL, e1, e2, hq, hce, hcv, vx_cls hW₁ hcl, st⟩
theorem vx_runS (S : CallFix p m c cc nL s args Ts own) (hM : vx_Met l y ws rm Pc Qc XC mc ms free) (cw : CallB R s args own index y bytes maxL ret ws rm mc ms n ∧ (Cond.static y).before args s = true) (hp : PreS s H Pc As)
    (hg : g.method = m) (hn : As.length = n) (hsize : g.locals.size = nL) (hstack : g.stack = As.reverse ++ rest) (hW : 2 * g.monitorRoom + (rest.map fun v => v.category).sum ≤ 8) (hdg : decode cc g.pc = .ok (.invokestatic index, 3)) (hf : cells + mc ≤ R.cells ∧ slots + ms ≤ R.slots) :
    vx_Run p l e R s m args below meth c H locs cells slots mc ms g rest (Qc As.toArray) XC free := by
  have hK : vx_Back l R p e below s args y 3 8 (PreOf R mc ms Pc) (PostOf Qc mc ms free) (vx_Post XC mc ms free) := vx_callBack cw.1 hM hp.1
  obtain ⟨⟨-, -, -, -, -, -, hcode, hini, hy, hlen, hl⟩, hstt⟩ := cw
  obtain ⟨hx, hb, hml, ho, -⟩ := S
  intro T hT X
  rcases vx_callS X hx (bytes := bytes) (maxL := maxL) (ret := ret) ho hl hstt hini hcode hy hK hg (hsize.trans hml.symm) (argsL := As) (rest := rest) (fun sig h => hn.trans (hlen sig h)) hstack hW (by rw [hb]; exact hdg)
    (fun vm₁ hW₁ => ⟨hf.1, hf.2, hp.2 (T.setVm vm₁) hT hW₁⟩) with ⟨v, vm₁, ⟨U', l2, c2, s2⟩, hW₁, X', ⟨g', mk, t, L, e1, e2, hq, h1, hL, h2, h3⟩, st⟩ | ⟨q, vm₁, ⟨U', l2, c2, s2⟩, hW₁, X', ⟨g', mk, t, L, E, ce, e1, e2, hq, hce, hcv, hcl, h1, hL, h2, h3⟩, st⟩
  · dsimp only [Pt.U, Pt.locs, Pt.cells, Pt.slots] at X' e1 e2 h1 h2 h3 st
    subst h1; subst h2; subst h3
    exact Or.inl ⟨v, (T.setVm vm₁).calling g' mk As.toArray, t, U', L, hT, X', hL, e1, e2, hq, st⟩
  · dsimp only [Pt.U, Pt.locs, Pt.cells, Pt.slots] at X' e1 e2 h1 h2 h3 st hcl
    subst h1; subst h2; subst h3
    exact Or.inr ⟨q, (T.setVm vm₁).calling g' mk As.toArray, t, U', L, E, ce, hT, X', hL, e1, e2, hq, hce, hcv, vx_cls hW₁ hcl, st⟩
end Runs
section Rows
variable {p : Program} {l : Launch} {e : Env} {R : Room} {s : State} {m : MethodId} {args : Array Value} {below : List Frame} {meth : Method} {c : Code} {H : Heap} {locs : List Loc} {cells slots : Nat} {Q : State → Prop}
variable {mc ms : Nat} {free : Addr → Prop} {A0 A1 : Nat → Prop} {H0 : Heap} {a : Array Value} {pc : Nat} {ls : Array Slot} {st0 rest : List Value}
theorem vx_keep {st₀ t T' : State} {L : List Loc} (h0 : st₀.heap = H) (e1 : T'.heap = t.heap) (hS : va_S A0 H0 H locs) (hA : ∀ q, q < H.size → A1 q → A0 q) (hf : ∀ q, free q → A0 q) (hL : ∀ q ∈ L, free q.base) (hF : va_F A1 st₀ t) :
    H.size ≤ T'.heap.size ∧ (∀ q : Nat, q < H.size → ¬ A1 q → T'.heap[q]? = H[q]?) ∧ va_S A0 H0 T'.heap (locs ++ L) := by
  obtain ⟨hz, hk⟩ := hF
  rw [h0] at hz hk
  exact ⟨by rw [e1]; exact hz, fun q h1 h2 => by rw [e1]; exact hk q h1 h2,
    ⟨Nat.le_trans hS.1 (by rw [e1]; exact hz), fun q h1 h2 => by rw [e1, hk q (Nat.lt_of_lt_of_le h1 hS.1) (fun z => h2 (hA q (Nat.lt_of_lt_of_le h1 hS.1) z))]; exact hS.2.1 q h1 h2, fun q hq => by
      rcases List.mem_append.mp hq with h | h
      · exact hS.2.2 q h
      · exact hf _ (hL q h)⟩⟩
theorem vx_calli {S SX : Type} {post : Int32 → S → Prop} {px : SX → Prop} {B : S → State → Prop} {BX : String → SX → State → Prop} {AX : Nat → Prop} (hr : vx_Run p l e R s m args below meth c H locs cells slots mc ms (F0 m pc ls st0) rest (va_Qi post B A1 a) (vx_X px BX AX) free) (hS : va_S A0 H0 H locs) (hA : ∀ q, q < H.size → A1 q → A0 q) (hf : ∀ q, free q → A0 q) (hAX : ∀ q, q < H.size → AX q → A0 q)
    (kx : ∀ (E : String) (ce : Cell) (q9 : Addr) (u : SX) (t : State) (H1 : Heap) (locs1 : List Loc), t.heap = H1 → s.vm.Alike t.vm → px u → BX E u t → H.size ≤ H1.size → (∀ q : Nat, q < H.size → ¬ AX q → H1[q]? = H[q]?) → va_S A0 H0 H1 locs1 → H1[q9]? = some ce → ce.vm = .none → s.vm.findClass E = some ce.cls → vx_W p l e R s m args below meth c H1 locs1 (cells + mc) (slots + ms) Q (F0 m pc ls rest) q9)
    (kk : ∀ (r : Int32) (u : S) (t : State) (H1 : Heap) (locs1 : List Loc), t.heap = H1 → s.vm.Alike t.vm → post r u → B u t → H.size ≤ H1.size → (∀ q : Nat, q < H.size → ¬ A1 q → H1[q]? = H[q]?) → va_S A0 H0 H1 locs1 → W p l e R s m args below meth c H1 locs1 (cells + mc) (slots + ms) Q (F0 m (pc + 3) ls (.int r :: rest))) : W p l e R s m args below meth c H locs cells slots Q (F0 m pc ls st0) := by
  intro T hT X
  rcases hr T hT X with ⟨v, st₀, t, T', L, h0, X', hL, e1, e2, ⟨⟨r, u, hv, hp, hb⟩, hF⟩, st⟩ | ⟨q, st₀, t, T', L, E, ce, h0, X', hL, e1, e2, ⟨u, hp, hb, hF⟩, hce, hcv, hcl, st⟩
  · cases hv
    obtain ⟨k1, k2, k3⟩ := vx_keep h0 e1 hS hA hf hL hF
    obtain ⟨t2, a1, b1⟩ := kk r u t T'.heap (locs ++ L) e1.symm (by rw [← e2]; exact X'.warmed.alike) hp hb k1 k2 k3 T' rfl X'
    exact ⟨t2, st t2 a1, b1⟩
  · obtain ⟨k1, k2, k3⟩ := vx_keep h0 e1 hS hAX hf hL hF
    obtain ⟨t2, a1, b1⟩ := kx E ce q u t T'.heap (locs ++ L) e1.symm (by rw [← e2]; exact X'.warmed.alike) hp hb k1 k2 k3 (by rw [e1]; exact hce) hcv hcl T' rfl X'
    exact ⟨t2, st.trans a1, b1⟩
theorem vx_calll {S SX : Type} {post : Int64 → S → Prop} {px : SX → Prop} {B : S → State → Prop} {BX : String → SX → State → Prop} {AX : Nat → Prop} (hr : vx_Run p l e R s m args below meth c H locs cells slots mc ms (F0 m pc ls st0) rest (va_Ql post B A1 a) (vx_X px BX AX) free) (hS : va_S A0 H0 H locs) (hA : ∀ q, q < H.size → A1 q → A0 q) (hf : ∀ q, free q → A0 q) (hAX : ∀ q, q < H.size → AX q → A0 q)
    (kx : ∀ (E : String) (ce : Cell) (q9 : Addr) (u : SX) (t : State) (H1 : Heap) (locs1 : List Loc), t.heap = H1 → s.vm.Alike t.vm → px u → BX E u t → H.size ≤ H1.size → (∀ q : Nat, q < H.size → ¬ AX q → H1[q]? = H[q]?) → va_S A0 H0 H1 locs1 → H1[q9]? = some ce → ce.vm = .none → s.vm.findClass E = some ce.cls → vx_W p l e R s m args below meth c H1 locs1 (cells + mc) (slots + ms) Q (F0 m pc ls rest) q9)
    (kk : ∀ (r : Int64) (u : S) (t : State) (H1 : Heap) (locs1 : List Loc), t.heap = H1 → s.vm.Alike t.vm → post r u → B u t → H.size ≤ H1.size → (∀ q : Nat, q < H.size → ¬ A1 q → H1[q]? = H[q]?) → va_S A0 H0 H1 locs1 → W p l e R s m args below meth c H1 locs1 (cells + mc) (slots + ms) Q (F0 m (pc + 3) ls (.long r :: rest))) : W p l e R s m args below meth c H locs cells slots Q (F0 m pc ls st0) := by
  intro T hT X
  rcases hr T hT X with ⟨v, st₀, t, T', L, h0, X', hL, e1, e2, ⟨⟨r, u, hv, hp, hb⟩, hF⟩, st⟩ | ⟨q, st₀, t, T', L, E, ce, h0, X', hL, e1, e2, ⟨u, hp, hb, hF⟩, hce, hcv, hcl, st⟩
  · cases hv
    obtain ⟨k1, k2, k3⟩ := vx_keep h0 e1 hS hA hf hL hF
    obtain ⟨t2, a1, b1⟩ := kk r u t T'.heap (locs ++ L) e1.symm (by rw [← e2]; exact X'.warmed.alike) hp hb k1 k2 k3 T' rfl X'
    exact ⟨t2, st t2 a1, b1⟩
  · obtain ⟨k1, k2, k3⟩ := vx_keep h0 e1 hS hAX hf hL hF
    obtain ⟨t2, a1, b1⟩ := kx E ce q u t T'.heap (locs ++ L) e1.symm (by rw [← e2]; exact X'.warmed.alike) hp hb k1 k2 k3 (by rw [e1]; exact hce) hcv hcl T' rfl X'
    exact ⟨t2, st.trans a1, b1⟩
theorem vx_callf {S SX : Type} {post : UInt32 → S → Prop} {px : SX → Prop} {B : S → State → Prop} {BX : String → SX → State → Prop} {AX : Nat → Prop} (hr : vx_Run p l e R s m args below meth c H locs cells slots mc ms (F0 m pc ls st0) rest (va_Qf post B A1 a) (vx_X px BX AX) free) (hS : va_S A0 H0 H locs) (hA : ∀ q, q < H.size → A1 q → A0 q) (hf : ∀ q, free q → A0 q) (hAX : ∀ q, q < H.size → AX q → A0 q)
    (kx : ∀ (E : String) (ce : Cell) (q9 : Addr) (u : SX) (t : State) (H1 : Heap) (locs1 : List Loc), t.heap = H1 → s.vm.Alike t.vm → px u → BX E u t → H.size ≤ H1.size → (∀ q : Nat, q < H.size → ¬ AX q → H1[q]? = H[q]?) → va_S A0 H0 H1 locs1 → H1[q9]? = some ce → ce.vm = .none → s.vm.findClass E = some ce.cls → vx_W p l e R s m args below meth c H1 locs1 (cells + mc) (slots + ms) Q (F0 m pc ls rest) q9)
    (kk : ∀ (r : UInt32) (u : S) (t : State) (H1 : Heap) (locs1 : List Loc), t.heap = H1 → s.vm.Alike t.vm → post r u → B u t → H.size ≤ H1.size → (∀ q : Nat, q < H.size → ¬ A1 q → H1[q]? = H[q]?) → va_S A0 H0 H1 locs1 → W p l e R s m args below meth c H1 locs1 (cells + mc) (slots + ms) Q (F0 m (pc + 3) ls (.float r :: rest))) : W p l e R s m args below meth c H locs cells slots Q (F0 m pc ls st0) := by
  intro T hT X
  rcases hr T hT X with ⟨v, st₀, t, T', L, h0, X', hL, e1, e2, ⟨⟨r, u, hv, hp, hb⟩, hF⟩, st⟩ | ⟨q, st₀, t, T', L, E, ce, h0, X', hL, e1, e2, ⟨u, hp, hb, hF⟩, hce, hcv, hcl, st⟩
  · cases hv
    obtain ⟨k1, k2, k3⟩ := vx_keep h0 e1 hS hA hf hL hF
    obtain ⟨t2, a1, b1⟩ := kk r u t T'.heap (locs ++ L) e1.symm (by rw [← e2]; exact X'.warmed.alike) hp hb k1 k2 k3 T' rfl X'
    exact ⟨t2, st t2 a1, b1⟩
  · obtain ⟨k1, k2, k3⟩ := vx_keep h0 e1 hS hAX hf hL hF
    obtain ⟨t2, a1, b1⟩ := kx E ce q u t T'.heap (locs ++ L) e1.symm (by rw [← e2]; exact X'.warmed.alike) hp hb k1 k2 k3 (by rw [e1]; exact hce) hcv hcl T' rfl X'
    exact ⟨t2, st.trans a1, b1⟩
theorem vx_calld {S SX : Type} {post : UInt64 → S → Prop} {px : SX → Prop} {B : S → State → Prop} {BX : String → SX → State → Prop} {AX : Nat → Prop} (hr : vx_Run p l e R s m args below meth c H locs cells slots mc ms (F0 m pc ls st0) rest (va_Qd post B A1 a) (vx_X px BX AX) free) (hS : va_S A0 H0 H locs) (hA : ∀ q, q < H.size → A1 q → A0 q) (hf : ∀ q, free q → A0 q) (hAX : ∀ q, q < H.size → AX q → A0 q)
    (kx : ∀ (E : String) (ce : Cell) (q9 : Addr) (u : SX) (t : State) (H1 : Heap) (locs1 : List Loc), t.heap = H1 → s.vm.Alike t.vm → px u → BX E u t → H.size ≤ H1.size → (∀ q : Nat, q < H.size → ¬ AX q → H1[q]? = H[q]?) → va_S A0 H0 H1 locs1 → H1[q9]? = some ce → ce.vm = .none → s.vm.findClass E = some ce.cls → vx_W p l e R s m args below meth c H1 locs1 (cells + mc) (slots + ms) Q (F0 m pc ls rest) q9)
    (kk : ∀ (r : UInt64) (u : S) (t : State) (H1 : Heap) (locs1 : List Loc), t.heap = H1 → s.vm.Alike t.vm → post r u → B u t → H.size ≤ H1.size → (∀ q : Nat, q < H.size → ¬ A1 q → H1[q]? = H[q]?) → va_S A0 H0 H1 locs1 → W p l e R s m args below meth c H1 locs1 (cells + mc) (slots + ms) Q (F0 m (pc + 3) ls (.double r :: rest))) : W p l e R s m args below meth c H locs cells slots Q (F0 m pc ls st0) := by
  intro T hT X
  rcases hr T hT X with ⟨v, st₀, t, T', L, h0, X', hL, e1, e2, ⟨⟨r, u, hv, hp, hb⟩, hF⟩, st⟩ | ⟨q, st₀, t, T', L, E, ce, h0, X', hL, e1, e2, ⟨u, hp, hb, hF⟩, hce, hcv, hcl, st⟩
  · cases hv
    obtain ⟨k1, k2, k3⟩ := vx_keep h0 e1 hS hA hf hL hF
    obtain ⟨t2, a1, b1⟩ := kk r u t T'.heap (locs ++ L) e1.symm (by rw [← e2]; exact X'.warmed.alike) hp hb k1 k2 k3 T' rfl X'
    exact ⟨t2, st t2 a1, b1⟩
  · obtain ⟨k1, k2, k3⟩ := vx_keep h0 e1 hS hAX hf hL hF
    obtain ⟨t2, a1, b1⟩ := kx E ce q u t T'.heap (locs ++ L) e1.symm (by rw [← e2]; exact X'.warmed.alike) hp hb k1 k2 k3 (by rw [e1]; exact hce) hcv hcl T' rfl X'
    exact ⟨t2, st.trans a1, b1⟩
theorem vx_callv {S SX : Type} {post : S → Prop} {px : SX → Prop} {B : S → State → Prop} {BX : String → SX → State → Prop} {AX : Nat → Prop} (hr : vx_Run p l e R s m args below meth c H locs cells slots mc ms (F0 m pc ls st0) rest (va_Qv post B A1 a) (vx_X px BX AX) free) (hS : va_S A0 H0 H locs) (hA : ∀ q, q < H.size → A1 q → A0 q) (hf : ∀ q, free q → A0 q) (hAX : ∀ q, q < H.size → AX q → A0 q)
    (kx : ∀ (E : String) (ce : Cell) (q9 : Addr) (u : SX) (t : State) (H1 : Heap) (locs1 : List Loc), t.heap = H1 → s.vm.Alike t.vm → px u → BX E u t → H.size ≤ H1.size → (∀ q : Nat, q < H.size → ¬ AX q → H1[q]? = H[q]?) → va_S A0 H0 H1 locs1 → H1[q9]? = some ce → ce.vm = .none → s.vm.findClass E = some ce.cls → vx_W p l e R s m args below meth c H1 locs1 (cells + mc) (slots + ms) Q (F0 m pc ls rest) q9)
    (kk : ∀ (u : S) (t : State) (H1 : Heap) (locs1 : List Loc), t.heap = H1 → s.vm.Alike t.vm → post u → B u t → H.size ≤ H1.size → (∀ q : Nat, q < H.size → ¬ A1 q → H1[q]? = H[q]?) → va_S A0 H0 H1 locs1 → W p l e R s m args below meth c H1 locs1 (cells + mc) (slots + ms) Q (F0 m (pc + 3) ls (rest))) : W p l e R s m args below meth c H locs cells slots Q (F0 m pc ls st0) := by
  intro T hT X
  rcases hr T hT X with ⟨v, st₀, t, T', L, h0, X', hL, e1, e2, ⟨⟨u, hv, hp, hb⟩, hF⟩, st⟩ | ⟨q, st₀, t, T', L, E, ce, h0, X', hL, e1, e2, ⟨u, hp, hb, hF⟩, hce, hcv, hcl, st⟩
  · cases hv
    obtain ⟨k1, k2, k3⟩ := vx_keep h0 e1 hS hA hf hL hF
    obtain ⟨t2, a1, b1⟩ := kk u t T'.heap (locs ++ L) e1.symm (by rw [← e2]; exact X'.warmed.alike) hp hb k1 k2 k3 T' rfl X'
    exact ⟨t2, st t2 a1, b1⟩
  · obtain ⟨k1, k2, k3⟩ := vx_keep h0 e1 hS hAX hf hL hF
    obtain ⟨t2, a1, b1⟩ := kx E ce q u t T'.heap (locs ++ L) e1.symm (by rw [← e2]; exact X'.warmed.alike) hp hb k1 k2 k3 (by rw [e1]; exact hce) hcv hcl T' rfl X'
    exact ⟨t2, st.trans a1, b1⟩
/-- caught by the row x of this method's table; the rows ahead don't take it -/
theorem vx_catch {own name : String} {E : String} {ce : Cell} {q : Addr} (hown : s.vm.findClass own = some m.cls) (pre : List ExceptionTableEntry) (x : ExceptionTableEntry) (suf : List ExceptionTableEntry) (hsplit : c.exceptionTable.toList = pre ++ x :: suf)
    (hpass : ∀ z ∈ pre, covers z pc = false ∨ (z.catchType ≠ 0 ∧ ∃ nm : String, (Cond.classLink own z.catchType nm).before args s = true ∧ va_Nc E nm s)) (hx : covers x pc = true) (h0 : x.catchType ≠ 0)
    (hlink : (Cond.classLink own x.catchType name).before args s = true) (hcast : (Cond.castable E name).before args s = true) (hcell : H[q]? = some ce) (hv : ce.vm = .none) (hcl : s.vm.findClass E = some ce.cls)
    (kk : W p l e R s m args below meth c H locs cells slots Q (F0 m x.handlerPc ls [.ref q])) : vx_W p l e R s m args below meth c H locs cells slots Q (F0 m pc ls rest) q := by
  intro T hT X
  have hpl : e.platform.magicAccessors = ({} : Platform).magicAccessors := by rw [X.admits.platform]
  obtain ⟨c3, c4, hc3, hc4, hasg⟩ := Cond.castable_spec hcast
  cases Option.some.inj (hc3.symm.trans hcl)
  obtain ⟨c5, hc5, hcl5⟩ := Cond.classLink_spec hown hlink e.platform hpl
  cases Option.some.inj (hc4.symm.trans hc5)
  obtain ⟨vm', X', st⟩ := X.thenCaughtThrough q (g := F0 m pc ls rest) rfl (Steps.refl _) (by rw [hT]; exact hcell) (by rw [hv]; rfl) (by obtain ⟨k9, h9, -⟩ := Vm.findClass_spec hcl; exact ⟨k9, h9⟩) pre x suf hsplit
    (fun z hz => by
      rcases hpass z hz with h | ⟨hz0, nm, hl1, hn1⟩
      · exact Or.inl h
      · obtain ⟨c6, hc6, hcl6⟩ := Cond.classLink_spec hown hl1 e.platform hpl
        obtain ⟨a8, b8, h1, h2, h3⟩ := hn1
        cases Option.some.inj (h1.symm.trans hcl)
        cases Option.some.inj (h2.symm.trans hc6)
        exact Or.inr ⟨hz0, _, hcl6, h3⟩) hx (Or.inr ⟨h0, c4, hcl5, hasg⟩)
  obtain ⟨t, a1, b1⟩ := kk (T.setVm vm') hT X'
  exact ⟨t, st.trans a1, b1⟩
end Rows
section Ends
variable {p : Program} {l : Launch} {e : Env} {R : Room} {s : State} {m : MethodId} {args : Array Value} {below : List Frame} {meth : Method} {c : Code} {H : Heap} {locs : List Loc} {cells slots : Nat} {Q : State → Prop}
variable {mc ms : Nat} {free : Addr → Prop} {A0 A1 : Nat → Prop} {H0 : Heap} {a : Array Value} {ls : Array Slot} {st0 rest : List Value}
variable {Qc : Array Value → State → Outcome → State → Prop} {XC : String → State → State → Prop}
/-- what a body that may throw owes at its end -/
def vx_MQ (below : List Frame) (Qc : Array Value → State → Outcome → State → Prop) (XC : String → State → State → Prop) (a : Array Value) (s : State) (mc ms : Nat) (free : Addr → Prop) : State → Prop := fun t =>
  ∃ o, t.status = .running ∧ Ended t below o ∧ vx_Q Qc XC mc ms free a s o t
theorem vx_ret {g : JFrame} {mc ms : Nat} (k : W p l e R s m args below meth c H locs cells slots (MQ below Qc args s mc ms free) g) : W p l e R s m args below meth c H locs cells slots (vx_MQ below Qc XC args s mc ms free) g := by
  intro T hT X
  obtain ⟨t, a1, o, b1, b2, b3, b4⟩ := k T hT X
  exact ⟨t, a1, o, b1, b2, Or.inl ⟨b3, b4⟩⟩
/-- not caught here: it goes on to the caller -/
theorem vx_widen {g : JFrame} {q : Addr} {k n : Nat} (h1 : cells ≤ k) (h2 : slots ≤ n) (kk : vx_W p l e R s m args below meth c H locs k n Q g q) : vx_W p l e R s m args below meth c H locs cells slots Q g q := fun T hT X => kk T hT (stand_widen X h1 h2)
theorem vx_out {pc : Nat} {E : String} {ce : Cell} {q : Addr} {mc ms : Nat} (hout : ∀ x ∈ c.exceptionTable.toList, covers x pc = false) (hlocks : meth.locks = false) (hcell : H[q]? = some ce) (hv : ce.vm = .none) (hcl : s.vm.findClass E = some ce.cls)
    (hx : ∀ t : State, t.heap = H → s.vm.Alike t.vm → XC E s t) (hf : ∀ z ∈ locs, free z.base) (hc : cells ≤ mc) (hs : slots ≤ ms) :
    vx_W p l e R s m args below meth c H locs cells slots (vx_MQ below Qc XC args s mc ms free) (F0 m pc ls rest) q := by
  intro T hT X
  obtain ⟨st1, hrun, hend, hW, hsm⟩ := X.leaveThrown q (g := F0 m pc ls rest) rfl rfl rfl hout hlocks
  have hcell9 : (T.setFrames (.throwing q :: below)).heap[q]? = some ce := by
    show T.heap[q]? = some ce
    rw [hT]; exact hcell
  exact ⟨_, st1, .threw q, hrun, hend, Or.inr ⟨q, rfl, E, ce, locs, hx _ hT hW.alike, hcell9, hv, hcl, hW, hsm.mono hc hs, hf⟩⟩
theorem vx_frame {U : State} {k n : Nat} (h : s.sameButNew ({ U with vm := s.vm } : State) locs k n) : s.heap.size ≤ U.heap.size ∧ ∀ q : Nat, q < s.heap.size → (∀ z ∈ locs, z.base ≠ q) → U.heap[q]? = s.heap[q]? := by
  obtain ⟨-, h2, -, -, -, h6⟩ := h
  refine ⟨h2, fun q hq hz => ?_⟩
  obtain ⟨c9, e1, e2, e3, e4⟩ := h6 q _ (Array.getElem?_eq_getElem hq)
  have hs : c9.slots = (s.heap[q]).slots := Array.ext_getElem? fun i => e4 i fun hm => hz _ hm rfl
  have h9 : c9 = s.heap[q] := by
    rw [hs] at e2
    exact e2
  have e5 : U.heap[q]? = some c9 := e1
  rw [e5, h9, Array.getElem?_eq_getElem hq]
/-- the words of a throw but the four that speak of the heap -/
def vx_no (w : Cond) : Bool := decide (w ≠ .isRef (.static Bundle.tN "UNASSIGNED_STACK" Bundle.steD)) && decide (w ≠ .isRef (.static Bundle.tN "SUPPRESSED_SENTINEL" Bundle.listD)) && decide (w ≠ .laysStatic Bundle.tN "UNASSIGNED_STACK" Bundle.steD) && decide (w ≠ .laysStatic Bundle.tN "SUPPRESSED_SENTINEL" Bundle.listD)
def vx_at0 (own : String) (ic : Nat) (X : String) (names : List String) : List Cond := (Bundle.ownAtoms0 own ic X names).filter vx_no
def vx_atS (own : String) (ic : Nat) (X : String) (names : List String) : List Cond := (Bundle.ownAtoms own ic X names).filter vx_no
/-- a word that the tables alone decide, or a good one -/
def vx_ot (w : Cond) : Bool := w.onTables || goodWord w
theorem vx_ot_at {args a' : Array Value} {s U : State} {w : Cond} (hW : s.WarmedH U.vm) (hvm : s.vm = U.vm) (hg : vx_ot w = true) (h : w.before args s = true) : w.before a' U = true := by
  simp only [vx_ot, Bool.or_eq_true] at hg
  rcases hg with hg | hg
  · exact va_tabs hg hvm h
  · exact word_at hW (good_of_word hg) h
/-- a list's words: the good ones out of the method's own list, the others by premises of their own -/
theorem vx_hat {args : Array Value} {s : State} {L B : List Cond} (h1 : ∀ w ∈ L.filter goodWord, w.before args s = true) (h2 : ∀ w ∈ L.filter (fun w => !goodWord w), w ∈ B) (h3 : ∀ w ∈ B, w.before args s = true) : ∀ w ∈ L, w.before args s = true := by
  intro w hw
  by_cases g : goodWord w = true
  · exact h1 w (List.mem_filter.mpr ⟨hw, g⟩)
  · refine h3 w (h2 w (List.mem_filter.mpr ⟨hw, ?_⟩))
    show (!goodWord w) = true
    cases hgw : goodWord w
    · rfl
    · exact absurd hgw g
theorem vx_c {args : Array Value} {s : State} {w : Cond} {B : List Cond} (h : w.before args s = true) (t : ∀ w ∈ B, w.before args s = true) : ∀ w' ∈ w :: B, w'.before args s = true := fun w' h' => (List.mem_cons.mp h').elim (fun e => by rw [e]; exact h) (t w')
theorem vx_n {args : Array Value} {s : State} : ∀ w ∈ ([] : List Cond), w.before args s = true := fun _ h => nomatch h
theorem vx_own {args : Array Value} {s : State} {L : List Cond} (h1 : ∀ w ∈ L.filter vx_no, w.before args s = true)
    (hU : (Cond.isRef (.static Bundle.tN "UNASSIGNED_STACK" Bundle.steD)).before args s = true) (hN : (Cond.isRef (.static Bundle.tN "SUPPRESSED_SENTINEL" Bundle.listD)).before args s = true)
    (lU : (Cond.laysStatic Bundle.tN "UNASSIGNED_STACK" Bundle.steD).before args s = true) (lN : (Cond.laysStatic Bundle.tN "SUPPRESSED_SENTINEL" Bundle.listD).before args s = true) : ∀ w ∈ L, w.before args s = true := by
  intro w hw
  by_cases e1 : w = .isRef (.static Bundle.tN "UNASSIGNED_STACK" Bundle.steD)
  · rw [e1]; exact hU
  · by_cases e2 : w = .isRef (.static Bundle.tN "SUPPRESSED_SENTINEL" Bundle.listD)
    · rw [e2]; exact hN
    · by_cases e3 : w = .laysStatic Bundle.tN "UNASSIGNED_STACK" Bundle.steD
      · rw [e3]; exact lU
      · by_cases e4 : w = .laysStatic Bundle.tN "SUPPRESSED_SENTINEL" Bundle.listD
        · rw [e4]; exact lN
        · exact h1 w (List.mem_filter.mpr ⟨hw, by unfold vx_no; rw [decide_eq_true e1, decide_eq_true e2, decide_eq_true e3, decide_eq_true e4]; rfl⟩)
/-- where a static field lies, its class's statics cell in H -/
def vx_L (C n d : String) (A : Nat → Prop) (U : State) (H : Heap) : Prop := ∃ (c : ClassId) (k : Class) (i : Nat) (f : Field) (a : Nat) (cell : Cell), U.vm.findClass C = some c ∧ U.fieldFound? C n d = some (c, k, i, f) ∧ f.isStatic = true ∧ k.statics = some a ∧ H[a]? = some cell ∧ cell.vm.isStatics = true ∧ cell.cls = c ∧ f.slot < cell.slots.size ∧ k.staticTypes[f.slot]? = some f.type ∧ ¬ A a
theorem vx_L.moved {C n d : String} {A : Nat → Prop} {u U : State} {H : Heap} (hvm : u.vm.Alike U.vm) (h : vx_L C n d A u H) : vx_L C n d A U H := by
  obtain ⟨c, k, i, f, a, cell, h1, h2, h3, h4, h5, h6, h7, h8, h9, h10⟩ := h
  obtain ⟨k', hi', he⟩ := State.fieldFound?_setVm hvm h2
  exact ⟨c, k', i, f, a, cell, by rw [hvm.findClass]; exact h1, hi', h3, by rw [he]; exact h4, h5, h6, h7, h8, by rw [he]; exact h9, h10⟩
theorem vx_L.kept {C n d : String} {A : Nat → Prop} {U : State} {H H1 : Heap} (h : vx_L C n d A U H) (hq : ∀ a : Nat, a < H.size → ¬ A a → H1[a]? = H[a]?) : vx_L C n d A U H1 := by
  obtain ⟨c, k, i, f, a, cell, h1, h2, h3, h4, h5, h6, h7, h8, h9, h10⟩ := h
  exact ⟨c, k, i, f, a, cell, h1, h2, h3, h4, by rw [hq a (Array.getElem?_eq_some_iff.mp h5).1 h10]; exact h5, h6, h7, h8, h9, h10⟩
theorem vx_L.narrow {C n d : String} {A B : Nat → Prop} {U : State} {H : Heap} (h : vx_L C n d A U H) (hAB : ∀ q, B q → A q) : vx_L C n d B U H := by
  obtain ⟨c, k, i, f, a, cell, h1, h2, h3, h4, h5, h6, h7, h8, h9, h10⟩ := h
  exact ⟨c, k, i, f, a, cell, h1, h2, h3, h4, h5, h6, h7, h8, h9, fun z => h10 (hAB _ z)⟩
theorem vx_L.word {C n d : String} {A : Nat → Prop} {s : State} {args : Array Value} (h : vx_L C n d A s s.heap) : (Cond.laysStatic C n d).before args s = true := by
  obtain ⟨c, k, i, f, a, cell, h1, h2, h3, h4, h5, h6, h7, h8, h9, -⟩ := h
  show (Cond.laysStatic C n d).holds args s none s [] = true
  exact Cond.laysStatic_of h1 h2 h3 h4 h5 h6 h7 h8 h9
/-- .. and what it holds: null or some reference -/
def vx_Zq (C n d : String) (A : Nat → Prop) (U : State) (H : Heap) : Prop := va_Zq C n d A U H ∧ vx_L C n d A U H
theorem vx_Zq.moved {C n d : String} {A : Nat → Prop} {u U : State} {H : Heap} (hvm : u.vm.Alike U.vm) (h : vx_Zq C n d A u H) : vx_Zq C n d A U H := ⟨va_Zq.moved hvm h.1, vx_L.moved hvm h.2⟩
theorem vx_Zq.kept {C n d : String} {A : Nat → Prop} {U : State} {H H1 : Heap} (h : vx_Zq C n d A U H) (hq : ∀ a : Nat, a < H.size → ¬ A a → H1[a]? = H[a]?) : vx_Zq C n d A U H1 := ⟨va_Zq.kept h.1 hq, vx_L.kept h.2 hq⟩
theorem vx_Zq.narrow {C n d : String} {A B : Nat → Prop} {U : State} {H : Heap} (h : vx_Zq C n d A U H) (hAB : ∀ q, B q → A q) : vx_Zq C n d B U H := ⟨va_Zq.narrow h.1 hAB, vx_L.narrow h.2 hAB⟩
theorem vx_Zqof {args : Array Value} {s : State} {C n d : String} {A : Nat → Prop} (hl : (Cond.laysStatic C n d).before args s = true) (hini : (Cond.initialized C).before args s = true) (h : (Cond.isRef (.static C n d)).before args s = true) (hA : ∀ a : Nat, a < s.heap.size → ¬ A a) : vx_Zq C n d A s s.heap := by
  refine ⟨va_Zqof hl hini h hA, ?_⟩
  obtain ⟨c, k, i, f, a, cell, h1, h2, h3, h4, h5, h6, h7, h8, h9⟩ := Cond.laysStatic_spec hl
  exact ⟨c, k, i, f, a, cell, h1, h2, h3, h4, h5, h6, h7, h8, h9, hA a (Array.getElem?_eq_some_iff.mp h5).1⟩
theorem vx_isRef {C n d : String} {v : Value} {A : Nat → Prop} {s : State} {args : Array Value} (h : va_Z C n d v A s s.heap) (hv : v.isRef = true) : (Cond.isRef (.static C n d)).before args s = true := by
  obtain ⟨cf, kf, fi, f, a, cell, h1, h2, h3, h4, h5, h6, h7, -⟩ := h
  have he : (Term.static C n d).eval args s none [] s = some v := by
    simp [Term.eval, State.fieldNamed?, h1, h2, h4, h5, h6, h7]
  simp only [Cond.before, Cond.holds, Cond.value, he]
  cases v <;> simp_all [Value.isRef]
theorem vx_isRefq {C n d : String} {A : Nat → Prop} {s : State} {args : Array Value} (h : va_Zq C n d A s s.heap) : (Cond.isRef (.static C n d)).before args s = true := by
  rcases h with h | ⟨t, h⟩
  · exact vx_isRef h rfl
  · exact vx_isRef h rfl
/-- the same frame, seen from here: as if the method were called anew in this heap -/
theorem vx_rebase {T : State} (X : Stand p l e R s m args below meth c T locs cells slots) {R' : Room} (hf : R'.frames ≤ R.frames) (hl : R'.locals ≤ R.locals) (hc : cells + R'.cells ≤ R.cells) (hs : slots + R'.slots ≤ R.slots) :
    Stand p l e R' ((T.setVm s.vm).setFrames (.invoking m args :: below)) m args below meth c T [] 0 0 := by
  have htop : (T.setVm s.vm).topJava?.isSome := X.here.top
  have hF : ((T.setVm s.vm).setFrames (.invoking m args :: below)).frames = .invoking m args :: below := State.frames_setFrames _ (State.cur_lt_of_top htop)
  obtain ⟨g₀, hg0⟩ := Option.isSome_iff_exists.mp htop
  obtain ⟨r, hr⟩ := State.topJava?_eq_some.mp hg0
  have hl9 : e.platform.stackLimits (T.setVm s.vm).me = e.platform.stackLimits s.me := X.limits
  have hb9 : (T.setVm s.vm).me.stackBytes = s.me.stackBytes := X.bytes
  refine ⟨X.admits, X.cas, X.clock, hF, ?_, X.hears, X.method, X.code, X.here, X.tail, X.warmed, ?_, ?_, ?_⟩
  · have h := X.room
    have hU : ((T.setVm s.vm).setFrames (.invoking m args :: below)).localsInUse = s.localsInUse := by
      rw [State.localsInUse_invoking hF (meth := meth) (c := c) X.method X.code, State.localsInUse_invoking X.frames X.method X.code]
    simp only [State.hasRoom, Bool.and_eq_true, decide_eq_true_eq] at h ⊢
    obtain ⟨⟨⟨⟨h1, h2, h3, h4, h5, h6⟩, h7⟩, h8⟩, h9⟩ := h
    rw [X.frames, List.length_cons] at h2 h3
    have q1 := X.heapSize
    have q2 := X.used
    simp only [hF, hU, List.length_cons, State.stackLimits_setFrames, State.stackBytes_setFrames, hl9, hb9]
    refine ⟨⟨⟨⟨by omega, by omega, by omega, by omega, by omega, h6⟩, ?_⟩, ?_⟩, X.book⟩
    · show T.heap.size + R'.cells ≤ e.platform.maxCells
      omega
    · show T.slotsUsed + R'.slots ≤ e.platform.maxSlots
      omega
  · rw [State.stackLimits_setFrames]; rfl
  · rw [State.stackBytes_setFrames]; rfl
  · refine ⟨?_, Nat.le_refl _, Nat.le_refl _, ?_, ?_, fun a c9 h9 => ⟨c9, h9, rfl, rfl, fun _ _ => rfl⟩⟩
    · obtain ⟨t, ht, -⟩ := State.frames_cons hr
      show T.setVm s.vm = { ((T.setVm s.vm).setFrames (.invoking m args :: below)).setFrames (T.setVm s.vm).frames with heap := T.heap, slotsUsed := T.slotsUsed }
      rw [State.setFrames_setFrames, State.setFrames_self ht]
      rfl
    · show T.slotsUsed = T.slotsUsed + ((T.heap.toList.drop T.heap.size).map (·.slots.size)).sum
      rw [List.drop_eq_nil_of_le (Nat.le_of_eq Array.length_toList)]
      rfl
    · show ((T.heap.toList.drop T.heap.size).map (·.slots.size)).sum ≤ 0
      rw [List.drop_eq_nil_of_le (Nat.le_of_eq Array.length_toList)]
      exact Nat.le_refl _
/-- 'throw new E()': new; dup; invokespecial; athrow -/
theorem vx_throw0 {cc : ByteArray} {pc : Nat} (hexec : p.tables.exec = Jvm.exec) (hb : c.code = cc) (hl : l.stackTraces = false) {own cls : String} {names : List String} {ik ic mc ms : Nat} {A : Nat → Prop}
    (hown : s.vm.findClass own = some m.cls) (hcls : Bundle.fit cls = true) (hnames : ∀ n ∈ names, Bundle.fit n = true)
    (hk : (Cond.classLink own ik cls).before args s = true) (hini : (Cond.initialized cls).before args s = true) (hat : ∀ w ∈ vx_at0 own ic cls names, w.before args s = true)
    (hgood : ∀ w ∈ Cond.classLink own ik cls :: Cond.initialized cls :: vx_at0 own ic cls names, vx_ot w = true)
    (hU : vx_Zq Bundle.tN "UNASSIGNED_STACK" Bundle.steD A s s.heap) (hN : vx_Zq Bundle.tN "SUPPRESSED_SENTINEL" Bundle.listD A s s.heap) (hS : va_S A s.heap H locs) (hsize : ls.size = c.maxLocals)
    (d0 : decode cc pc = .ok (.new ik, 3)) (d3 : decode cc (pc + 3) = .ok (.dup, 1)) (d4 : decode cc (pc + 4) = .ok (.invokespecial ic, 3)) (d7 : decode cc (pc + 7) = .ok (.athrow, 1))
    (hout : ∀ x ∈ c.exceptionTable.toList, covers x (pc + 7) = false)
    (hRframes : names.length + 3 < R.frames) (hRlocals : (rest.map fun v => v.category).sum + (13 * (names.length + 1) + 42) ≤ R.locals) (hRcells : cells + 1 ≤ R.cells) (hRslots : slots + 6 ≤ R.slots) (hlocks : meth.locks = false)
    (hx : ∀ t : State, s.vm.Alike t.vm → H.size ≤ t.heap.size → (∀ q : Nat, q < H.size → t.heap[q]? = H[q]?) → XC cls s t)
    (hf : ∀ z ∈ locs, free z.base) (hc : cells + 1 ≤ mc) (hs : slots + 6 ≤ ms) :
    W p l e R s m args below meth c H locs cells slots (vx_MQ below Qc XC args s mc ms free) (F0 m pc ls rest) := by
  intro T hT X
  have htr : e.platform.stackTraces = false := (show e.platform.stackTraces = l.stackTraces by rw [X.admits.platform]).trans hl
  have Y := vx_rebase X (R' := { frames := R.frames, locals := R.locals, cells := 1, slots := 6 }) (Nat.le_refl _) (Nat.le_refl _) hRcells hRslots
  obtain ⟨s', hA⟩ : ∃ z, z = (T.setVm s.vm).setFrames (.invoking m args :: below) := ⟨_, rfl⟩
  rw [← hA] at Y
  have hvm : s'.vm = s.vm := by rw [hA]; rfl
  have hhp : s'.heap = H := by rw [hA]; exact hT
  have hW0 : s.WarmedH s'.vm := by rw [hvm]; exact State.WarmedH.refl s
  have hat' : ∀ w ∈ vx_at0 own ic cls names, w.before args s' = true := fun w hw => vx_ot_at hW0 hvm.symm (hgood w (List.mem_cons_of_mem _ (List.mem_cons_of_mem _ hw))) (hat w hw)
  have hk' : (Cond.classLink own ik cls).before args s' = true := vx_ot_at hW0 hvm.symm (hgood _ List.mem_cons_self) hk
  have hini' : (Cond.initialized cls).before args s' = true := vx_ot_at hW0 hvm.symm (hgood _ (List.mem_cons_of_mem _ List.mem_cons_self)) hini
  have hU' : vx_Zq Bundle.tN "UNASSIGNED_STACK" Bundle.steD A s' s'.heap := by rw [hhp]; exact vx_Zq.moved hW0.alike (hU.kept hS.2.1)
  have hN' : vx_Zq Bundle.tN "SUPPRESSED_SENTINEL" Bundle.listD A s' s'.heap := by rw [hhp]; exact vx_Zq.moved hW0.alike (hN.kept hS.2.1)
  have h : ∀ w ∈ Bundle.ownAtoms0 own ic cls names, w.before args s' = true := vx_own hat' (vx_isRefq hU'.1) (vx_isRefq hN'.1) hU'.2.word hN'.2.word
  have hown' : s'.vm.findClass own = some m.cls := by rw [hvm]; exact hown
  have hins : (Cond.instantiable cls 6).before args s' = true := h _ (by simp [Bundle.ownAtoms0])
  obtain ⟨vm₁, cX, kX, hfX, hkX, -, -, X₁, st1⟩ := Y.newCold hexec (own := own) (C := cls) (index := ik) (n := 6) hown' hk' hins hini'
    (g := F0 m pc ls rest) rfl (by rw [hb]; exact d0) (Nat.le_refl _) (Nat.le_refl _)
  generalize hT1 : (T.setVm vm₁).pushCell { cls := cX, slots := kX.instanceTypes.map defaultValue, vm := .none } = T1 at X₁ st1
  have hcat : (Value.ref T.heap.size).category = 1 := rfl
  have hcellA : T1.heap[T.heap.size]? = some (freshCell cX kX) := by rw [← hT1]; exact State.heap_pushCell_size _ _
  have d3' : decode c.code (pc + 3) = .ok (.dup, 1) := by rw [hb]; exact d3
  obtain ⟨U, hsteps, hrun, hend, hW, hsame, ce, hce, hO⟩ := X₁.ctorThrow0 hexec htr (own := own) (cls := cls) (names := names) (ic := ic) hown' hcls hnames h (fun x hx => nomatch hx) hfX hkX hcellA (by rw [hhp, hT]; exact Nat.le_refl _)
    (g := { method := m, pc := pc + 4, locals := ls, stack := .ref T.heap.size :: .ref T.heap.size :: rest, locked := none }) rfl hsize rfl rfl (rest := rest) rfl
    (by rw [hb]; exact d4) (by rw [hb]; exact d7) hout hRframes (by simp only [List.map_cons, List.sum_cons, hcat]; omega) hlocks
  obtain ⟨f1, f2⟩ := vx_frame hsame
  rw [hhp] at f1 f2
  have hWs : s.WarmedH U.vm := State.WarmedH.trans hW0 hW
  have hcl : s.vm.findClass cls = some ce.cls := by
    have h9 := hO.cls
    rw [hvm] at h9
    exact h9
  have hall : s.sameButNew ({ U with vm := s.vm } : State) locs mc ms := by
    subst hA
    obtain ⟨e1, e2⟩ := hsame
    rw [State.setFrames_setFrames] at e1
    have h2 : (T.setVm s.vm).sameButNew ({ U with vm := s.vm } : State) [] (0 + 1) (0 + 6) := ⟨e1, e2⟩
    have h3 := X.same.trans h2
    rw [List.append_nil] at h3
    exact h3.mono hc hs
  refine ⟨U, ?_, .threw T.heap.size, hrun, hend, Or.inr ⟨T.heap.size, rfl, cls, ce, locs, hx U hWs.alike f1 (fun q hq => f2 q hq (fun z hz => nomatch hz)), hce, hO.vm, hcl, hWs, hall, hf⟩⟩
  refine st1 _ ?_
  show Steps p.tables e below (T1.setTop { method := m, pc := pc + 3, locals := ls, stack := .ref T.heap.size :: rest, locked := none }) _
  jvm_step X₁.here [X₁.here.top, hexec, d3', Value.category]
  exact hsteps
/-- 'throw new E("text")': new; dup; ldc; invokespecial; athrow -/
theorem vx_throwS {cc : ByteArray} {pc : Nat} (hexec : p.tables.exec = Jvm.exec) (hb : c.code = cc) (hl : l.stackTraces = false) {own cls text : String} {names : List String} {ik is ic mc ms sa : Nat} {A : Nat → Prop}
    (hown : s.vm.findClass own = some m.cls) (hcls : Bundle.fit cls = true) (hnames : ∀ n ∈ names, Bundle.fit n = true)
    (hk : (Cond.classLink own ik cls).before args s = true) (hini : (Cond.initialized cls).before args s = true) (hstr : vk_R own is text sa s) (hat : ∀ w ∈ vx_atS own ic cls names, w.before args s = true)
    (hgood : ∀ w ∈ Cond.classLink own ik cls :: Cond.initialized cls :: vx_atS own ic cls names, vx_ot w = true)
    (hU : vx_Zq Bundle.tN "UNASSIGNED_STACK" Bundle.steD A s s.heap) (hN : vx_Zq Bundle.tN "SUPPRESSED_SENTINEL" Bundle.listD A s s.heap) (hS : va_S A s.heap H locs) (hsize : ls.size = c.maxLocals)
    (d0 : decode cc pc = .ok (.new ik, 3)) (d3 : decode cc (pc + 3) = .ok (.dup, 1)) (d4 : decode cc (pc + 4) = .ok (.ldc is, 2)) (d6 : decode cc (pc + 6) = .ok (.invokespecial ic, 3)) (d9 : decode cc (pc + 9) = .ok (.athrow, 1))
    (hout : ∀ x ∈ c.exceptionTable.toList, covers x (pc + 9) = false)
    (hRframes : names.length + 3 < R.frames) (hRlocals : (rest.map fun v => v.category).sum + (13 * (names.length + 1) + 43) ≤ R.locals) (hRcells : cells + 1 ≤ R.cells) (hRslots : slots + 6 ≤ R.slots) (hlocks : meth.locks = false)
    (hx : ∀ t : State, s.vm.Alike t.vm → H.size ≤ t.heap.size → (∀ q : Nat, q < H.size → t.heap[q]? = H[q]?) → XC cls s t)
    (hf : ∀ z ∈ locs, free z.base) (hc : cells + 1 ≤ mc) (hs : slots + 6 ≤ ms) :
    W p l e R s m args below meth c H locs cells slots (vx_MQ below Qc XC args s mc ms free) (F0 m pc ls rest) := by
  intro T hT X
  have htr : e.platform.stackTraces = false := (show e.platform.stackTraces = l.stackTraces by rw [X.admits.platform]).trans hl
  have Y := vx_rebase X (R' := { frames := R.frames, locals := R.locals, cells := 1, slots := 6 }) (Nat.le_refl _) (Nat.le_refl _) hRcells hRslots
  obtain ⟨s', hA⟩ : ∃ z, z = (T.setVm s.vm).setFrames (.invoking m args :: below) := ⟨_, rfl⟩
  rw [← hA] at Y
  have hvm : s'.vm = s.vm := by rw [hA]; rfl
  have hhp : s'.heap = H := by rw [hA]; exact hT
  have hW0 : s.WarmedH s'.vm := by rw [hvm]; exact State.WarmedH.refl s
  have hat' : ∀ w ∈ vx_atS own ic cls names, w.before args s' = true := fun w hw => vx_ot_at hW0 hvm.symm (hgood w (List.mem_cons_of_mem _ (List.mem_cons_of_mem _ hw))) (hat w hw)
  have hk' : (Cond.classLink own ik cls).before args s' = true := vx_ot_at hW0 hvm.symm (hgood _ List.mem_cons_self) hk
  have hini' : (Cond.initialized cls).before args s' = true := vx_ot_at hW0 hvm.symm (hgood _ (List.mem_cons_of_mem _ List.mem_cons_self)) hini
  have hU' : vx_Zq Bundle.tN "UNASSIGNED_STACK" Bundle.steD A s' s'.heap := by rw [hhp]; exact vx_Zq.moved hW0.alike (hU.kept hS.2.1)
  have hN' : vx_Zq Bundle.tN "SUPPRESSED_SENTINEL" Bundle.listD A s' s'.heap := by rw [hhp]; exact vx_Zq.moved hW0.alike (hN.kept hS.2.1)
  have h : ∀ w ∈ Bundle.ownAtoms own ic cls names, w.before args s' = true := vx_own hat' (vx_isRefq hU'.1) (vx_isRefq hN'.1) hU'.2.word hN'.2.word
  have hown' : s'.vm.findClass own = some m.cls := by rw [hvm]; exact hown
  have hins : (Cond.instantiable cls 6).before args s' = true := h _ (by simp [Bundle.ownAtoms])
  obtain ⟨vm₁, cX, kX, hfX, hkX, -, -, X₁, st1⟩ := Y.newCold hexec (own := own) (C := cls) (index := ik) (n := 6) hown' hk' hins hini'
    (g := F0 m pc ls rest) rfl (by rw [hb]; exact d0) (Nat.le_refl _) (Nat.le_refl _)
  generalize hT1 : (T.setVm vm₁).pushCell { cls := cX, slots := kX.instanceTypes.map defaultValue, vm := .none } = T1 at X₁ st1
  have hcat : (Value.ref T.heap.size).category = 1 := rfl
  have hcellA : T1.heap[T.heap.size]? = some (freshCell cX kX) := by rw [← hT1]; exact State.heap_pushCell_size _ _
  have d3' : decode c.code (pc + 3) = .ok (.dup, 1) := by rw [hb]; exact d3
  have d4' : decode c.code (pc + 4) = .ok (.ldc is, 2) := by rw [hb]; exact d4
  have hstr' : vk_R own is text sa s' := vk_R.warm hW0 hstr
  obtain ⟨U, hsteps, hrun, hend, hW, hsame, ce, hce, hO⟩ := X₁.ctorThrowS hexec htr (own := own) (cls := cls) (names := names) (ic := ic) hown' hcls hnames h (fun x hx => nomatch hx) hfX hkX hcellA (by rw [hhp, hT]; exact Nat.le_refl _) (msg := .ref sa) rfl
    (g := { method := m, pc := pc + 6, locals := ls, stack := .ref sa :: .ref T.heap.size :: .ref T.heap.size :: rest, locked := none }) rfl hsize rfl rfl (rest := rest) rfl
    (by rw [hb]; exact d6) (by rw [hb]; exact d9) hout hRframes (by simp only [List.map_cons, List.sum_cons, hcat]; omega) hlocks
  obtain ⟨f1, f2⟩ := vx_frame hsame
  rw [hhp] at f1 f2
  have hWs : s.WarmedH U.vm := State.WarmedH.trans hW0 hW
  have hcl : s.vm.findClass cls = some ce.cls := by
    have h9 := hO.cls
    rw [hvm] at h9
    exact h9
  have hall : s.sameButNew ({ U with vm := s.vm } : State) locs mc ms := by
    subst hA
    obtain ⟨e1, e2⟩ := hsame
    rw [State.setFrames_setFrames] at e1
    have h2 : (T.setVm s.vm).sameButNew ({ U with vm := s.vm } : State) [] (0 + 1) (0 + 6) := ⟨e1, e2⟩
    have h3 := X.same.trans h2
    rw [List.append_nil] at h3
    exact h3.mono hc hs
  refine ⟨U, ?_, .threw T.heap.size, hrun, hend, Or.inr ⟨T.heap.size, rfl, cls, ce, locs, hx U hWs.alike f1 (fun q hq => f2 q hq (fun z hz => nomatch hz)), hce, hO.vm, hcl, hWs, hall, hf⟩⟩
  refine st1 _ ?_
  show Steps p.tables e below (T1.setTop { method := m, pc := pc + 3, locals := ls, stack := .ref T.heap.size :: rest, locked := none }) _
  jvm_step X₁.here [X₁.here.top, hexec, d3', Value.category]
  exact X₁.ldcString hexec (own := own) (text := text) (index := is) (a := sa) hown' hstr'.1 hstr'.2
    (g := { method := m, pc := pc + 4, locals := ls, stack := .ref T.heap.size :: .ref T.heap.size :: rest, locked := none }) rfl d4' _ hsteps
/-- 'throw new E("text")', the text by a wide index -/
theorem vx_throwSW {cc : ByteArray} {pc : Nat} (hexec : p.tables.exec = Jvm.exec) (hb : c.code = cc) (hl : l.stackTraces = false) {own cls text : String} {names : List String} {ik is ic mc ms sa : Nat} {A : Nat → Prop}
    (hown : s.vm.findClass own = some m.cls) (hcls : Bundle.fit cls = true) (hnames : ∀ n ∈ names, Bundle.fit n = true)
    (hk : (Cond.classLink own ik cls).before args s = true) (hini : (Cond.initialized cls).before args s = true) (hstr : vk_R own is text sa s) (hat : ∀ w ∈ vx_atS own ic cls names, w.before args s = true)
    (hgood : ∀ w ∈ Cond.classLink own ik cls :: Cond.initialized cls :: vx_atS own ic cls names, vx_ot w = true)
    (hU : vx_Zq Bundle.tN "UNASSIGNED_STACK" Bundle.steD A s s.heap) (hN : vx_Zq Bundle.tN "SUPPRESSED_SENTINEL" Bundle.listD A s s.heap) (hS : va_S A s.heap H locs) (hsize : ls.size = c.maxLocals)
    (d0 : decode cc pc = .ok (.new ik, 3)) (d3 : decode cc (pc + 3) = .ok (.dup, 1)) (d4 : decode cc (pc + 4) = .ok (.ldc_w is, 3)) (d7 : decode cc (pc + 7) = .ok (.invokespecial ic, 3)) (d10 : decode cc (pc + 10) = .ok (.athrow, 1))
    (hout : ∀ x ∈ c.exceptionTable.toList, covers x (pc + 10) = false)
    (hRframes : names.length + 3 < R.frames) (hRlocals : (rest.map fun v => v.category).sum + (13 * (names.length + 1) + 43) ≤ R.locals) (hRcells : cells + 1 ≤ R.cells) (hRslots : slots + 6 ≤ R.slots) (hlocks : meth.locks = false)
    (hx : ∀ t : State, s.vm.Alike t.vm → H.size ≤ t.heap.size → (∀ q : Nat, q < H.size → t.heap[q]? = H[q]?) → XC cls s t)
    (hf : ∀ z ∈ locs, free z.base) (hc : cells + 1 ≤ mc) (hs : slots + 6 ≤ ms) :
    W p l e R s m args below meth c H locs cells slots (vx_MQ below Qc XC args s mc ms free) (F0 m pc ls rest) := by
  intro T hT X
  have htr : e.platform.stackTraces = false := (show e.platform.stackTraces = l.stackTraces by rw [X.admits.platform]).trans hl
  have Y := vx_rebase X (R' := { frames := R.frames, locals := R.locals, cells := 1, slots := 6 }) (Nat.le_refl _) (Nat.le_refl _) hRcells hRslots
  obtain ⟨s', hA⟩ : ∃ z, z = (T.setVm s.vm).setFrames (.invoking m args :: below) := ⟨_, rfl⟩
  rw [← hA] at Y
  have hvm : s'.vm = s.vm := by rw [hA]; rfl
  have hhp : s'.heap = H := by rw [hA]; exact hT
  have hW0 : s.WarmedH s'.vm := by rw [hvm]; exact State.WarmedH.refl s
  have hat' : ∀ w ∈ vx_atS own ic cls names, w.before args s' = true := fun w hw => vx_ot_at hW0 hvm.symm (hgood w (List.mem_cons_of_mem _ (List.mem_cons_of_mem _ hw))) (hat w hw)
  have hk' : (Cond.classLink own ik cls).before args s' = true := vx_ot_at hW0 hvm.symm (hgood _ List.mem_cons_self) hk
  have hini' : (Cond.initialized cls).before args s' = true := vx_ot_at hW0 hvm.symm (hgood _ (List.mem_cons_of_mem _ List.mem_cons_self)) hini
  have hU' : vx_Zq Bundle.tN "UNASSIGNED_STACK" Bundle.steD A s' s'.heap := by rw [hhp]; exact vx_Zq.moved hW0.alike (hU.kept hS.2.1)
  have hN' : vx_Zq Bundle.tN "SUPPRESSED_SENTINEL" Bundle.listD A s' s'.heap := by rw [hhp]; exact vx_Zq.moved hW0.alike (hN.kept hS.2.1)
  have h : ∀ w ∈ Bundle.ownAtoms own ic cls names, w.before args s' = true := vx_own hat' (vx_isRefq hU'.1) (vx_isRefq hN'.1) hU'.2.word hN'.2.word
  have hown' : s'.vm.findClass own = some m.cls := by rw [hvm]; exact hown
  have hins : (Cond.instantiable cls 6).before args s' = true := h _ (by simp [Bundle.ownAtoms])
  obtain ⟨vm₁, cX, kX, hfX, hkX, -, -, X₁, st1⟩ := Y.newCold hexec (own := own) (C := cls) (index := ik) (n := 6) hown' hk' hins hini'
    (g := F0 m pc ls rest) rfl (by rw [hb]; exact d0) (Nat.le_refl _) (Nat.le_refl _)
  generalize hT1 : (T.setVm vm₁).pushCell { cls := cX, slots := kX.instanceTypes.map defaultValue, vm := .none } = T1 at X₁ st1
  have hcat : (Value.ref T.heap.size).category = 1 := rfl
  have hcellA : T1.heap[T.heap.size]? = some (freshCell cX kX) := by rw [← hT1]; exact State.heap_pushCell_size _ _
  have d3' : decode c.code (pc + 3) = .ok (.dup, 1) := by rw [hb]; exact d3
  have d4' : decode c.code (pc + 4) = .ok (.ldc_w is, 3) := by rw [hb]; exact d4
  have hstr' : vk_R own is text sa s' := vk_R.warm hW0 hstr
  obtain ⟨U, hsteps, hrun, hend, hW, hsame, ce, hce, hO⟩ := X₁.ctorThrowS hexec htr (own := own) (cls := cls) (names := names) (ic := ic) hown' hcls hnames h (fun x hx => nomatch hx) hfX hkX hcellA (by rw [hhp, hT]; exact Nat.le_refl _) (msg := .ref sa) rfl
    (g := { method := m, pc := pc + 7, locals := ls, stack := .ref sa :: .ref T.heap.size :: .ref T.heap.size :: rest, locked := none }) rfl hsize rfl rfl (rest := rest) rfl
    (by rw [hb]; exact d7) (by rw [hb]; exact d10) hout hRframes (by simp only [List.map_cons, List.sum_cons, hcat]; omega) hlocks
  obtain ⟨f1, f2⟩ := vx_frame hsame
  rw [hhp] at f1 f2
  have hWs : s.WarmedH U.vm := State.WarmedH.trans hW0 hW
  have hcl : s.vm.findClass cls = some ce.cls := by
    have h9 := hO.cls
    rw [hvm] at h9
    exact h9
  have hall : s.sameButNew ({ U with vm := s.vm } : State) locs mc ms := by
    subst hA
    obtain ⟨e1, e2⟩ := hsame
    rw [State.setFrames_setFrames] at e1
    have h2 : (T.setVm s.vm).sameButNew ({ U with vm := s.vm } : State) [] (0 + 1) (0 + 6) := ⟨e1, e2⟩
    have h3 := X.same.trans h2
    rw [List.append_nil] at h3
    exact h3.mono hc hs
  refine ⟨U, ?_, .threw T.heap.size, hrun, hend, Or.inr ⟨T.heap.size, rfl, cls, ce, locs, hx U hWs.alike f1 (fun q hq => f2 q hq (fun z hz => nomatch hz)), hce, hO.vm, hcl, hWs, hall, hf⟩⟩
  refine st1 _ ?_
  show Steps p.tables e below (T1.setTop { method := m, pc := pc + 3, locals := ls, stack := .ref T.heap.size :: rest, locked := none }) _
  jvm_step X₁.here [X₁.here.top, hexec, d3', Value.category]
  exact X₁.ldcStringW hexec (own := own) (text := text) (index := is) (a := sa) hown' hstr'.1 hstr'.2
    (g := { method := m, pc := pc + 4, locals := ls, stack := .ref T.heap.size :: .ref T.heap.size :: rest, locked := none }) rfl d4' _ hsteps
end Ends
section Bodies
variable {l : Launch}
theorem vx_ofW {y : MethodName} {ws ws' : List Cond} {rm : Room} {Pc : Array Value → State → Prop} {Qc : Array Value → State → Outcome → State → Prop} {XC : String → State → State → Prop} {mc ms : Nat} {free : Addr → Prop} {cc : ByteArray} {maxL : Nat} {ret : Option FieldType}
    (hy : plainName y.cls = true) (hw : ws = Cond.code y cc maxL ret :: ws')
    (body : ∀ p e s m args below meth c s₁, BodyLoose p l y (headSpec ws rm) cc maxL ret e s m args below meth c s₁ → c.maxLocals = maxL → (∀ x ∈ c.exceptionTable.toList, False) → Pc args s →
      W p l e (headSpec ws rm).room s m args below meth c s.heap [] 0 0 (vx_MQ below Qc XC args s mc ms free) (entryFrame m args maxL)) : vx_Met l y ws rm Pc Qc XC mc ms free := by
  refine MetFree.of_bodyS (code := cc) (maxLocals := maxL) (ret := ret) hy ?_ ?_
  · intro args s m h hn
    obtain ⟨meth, c, h1, h2, h3, h4, h5, h6, -, -⟩ := Cond.code_spec hn (atoms_spec (ws := ws) h _ (by rw [hw]; exact List.mem_cons_self))
    exact ⟨meth, c, h1, h2, h3, h4, h5, h6⟩
  · intro p e s m args below meth c s₁ B hml hP _
    have hh0 : s₁.heap = s.heap := by rw [B.state]; rfl
    have ht : ∀ x ∈ c.exceptionTable.toList, False := by
      obtain ⟨meth9, c9, h1, h2, -, -, -, -, h7, -⟩ := Cond.code_spec B.named (atoms_spec (ws := ws) B.pre _ (by rw [hw]; exact List.mem_cons_self))
      cases Option.some.inj (h1.symm.trans B.method)
      cases Option.some.inj (h2.symm.trans (Stand.of_body B).code)
      intro x hx
      rw [Array.isEmpty_iff.mp h7] at hx
      cases hx
    obtain ⟨t, a1, o, b1, b2, b3⟩ := body p e s m args below meth c s₁ B hml ht hP s₁ hh0 (Stand.of_body B)
    exact ⟨t, o, a1, b1, b2, b3⟩
/-- the table of a body with handlers -/
theorem vx_table {p : Program} {x y : MethodName} {S : Spec} {cc bytes : ByteArray} {maxL maxL' : Nat} {ret ret' : Option FieldType} {e : Env} {s s₁ : State} {m : MethodId} {args : Array Value} {below : List Frame} {meth : Method} {c : Code} {hh : List (Nat × Nat × Nat × Nat)}
    (B : BodyLoose p l y S cc maxL ret e s m args below meth c s₁) (h : (Cond.codeWith y bytes maxL' ret' hh).before args s = true) : c.exceptionTable.toList = tableOf hh := by
  obtain ⟨m9, meth9, c9, hn9, h1, h2, -, -, h6, -⟩ := Cond.codeWith_spec h
  cases Option.some.inj (hn9.symm.trans B.named)
  cases Option.some.inj (h1.symm.trans B.method)
  cases Option.some.inj (h2.symm.trans (Stand.of_body B).code)
  rw [← h6, table_eq]
end Bodies
end VXA
/-! ===== END ===== -/
/-! ===== BEGIN a static call of a method with an exception table ===== -/
section VXS
variable {p : Program} {l : Launch} {e : Env} {R : Room} {s : State} {m : MethodId} {args : Array Value} {below : List Frame} {meth : Method} {c : Code} {T : State} {H : Heap} {locs : List Loc} {cells slots : Nat}
abbrev vx_CSW (R : Room) (s : State) (args : Array Value) (own : String) (index : Nat) (y : MethodName) (bytes : ByteArray) (maxL : Nat) (ret : Option FieldType) (hh : List (Nat × Nat × Nat × Nat)) (ws : List Cond) (rm : Room) (mc ms n : Nat) : Prop :=
  (rm.cells = mc ∧ rm.slots = ms ∧ rm.frames + 1 ≤ R.frames ∧ 8 + (maxL + 11) + rm.locals ≤ R.locals ∧ (∀ w ∈ ws, ∀ (a' : Array Value) (U : State), s.WarmedH U.vm → w.before a' U = true) ∧ Cond.codeWith y bytes maxL ret hh ∈ ws) ∧
  (Cond.codeWith y bytes maxL ret hh).before args s = true ∧ (Cond.initialized y.cls).before args s = true ∧ (y.cls ≠ "java/lang/invoke/MethodHandle" ∧ y.cls ≠ "java/lang/invoke/VarHandle") ∧
  (∀ sig, parseMethodDescriptor y.desc = some sig → n = sig.parameters.length) ∧ (Cond.methodLink own index y).before args s = true ∧ (Cond.static y).before args s = true
theorem vx_cwSW {own : String} {index maxL mc ms : Nat} {y : MethodName} {bytes : ByteArray} {ret : Option FieldType} {hh : List (Nat × Nat × Nat × Nat)} {Ts ws ws' : List Cond} {rm : Room} (n : Nat) (ht : ∀ w ∈ Ts, w.before args s = true) (hT : GoodIn Ts (va_wsS own index y ws)) (hw : ws = Cond.codeWith y bytes maxL ret hh :: ws') (hrc : rm.cells = mc) (hrs : rm.slots = ms)
    (hd : y.cls ≠ "java/lang/invoke/MethodHandle" ∧ y.cls ≠ "java/lang/invoke/VarHandle" ∧ (parseMethodDescriptor y.desc).map (fun d => d.parameters.length) = some n) (hR : rm.frames + 1 ≤ R.frames ∧ 8 + (maxL + 11) + rm.locals ≤ R.locals) :
    vx_CSW R s args own index y bytes maxL ret hh ws rm mc ms n := by
  have ok : ∀ w ∈ va_wsS own index y ws, w.before args s = true := fun w h => ht w (hT w h).1
  have hG : GoodIn Ts ws := fun w h => hT w (by unfold va_wsS; exact List.mem_append_right _ h)
  have hc : Cond.codeWith y bytes maxL ret hh ∈ ws := by rw [hw]; exact List.mem_cons_self
  refine ⟨⟨hrc, hrs, hR.1, hR.2, pay_in ht hG, hc⟩, ht _ (hG _ hc).1, ok _ (by simp [va_wsS]), ⟨hd.1, hd.2.1⟩, fun sig h => ?_, ok _ (by simp [va_wsS]), ok _ (by simp [va_wsS])⟩
  have h2 := hd.2.2
  rw [h] at h2
  exact (Option.some.inj h2).symm
theorem vx_callSW (X : Stand p l e R s m args below meth c T locs cells slots) (hexec : p.tables.exec = Jvm.exec) {own : String} {index : Nat} {y : MethodName} {bytes : ByteArray} {maxL : Nat} {ret : Option FieldType} {hh : List (Nat × Nat × Nat × Nat)}
    (hown : s.vm.findClass own = some m.cls) (hlink : (Cond.methodLink own index y).before args s = true) (hstat : (Cond.static y).before args s = true) (hinit : (Cond.initialized y.cls).before args s = true)
    (hcode : (Cond.codeWith y bytes maxL ret hh).before args s = true) (hy : y.cls ≠ "java/lang/invoke/MethodHandle" ∧ y.cls ≠ "java/lang/invoke/VarHandle")
    {W9 : Nat} {Pre : Pt → Array Value → Prop} {Post : Pt → Array Value → Option Value → Pt → Prop} (hK : Back l R p e below s args y 3 W9 Pre Post)
    {g : JFrame} (hg : g.method = m) (hsize : g.locals.size = c.maxLocals) {argsL rest : List Value} (hlen : ∀ sig, parseMethodDescriptor y.desc = some sig → argsL.length = sig.parameters.length)
    (hstack : g.stack = argsL.reverse ++ rest) (hW : 2 * g.monitorRoom + (rest.map fun v => v.category).sum ≤ W9) (hdg : decode c.code g.pc = .ok (.invokestatic index, 3))
    (hpre : ∀ vm₁, s.WarmedH vm₁ → Pre ⟨T.setVm vm₁, locs, cells, slots⟩ argsL.toArray) :
    ∃ (v : Option Value) (vm₁ : Vm) (B : Pt), s.WarmedH vm₁ ∧ Stand p l e R s m args below meth c B.U B.locs B.cells B.slots ∧ Post ⟨T.setVm vm₁, locs, cells, slots⟩ argsL.toArray v B ∧
      ∀ target, Steps p.tables e below (B.U.setTop { g with pc := g.pc + 3, stack := v.toList ++ rest }) target → Steps p.tables e below (T.setTop g) target := by
  obtain ⟨mk, methM, cM, hnamed, hmethM, -, -, -, -, -, -, hsigM⟩ := Cond.codeWith_spec hcode
  have hstatic : methM.isStatic = true := Cond.static_spec hnamed hmethM hstat
  obtain ⟨kP, hkP, -⟩ := className_of_methodNamed hnamed
  have hinitP : kP.init = .initialized := Cond.initialized_spec (findClass_of_methodNamed hnamed) hkP hinit
  obtain ⟨vm₁, X₁, hstep₁⟩ := X.invokestatic hexec hown hlink hnamed hmethM hstatic hkP hinitP hy (g := g) hg (argsL := argsL) (rest := rest) (hlen _ hsigM) hstack hdg
  obtain ⟨v, B, X', hpost, hsteps⟩ := hK m meth c ⟨T.setVm vm₁, locs, cells, slots⟩ { g with stack := rest } (.invokestatic index) mk argsL.toArray X₁ hg hsize hdg hW (X₁.named hnamed) (hpre vm₁ X₁.warmed)
  exact ⟨v, vm₁, B, X₁.warmed, X', hpost, fun target h => hstep₁ _ fun acts => by rw [doInvoke_state]; exact hsteps.trans h⟩
theorem vx_runSW {y : MethodName} {bytes cc : ByteArray} {maxL nL mc ms n index : Nat} {ret : Option FieldType} {hh : List (Nat × Nat × Nat × Nat)} {ws : List Cond} {rm : Room} {Pc : Array Value → State → Prop} {Qc : Array Value → State → Outcome → State → Prop} {free : Addr → Prop} {Ts : List Cond} {own : String} {As rest : List Value} {g : JFrame}
    (S : CallFix p m c cc nL s args Ts own) (hM : Met l y ws rm Pc Qc mc ms free) (cw : vx_CSW R s args own index y bytes maxL ret hh ws rm mc ms n) (hp : PreS s H Pc As)
    (hg : g.method = m) (hn : As.length = n) (hsize : g.locals.size = nL) (hstack : g.stack = As.reverse ++ rest) (hW : 2 * g.monitorRoom + (rest.map fun v => v.category).sum ≤ 8) (hdg : decode cc g.pc = .ok (.invokestatic index, 3)) (hf : cells + mc ≤ R.cells ∧ slots + ms ≤ R.slots) :
    va_Run p l e R s m args below meth c H locs cells slots mc ms g rest (Qc As.toArray) (free) := by
  obtain ⟨⟨hrc, hrs, hfr, hlo, hws, hcw⟩, hcode, hini, hy, hlen, hl, hstt⟩ := cw
  have hK : Back l R p e below s args y 3 8 (PreOf R mc ms Pc) (PostOf Qc mc ms free) := va_backW (hh := hh) (bytes := bytes) (maxL := maxL) (ret := ret) hM hp.1 hrc hrs hfr hlo hws hcw (fun a' U hW => word_at hW (Or.inl (by first | rfl | simp [Cond.onTables, Cond.keeps, Cond.steady])) hini)
  obtain ⟨hx, hb, hml, ho, -⟩ := S
  intro T hT X
  obtain ⟨v, vm₁, ⟨U', l2, c2, s2⟩, hW₁, X', ⟨g', mk, t, L, e1, e2, hq, h1, hL, h2, h3⟩, st⟩ := vx_callSW X hx (hh := hh) (bytes := bytes) (maxL := maxL) (ret := ret) ho hl hstt hini hcode hy hK hg (hsize.trans hml.symm) (argsL := As) (rest := rest) (fun sig h => hn.trans (hlen sig h)) hstack hW (by rw [hb]; exact hdg)
    (fun vm₁ hW₁ => ⟨hf.1, hf.2, hp.2 (T.setVm vm₁) hT hW₁⟩)
  dsimp only [Pt.U, Pt.locs, Pt.cells, Pt.slots] at X' e1 e2 h1 h2 h3 st
  subst h1; subst h2; subst h3
  exact ⟨v, (T.setVm vm₁).calling g' mk As.toArray, t, U', L, hT, X', hL, e1, e2, hq, st⟩
/-- not caught here, past rows that name other classes: it goes on to the caller -/
theorem vx_outP {p : Program} {l : Launch} {e : Env} {R : Room} {s : State} {m : MethodId} {args : Array Value} {below : List Frame} {meth : Method} {c : Code} {H : Heap} {locs : List Loc} {cells slots : Nat} {free : Addr → Prop} {ls : Array Slot} {rest : List Value} {Qc : Array Value → State → Outcome → State → Prop} {XC : String → State → State → Prop}
    {pc : Nat} {own E : String} {ce : Cell} {q : Addr} {mc ms : Nat} (hown : s.vm.findClass own = some m.cls) (hlocks : meth.locks = false)
    (hpass : ∀ z ∈ c.exceptionTable.toList, covers z pc = false ∨ (z.catchType ≠ 0 ∧ ∃ nm : String, (Cond.classLink own z.catchType nm).before args s = true ∧ va_Nc E nm s)) (hcell : H[q]? = some ce) (hv : ce.vm = .none) (hcl : s.vm.findClass E = some ce.cls)
    (hx : ∀ t : State, t.heap = H → s.vm.Alike t.vm → XC E s t) (hf : ∀ z ∈ locs, free z.base) (hc : cells ≤ mc) (hs : slots ≤ ms) :
    vx_W p l e R s m args below meth c H locs cells slots (vx_MQ below Qc XC args s mc ms free) (F0 m pc ls rest) q := by
  intro T hT X
  have hpl : e.platform.magicAccessors = ({} : Platform).magicAccessors := by rw [X.admits.platform]
  obtain ⟨vm', hW', X', st⟩ := X.outThrough hlocks q (g := F0 m pc ls rest) rfl rfl rfl (cell := ce) (by rw [hT]; exact hcell) (by rw [hv]; rfl)
    (by obtain ⟨k9, h9, -⟩ := Vm.findClass_spec hcl; exact ⟨k9, h9⟩) (fun z hz => by
      rcases hpass z hz with h | ⟨hz0, nm, hl1, hn1⟩
      · exact Or.inl h
      · obtain ⟨c6, hc6, hcl6⟩ := Cond.classLink_spec hown hl1 e.platform hpl
        obtain ⟨a8, b8, h1, h2, h3⟩ := hn1
        cases Option.some.inj (h1.symm.trans hcl)
        cases Option.some.inj (h2.symm.trans hc6)
        exact Or.inr ⟨hz0, _, hcl6, h3⟩)
  obtain ⟨g₀, hfr⟩ := X'.frames_eq
  have hcell9 : ((T.setVm vm').setFrames (.throwing q :: below)).heap[q]? = some ce := by
    show T.heap[q]? = some ce
    rw [hT]; exact hcell
  have hend : Ended ((T.setVm vm').setFrames (.throwing q :: below)) below (.threw q) := State.frames_setFrames _ (State.cur_lt_of_frames hfr)
  refine ⟨(T.setVm vm').setFrames (.throwing q :: below), ?_, .threw q, X'.here.running, hend, Or.inr ⟨q, rfl, E, ce, locs, hx _ hT (X'.ends _).1.alike, hcell9, hv, hcl, (X'.ends _).1, (X'.ends _).2.mono hc hs, hf⟩⟩
  rw [X.pushThrowing_eq]
  exact st
/-- a thing of a world lies in the heap -/
theorem vx_lt {D : va_G} {cl : List vw_C} {ws : va_W} {H1 : Heap} (h : va_P D cl ws H1) {k : Nat} {q : Nat × va_E} (hk : ws[k]? = some q) : q.1 < H1.size := (h k q hk).lt
end VXS
/-! ===== END ===== -/
/-! ===== BEGIN methods with a table of their own: called by a name, returning or throwing ===== -/
section VXH
/-! vx_backW, vx_callVX, vx_callSX, vx_callVW, vx_runVW, vx_runVX, vx_runSX, vx_ofWH follow the same proofs as their sisters above (Free/Laws.lean, Shelf42/LK1.lean); vx_outP calls Shelf42/NT130.lean (outThrough). -/
section
variable {l : Launch} {R : Room} {p : Program} {e : Env} {below : List Frame} {s : State} {sargs : Array Value} {y : MethodName} {len W9 : Nat}
theorem vx_backW {ws : List Cond} {rm : Room} {Pc : Array Value → State → Prop} {Qc : Array Value → State → Outcome → State → Prop} {XC : String → State → State → Prop} {mc ms : Nat} {free : Addr → Prop} {bytes : ByteArray} {maxL : Nat} {ret : Option FieldType} {hh : List (Nat × Nat × Nat × Nat)}
    (hM : vx_Met l y ws rm Pc Qc XC mc ms free) (hblind : FrameBlind Pc) (hrc : rm.cells = mc) (hrs : rm.slots = ms)
    (hframes : rm.frames + 1 ≤ R.frames) (hlocals : W9 + (maxL + 11) + rm.locals ≤ R.locals)
    (hws : ∀ w ∈ ws, ∀ a' U, s.WarmedH U.vm → w.before a' U = true) (hcode : Cond.codeWith y bytes maxL ret hh ∈ ws) (hinit : ∀ a' U, s.WarmedH U.vm → (Cond.initialized y.cls).before a' U = true) :
    vx_Back l R p e below s sargs y len W9 (PreOf R mc ms Pc) (PostOf Qc mc ms free) (vx_Post XC mc ms free) := by
  intro m meth c A g ig mk a X hg hsize hdg hW hn hp
  have h1 : (headSpec ws rm).pre.before a A.U = true := atoms_intro fun w hw => hws w hw _ _ X.warmed
  have h2 : (Cond.codeWith y bytes maxL ret hh).before a A.U = true := hws _ hcode _ _ X.warmed
  have h3 : (Cond.initialized y.cls).before a A.U = true := hinit _ _ X.warmed
  have h4 : A.cells + (headSpec ws rm).room.cells ≤ R.cells := by rw [show (headSpec ws rm).room.cells = mc from hrc]; exact hp.1
  have h5 : A.slots + (headSpec ws rm).room.slots ≤ R.slots := by rw [show (headSpec ws rm).room.slots = ms from hrs]; exact hp.2.1
  have hPc : Pc a (A.U.calling g mk a) := hblind _ _ _ _ hp.2.2
  obtain ⟨U, Ls, c0, s0⟩ := A
  dsimp only [Pt.U, Pt.locs, Pt.cells, Pt.slots] at h1 h2 h3 h4 h5 X hn hPc ⊢
  obtain ⟨m9, methY, cY, hn9, hmY, hcY, -, hlY, -⟩ := Cond.codeWith_spec h2
  cases Option.some.inj (hn9.symm.trans hn)
  obtain ⟨kY, hkY, -⟩ := className_of_methodNamed hn
  have hinitY : kY.init = .initialized := Cond.initialized_spec (findClass_of_methodNamed hn) hkY h3
  have h : At U g.method c below := by rw [hg]; exact X.here
  have hlocals9 : W9 + (maxL + 11) + (headSpec ws rm).room.locals ≤ R.locals := hlocals
  have happ : (headSpec ws rm).appliesLoose y e.platform (U.calling g mk a) = true :=
    Spec.appliesLoose_calling (g := g) h hdg hn hkY hinitY
      (X.room_calling (g := g) (R' := (headSpec ws rm).room) hsize hmY hcY hframes (by rw [hlY]; omega) h4 h5) h1
  obtain ⟨mid, hmid⟩ := h.above
  have hfr : (U.setTop g).frames = (.java g :: mid) ++ below := by rw [State.frames_setTop' g h.top, hmid]; rfl
  obtain ⟨o, s₂, hsteps, -, hend, hq⟩ := Steps.callFree hM p X.admits X.cas X.clock (acts := []) hfr happ hPc trivial
  have hq' : vx_Q Qc XC mc ms free a (U.calling g mk a) o s₂ := hq
  rw [State.frames_setTop' g h.top] at hend
  obtain ⟨g₀, hg0⟩ := Option.isSome_iff_exists.mp h.top
  obtain ⟨r, hr⟩ := State.topJava?_eq_some.mp hg0
  have hr' : (({ U with heap := s₂.heap, slotsUsed := s₂.slotsUsed } : State).setVm s₂.vm).frames = .java g₀ :: r := hr
  rcases hq' with ⟨hqc, L, hfe, hL⟩ | ⟨q, rfl, E, ce, L, hx, hce, hcv, hcl, hW₂, hsm, hL⟩
  · obtain ⟨⟨v, rfl⟩, hW₂, e2, q2, q3, q4, q5, q6⟩ := id hfe
    have e3 : s₂ = ({ (U.calling g mk a).setFrames s₂.frames with heap := s₂.heap, slotsUsed := s₂.slotsUsed } : State).setVm s₂.vm := by
      have : s₂ = ({ s₂ with vm := (U.calling g mk a).vm } : State).setVm s₂.vm := rfl
      rw [e2] at this
      exact this
    obtain ⟨c₂, i₂, len₂, hc₂, hd₂, hf₂⟩ := hend
    have hW' : U.WarmedH s₂.vm := hW₂
    have hcc : c₂ = c := by
      have h1 : s₂.code? g.method = U.code? g.method := by
        rw [State.code?_eq, State.code?_eq, hW'.alike.method?]
      exact Option.some.inj (hc₂.symm.trans (h1.trans h.code))
    subst hcc
    have hlen : len₂ = len := by rw [hdg] at hd₂; cases hd₂; rfl
    subst hlen
    have hs₂ : s₂ = (({ U with heap := s₂.heap, slotsUsed := s₂.slotsUsed } : State).setVm s₂.vm).setTop { g with pc := g.pc + len₂, stack := v.toList ++ g.stack } := by
      refine e3.trans ?_
      rw [hf₂, State.calling_eq h.top, State.setFrames_setFrames, State.setTop_of_frames _ hr', hr]
      rfl
    have hsame : U.sameButNew ({ U with heap := s₂.heap, slotsUsed := s₂.slotsUsed } : State) L mc ms := by
      refine ⟨?_, q2, q3, q4, q5, q6⟩
      obtain ⟨t, ht, -⟩ := State.frames_cons hr
      show ({ U with heap := s₂.heap, slotsUsed := s₂.slotsUsed } : State) = { U.setFrames U.frames with heap := s₂.heap, slotsUsed := s₂.slotsUsed }
      rw [State.setFrames_self ht]
    subst hg
    refine Or.inl ⟨v, ⟨(({ U with heap := s₂.heap, slotsUsed := s₂.slotsUsed } : State).setVm s₂.vm), Ls ++ L, c0 + mc, s0 + ms⟩,
      ⟨X.admits, X.cas, X.clock, X.frames, X.room, X.hears, X.method, X.code, (X.here.setHeapUsed s₂.heap s₂.slotsUsed).setVm hW'.alike, X.tail, State.WarmedH.trans X.warmed hW', X.limits, X.bytes, X.same.trans (hsame.setVm s.vm)⟩,
      ⟨g, mk, s₂, L, rfl, rfl, hqc, rfl, hL, rfl, rfl⟩, ?_⟩
    show Steps p.tables e below _ ((({ U with heap := s₂.heap, slotsUsed := s₂.slotsUsed } : State).setVm s₂.vm).setTop { g with pc := g.pc + len₂, stack := v.toList ++ g.stack })
    rw [← hs₂]
    exact hsteps
  · obtain ⟨e2, q2, q3, q4, q5, q6⟩ := id hsm
    have e3 : s₂ = ({ (U.calling g mk a).setFrames s₂.frames with heap := s₂.heap, slotsUsed := s₂.slotsUsed } : State).setVm s₂.vm := by
      have : s₂ = ({ s₂ with vm := (U.calling g mk a).vm } : State).setVm s₂.vm := rfl
      rw [e2] at this
      exact this
    have hf₂ : s₂.frames = .throwing q :: .java g :: U.frames.tail := hend
    have hW' : U.WarmedH s₂.vm := hW₂
    have hs₂ : s₂ = ((({ U with heap := s₂.heap, slotsUsed := s₂.slotsUsed } : State).setVm s₂.vm).setTop g).pushFrame (.throwing q) := by
      refine e3.trans ?_
      rw [hf₂, State.calling_eq h.top, State.setFrames_setFrames, State.pushFrame, State.frames_setTop _ hr', State.setTop_of_frames _ hr', State.setFrames_setFrames, hr]
      rfl
    have hsame : U.sameButNew ({ U with heap := s₂.heap, slotsUsed := s₂.slotsUsed } : State) L mc ms := by
      refine ⟨?_, q2, q3, q4, q5, q6⟩
      obtain ⟨t, ht, -⟩ := State.frames_cons hr
      show ({ U with heap := s₂.heap, slotsUsed := s₂.slotsUsed } : State) = { U.setFrames U.frames with heap := s₂.heap, slotsUsed := s₂.slotsUsed }
      rw [State.setFrames_self ht]
    subst hg
    refine Or.inr ⟨q, ⟨(({ U with heap := s₂.heap, slotsUsed := s₂.slotsUsed } : State).setVm s₂.vm), Ls ++ L, c0 + mc, s0 + ms⟩,
      ⟨X.admits, X.cas, X.clock, X.frames, X.room, X.hears, X.method, X.code, (X.here.setHeapUsed s₂.heap s₂.slotsUsed).setVm hW'.alike, X.tail, State.WarmedH.trans X.warmed hW', X.limits, X.bytes, X.same.trans (hsame.setVm s.vm)⟩,
      ⟨g, mk, s₂, L, E, ce, rfl, rfl, hx, hce, hcv, hcl, rfl, hL, rfl, rfl⟩, ?_⟩
    show Steps p.tables e below _ (((({ U with heap := s₂.heap, slotsUsed := s₂.slotsUsed } : State).setVm s₂.vm).setTop g).pushFrame (.throwing q))
    rw [← hs₂]
    exact hsteps
end
variable {p : Program} {l : Launch} {e : Env} {R : Room} {s : State} {m : MethodId} {args : Array Value} {below : List Frame} {meth : Method} {c : Code} {T : State} {H : Heap} {locs : List Loc} {cells slots : Nat}
theorem vx_callVX (X : Stand p l e R s m args below meth c T locs cells slots) (hexec : p.tables.exec = Jvm.exec) {own C : String} {index : Nat} {y : MethodName} {bytes : ByteArray} {maxL : Nat} {ret : Option FieldType} {hh : List (Nat × Nat × Nat × Nat)}
    (hown : s.vm.findClass own = some m.cls) (hlink : (Cond.methodLink own index y).before args s = true) (hinst : (Cond.instanceMethod y).before args s = true) (hsel : (Cond.selects C y y).before args s = true)
    (hcode : (Cond.codeWith y bytes maxL ret hh).before args s = true) (hy : y.cls ≠ "java/lang/invoke/MethodHandle" ∧ y.cls ≠ "java/lang/invoke/VarHandle")
    {W9 : Nat} {Pre : Pt → Array Value → Prop} {Post : Pt → Array Value → Option Value → Pt → Prop} {PostX : Pt → Array Value → Addr → Pt → Prop} (hK : vx_Back l R p e below s args y 3 W9 Pre Post PostX)
    {b : Addr} {cellB : Cell} (hcell : T.heap[b]? = some cellB) (hobj : cellB.vm.isStatics = false) (hcls : s.vm.findClass C = some cellB.cls)
    {g : JFrame} (hg : g.method = m) (hsize : g.locals.size = c.maxLocals) {argsL rest : List Value} (hlen : ∀ sig, parseMethodDescriptor y.desc = some sig → argsL.length = sig.parameters.length)
    (hstack : g.stack = argsL.reverse ++ .ref b :: rest) (hW : 2 * g.monitorRoom + (rest.map fun v => v.category).sum ≤ W9) (hdg : decode c.code g.pc = .ok (.invokevirtual index, 3))
    (hpre : ∀ vm₁, s.WarmedH vm₁ → Pre ⟨T.setVm vm₁, locs, cells, slots⟩ (Value.ref b :: argsL).toArray) :
    (∃ (v : Option Value) (vm₁ : Vm) (B : Pt), s.WarmedH vm₁ ∧ Stand p l e R s m args below meth c B.U B.locs B.cells B.slots ∧ Post ⟨T.setVm vm₁, locs, cells, slots⟩ (Value.ref b :: argsL).toArray v B ∧
      ∀ target, Steps p.tables e below (B.U.setTop { g with pc := g.pc + 3, stack := v.toList ++ rest }) target → Steps p.tables e below (T.setTop g) target) ∨
    (∃ (q : Addr) (vm₁ : Vm) (B : Pt), s.WarmedH vm₁ ∧ Stand p l e R s m args below meth c B.U B.locs B.cells B.slots ∧ PostX ⟨T.setVm vm₁, locs, cells, slots⟩ (Value.ref b :: argsL).toArray q B ∧
      Steps p.tables e below (T.setTop g) ((B.U.setTop { g with stack := rest }).pushFrame (.throwing q))) := by
  obtain ⟨mk, methM, hnamed, hmethM, hstM, habM⟩ := Cond.instanceMethod_spec hinst
  obtain ⟨m8, methM', cM, hn8, hmethM', -, -, -, -, -, -, hsigM⟩ := Cond.codeWith_spec hcode
  cases Option.some.inj (hn8.symm.trans hnamed)
  cases hmethM.symm.trans hmethM'
  obtain ⟨c2, r2, m2, q1, q2, q3, q4, kP, hkP, hkPi⟩ := Cond.selects_spec hsel
  cases hcls.symm.trans q1
  cases (State.methodFound?_of_named hnamed hy).symm.trans q2
  cases hnamed.symm.trans q3
  have hselP : selectMethod e.platform s.vm cellB.cls mk = .method mk := by rw [Launch.admits_selectMethod X.admits]; exact q4
  obtain ⟨vm₁, X₁, hstep₁⟩ := X.invokevirtual hexec hown hlink hnamed hmethM hstM hkP hkPi hy (a := b) (cell := cellB) hcell
    (fun z h => by rw [h] at hobj; cases hobj) hselP hmethM habM hkP hkPi (g := g) hg (argsL := argsL) (rest := rest) (hlen _ hsigM) hstack hdg
  rcases hK m meth c ⟨T.setVm vm₁, locs, cells, slots⟩ { g with stack := rest } (.invokevirtual index) mk (Value.ref b :: argsL).toArray X₁ hg hsize hdg hW (X₁.named hnamed) (hpre vm₁ X₁.warmed) with ⟨v, B, X', hpost, hsteps⟩ | ⟨q, B, X', hpost, hsteps⟩
  · exact Or.inl ⟨v, vm₁, B, X₁.warmed, X', hpost, fun target h => hstep₁ _ fun acts => by rw [doInvoke_state]; exact hsteps.trans h⟩
  · exact Or.inr ⟨q, vm₁, B, X₁.warmed, X', hpost, hstep₁ _ fun acts => by rw [doInvoke_state]; exact hsteps⟩
theorem vx_callSX (X : Stand p l e R s m args below meth c T locs cells slots) (hexec : p.tables.exec = Jvm.exec) {own : String} {index : Nat} {y : MethodName} {bytes : ByteArray} {maxL : Nat} {ret : Option FieldType} {hh : List (Nat × Nat × Nat × Nat)}
    (hown : s.vm.findClass own = some m.cls) (hlink : (Cond.methodLink own index y).before args s = true) (hstat : (Cond.static y).before args s = true) (hinit : (Cond.initialized y.cls).before args s = true)
    (hcode : (Cond.codeWith y bytes maxL ret hh).before args s = true) (hy : y.cls ≠ "java/lang/invoke/MethodHandle" ∧ y.cls ≠ "java/lang/invoke/VarHandle")
    {W9 : Nat} {Pre : Pt → Array Value → Prop} {Post : Pt → Array Value → Option Value → Pt → Prop} {PostX : Pt → Array Value → Addr → Pt → Prop} (hK : vx_Back l R p e below s args y 3 W9 Pre Post PostX)
    {g : JFrame} (hg : g.method = m) (hsize : g.locals.size = c.maxLocals) {argsL rest : List Value} (hlen : ∀ sig, parseMethodDescriptor y.desc = some sig → argsL.length = sig.parameters.length)
    (hstack : g.stack = argsL.reverse ++ rest) (hW : 2 * g.monitorRoom + (rest.map fun v => v.category).sum ≤ W9) (hdg : decode c.code g.pc = .ok (.invokestatic index, 3))
    (hpre : ∀ vm₁, s.WarmedH vm₁ → Pre ⟨T.setVm vm₁, locs, cells, slots⟩ argsL.toArray) :
    (∃ (v : Option Value) (vm₁ : Vm) (B : Pt), s.WarmedH vm₁ ∧ Stand p l e R s m args below meth c B.U B.locs B.cells B.slots ∧ Post ⟨T.setVm vm₁, locs, cells, slots⟩ argsL.toArray v B ∧
      ∀ target, Steps p.tables e below (B.U.setTop { g with pc := g.pc + 3, stack := v.toList ++ rest }) target → Steps p.tables e below (T.setTop g) target) ∨
    (∃ (q : Addr) (vm₁ : Vm) (B : Pt), s.WarmedH vm₁ ∧ Stand p l e R s m args below meth c B.U B.locs B.cells B.slots ∧ PostX ⟨T.setVm vm₁, locs, cells, slots⟩ argsL.toArray q B ∧
      Steps p.tables e below (T.setTop g) ((B.U.setTop { g with stack := rest }).pushFrame (.throwing q))) := by
  obtain ⟨mk, methM, cM, hnamed, hmethM, -, -, -, -, -, -, hsigM⟩ := Cond.codeWith_spec hcode
  have hstatic : methM.isStatic = true := Cond.static_spec hnamed hmethM hstat
  obtain ⟨kP, hkP, -⟩ := className_of_methodNamed hnamed
  have hinitP : kP.init = .initialized := Cond.initialized_spec (findClass_of_methodNamed hnamed) hkP hinit
  obtain ⟨vm₁, X₁, hstep₁⟩ := X.invokestatic hexec hown hlink hnamed hmethM hstatic hkP hinitP hy (g := g) hg (argsL := argsL) (rest := rest) (hlen _ hsigM) hstack hdg
  rcases hK m meth c ⟨T.setVm vm₁, locs, cells, slots⟩ { g with stack := rest } (.invokestatic index) mk argsL.toArray X₁ hg hsize hdg hW (X₁.named hnamed) (hpre vm₁ X₁.warmed) with ⟨v, B, X', hpost, hsteps⟩ | ⟨q, B, X', hpost, hsteps⟩
  · exact Or.inl ⟨v, vm₁, B, X₁.warmed, X', hpost, fun target h => hstep₁ _ fun acts => by rw [doInvoke_state]; exact hsteps.trans h⟩
  · exact Or.inr ⟨q, vm₁, B, X₁.warmed, X', hpost, hstep₁ _ fun acts => by rw [doInvoke_state]; exact hsteps⟩
theorem vx_callVW (X : Stand p l e R s m args below meth c T locs cells slots) (hexec : p.tables.exec = Jvm.exec) {own C : String} {index : Nat} {y : MethodName} {bytes : ByteArray} {maxL : Nat} {ret : Option FieldType} {hh : List (Nat × Nat × Nat × Nat)}
    (hown : s.vm.findClass own = some m.cls) (hlink : (Cond.methodLink own index y).before args s = true) (hinst : (Cond.instanceMethod y).before args s = true) (hsel : (Cond.selects C y y).before args s = true)
    (hcode : (Cond.codeWith y bytes maxL ret hh).before args s = true) (hy : y.cls ≠ "java/lang/invoke/MethodHandle" ∧ y.cls ≠ "java/lang/invoke/VarHandle")
    {W9 : Nat} {Pre : Pt → Array Value → Prop} {Post : Pt → Array Value → Option Value → Pt → Prop} (hK : Back l R p e below s args y 3 W9 Pre Post)
    {b : Addr} {cellB : Cell} (hcell : T.heap[b]? = some cellB) (hobj : cellB.vm.isStatics = false) (hcls : s.vm.findClass C = some cellB.cls)
    {g : JFrame} (hg : g.method = m) (hsize : g.locals.size = c.maxLocals) {argsL rest : List Value} (hlen : ∀ sig, parseMethodDescriptor y.desc = some sig → argsL.length = sig.parameters.length)
    (hstack : g.stack = argsL.reverse ++ .ref b :: rest) (hW : 2 * g.monitorRoom + (rest.map fun v => v.category).sum ≤ W9) (hdg : decode c.code g.pc = .ok (.invokevirtual index, 3))
    (hpre : ∀ vm₁, s.WarmedH vm₁ → Pre ⟨T.setVm vm₁, locs, cells, slots⟩ (Value.ref b :: argsL).toArray) :
    ∃ (v : Option Value) (vm₁ : Vm) (B : Pt), s.WarmedH vm₁ ∧ Stand p l e R s m args below meth c B.U B.locs B.cells B.slots ∧ Post ⟨T.setVm vm₁, locs, cells, slots⟩ (Value.ref b :: argsL).toArray v B ∧
      ∀ target, Steps p.tables e below (B.U.setTop { g with pc := g.pc + 3, stack := v.toList ++ rest }) target → Steps p.tables e below (T.setTop g) target := by
  obtain ⟨mk, methM, hnamed, hmethM, hstM, habM⟩ := Cond.instanceMethod_spec hinst
  obtain ⟨m8, methM', cM, hn8, hmethM', -, -, -, -, -, -, hsigM⟩ := Cond.codeWith_spec hcode
  cases Option.some.inj (hn8.symm.trans hnamed)
  cases hmethM.symm.trans hmethM'
  obtain ⟨c2, r2, m2, q1, q2, q3, q4, kP, hkP, hkPi⟩ := Cond.selects_spec hsel
  cases hcls.symm.trans q1
  cases (State.methodFound?_of_named hnamed hy).symm.trans q2
  cases hnamed.symm.trans q3
  have hselP : selectMethod e.platform s.vm cellB.cls mk = .method mk := by rw [Launch.admits_selectMethod X.admits]; exact q4
  obtain ⟨vm₁, X₁, hstep₁⟩ := X.invokevirtual hexec hown hlink hnamed hmethM hstM hkP hkPi hy (a := b) (cell := cellB) hcell
    (fun z h => by rw [h] at hobj; cases hobj) hselP hmethM habM hkP hkPi (g := g) hg (argsL := argsL) (rest := rest) (hlen _ hsigM) hstack hdg
  obtain ⟨v, B, X', hpost, hsteps⟩ := hK m meth c ⟨T.setVm vm₁, locs, cells, slots⟩ { g with stack := rest } (.invokevirtual index) mk (Value.ref b :: argsL).toArray X₁ hg hsize hdg hW (X₁.named hnamed) (hpre vm₁ X₁.warmed)
  exact ⟨v, vm₁, B, X₁.warmed, X', hpost, fun target h => hstep₁ _ fun acts => by rw [doInvoke_state]; exact hsteps.trans h⟩
abbrev vx_CVW (R : Room) (s : State) (args : Array Value) (own C : String) (index : Nat) (y : MethodName) (bytes : ByteArray) (maxL : Nat) (ret : Option FieldType) (hh : List (Nat × Nat × Nat × Nat)) (ws : List Cond) (rm : Room) (mc ms n : Nat) : Prop :=
  (rm.cells = mc ∧ rm.slots = ms ∧ rm.frames + 1 ≤ R.frames ∧ 8 + (maxL + 11) + rm.locals ≤ R.locals ∧ (∀ w ∈ ws, ∀ (a' : Array Value) (U : State), s.WarmedH U.vm → w.before a' U = true) ∧ Cond.codeWith y bytes maxL ret hh ∈ ws) ∧
  (Cond.codeWith y bytes maxL ret hh).before args s = true ∧ (Cond.initialized y.cls).before args s = true ∧ (y.cls ≠ "java/lang/invoke/MethodHandle" ∧ y.cls ≠ "java/lang/invoke/VarHandle") ∧
  (∀ sig, parseMethodDescriptor y.desc = some sig → n = sig.parameters.length) ∧ (Cond.methodLink own index y).before args s = true ∧ (Cond.instanceMethod y).before args s = true ∧ (Cond.selects C y y).before args s = true
theorem vx_cwVW {own C : String} {index maxL mc ms : Nat} {y : MethodName} {bytes : ByteArray} {ret : Option FieldType} {hh : List (Nat × Nat × Nat × Nat)} {Ts ws ws' : List Cond} {rm : Room} (n : Nat) (ht : ∀ w ∈ Ts, w.before args s = true) (hT : GoodIn Ts (wsV own index C y ws)) (hw : ws = Cond.codeWith y bytes maxL ret hh :: ws') (hrc : rm.cells = mc) (hrs : rm.slots = ms)
    (hd : y.cls = C ∧ y.cls ≠ "java/lang/invoke/MethodHandle" ∧ y.cls ≠ "java/lang/invoke/VarHandle" ∧ (parseMethodDescriptor y.desc).map (fun d => d.parameters.length) = some n) (hR : rm.frames + 1 ≤ R.frames ∧ 8 + (maxL + 11) + rm.locals ≤ R.locals) :
    vx_CVW R s args own C index y bytes maxL ret hh ws rm mc ms n := by
  obtain ⟨hC, hd⟩ := hd
  subst hC
  have ok : ∀ w ∈ wsV own index y.cls y ws, w.before args s = true := fun w h => ht w (hT w h).1
  have hG : GoodIn Ts ws := fun w h => hT w (by unfold wsV; exact List.mem_append_right _ h)
  have hc : Cond.codeWith y bytes maxL ret hh ∈ ws := by rw [hw]; exact List.mem_cons_self
  refine ⟨⟨hrc, hrs, hR.1, hR.2, pay_in ht hG, hc⟩, ht _ (hG _ hc).1, ok _ (by simp [wsV]), ⟨hd.1, hd.2.1⟩, fun sig h => ?_, ok _ (by simp [wsV]), ok _ (by simp [wsV]), ok _ (by simp [wsV])⟩
  have h2 := hd.2.2
  rw [h] at h2
  exact (Option.some.inj h2).symm
theorem vx_runVW {y : MethodName} {bytes cc : ByteArray} {maxL nL mc ms n index : Nat} {ret : Option FieldType} {hh : List (Nat × Nat × Nat × Nat)} {ws : List Cond} {rm : Room} {Pc : Array Value → State → Prop} {Qc : Array Value → State → Outcome → State → Prop} {free : Addr → Prop} {Ts : List Cond} {own C : String} {b : Addr} {As rest : List Value} {g : JFrame}
    (S : CallFix p m c cc nL s args Ts own) (hM : Met l y ws rm Pc Qc mc ms free) (cw : vx_CVW R s args own C index y bytes maxL ret hh ws rm mc ms n) (hp : PreV s H C b Pc As)
    (hg : g.method = m) (hn : As.length = n) (hsize : g.locals.size = nL) (hstack : g.stack = As.reverse ++ .ref b :: rest) (hW : 2 * g.monitorRoom + (rest.map fun v => v.category).sum ≤ 8) (hdg : decode cc g.pc = .ok (.invokevirtual index, 3)) (hf : cells + mc ≤ R.cells ∧ slots + ms ≤ R.slots) :
    va_Run p l e R s m args below meth c H locs cells slots mc ms g rest (Qc (Value.ref b :: As).toArray) free := by
  obtain ⟨⟨hrc, hrs, hfr, hlo, hws, hcw⟩, hcode, hini, hy, hlen, hl, hin, hse⟩ := cw
  have hK : Back l R p e below s args y 3 8 (PreOf R mc ms Pc) (PostOf Qc mc ms free) := va_backW (hh := hh) (bytes := bytes) (maxL := maxL) (ret := ret) hM hp.1 hrc hrs hfr hlo hws hcw (fun a' U hW => word_at hW (Or.inl (by first | rfl | simp [Cond.onTables, Cond.keeps, Cond.steady])) hini)
  obtain ⟨hx, hb, hml, ho, -⟩ := S
  obtain ⟨-, ⟨cellB, hcB, hoB, hclB⟩, hPc⟩ := hp
  intro T hT X
  obtain ⟨v, vm₁, ⟨U', l2, c2, s2⟩, hW₁, X', ⟨g', mk, t, L, e1, e2, hq, h1, hL, h2, h3⟩, st⟩ := vx_callVW X hx (C := C) (hh := hh) (bytes := bytes) (maxL := maxL) (ret := ret) ho hl hin hse hcode hy hK (by rw [hT]; exact hcB) hoB hclB hg (hsize.trans hml.symm) (argsL := As) (rest := rest) (fun sig h => hn.trans (hlen sig h)) hstack hW (by rw [hb]; exact hdg)
    (fun vm₁ hW₁ => ⟨hf.1, hf.2, hPc (T.setVm vm₁) hT hW₁⟩)
  dsimp only [Pt.U, Pt.locs, Pt.cells, Pt.slots] at X' e1 e2 h1 h2 h3 st
  subst h1; subst h2; subst h3
  exact ⟨v, (T.setVm vm₁).calling g' mk (Value.ref b :: As).toArray, t, U', L, hT, X', hL, e1, e2, hq, st⟩
section
variable {y : MethodName} {bytes cc : ByteArray} {maxL nL mc ms n index : Nat} {ret : Option FieldType} {ws : List Cond} {rm : Room} {Pc : Array Value → State → Prop} {Qc : Array Value → State → Outcome → State → Prop} {XC : String → State → State → Prop} {free : Addr → Prop} {Ts : List Cond} {own C : String} {b : Addr} {As rest : List Value} {g : JFrame}
theorem vx_runVX {hh : List (Nat × Nat × Nat × Nat)} (S : CallFix p m c cc nL s args Ts own) (hM : vx_Met l y ws rm Pc Qc XC mc ms free) (cw : vx_CVW R s args own C index y bytes maxL ret hh ws rm mc ms n) (hp : PreV s H C b Pc As)
    (hg : g.method = m) (hn : As.length = n) (hsize : g.locals.size = nL) (hstack : g.stack = As.reverse ++ .ref b :: rest) (hW : 2 * g.monitorRoom + (rest.map fun v => v.category).sum ≤ 8) (hdg : decode cc g.pc = .ok (.invokevirtual index, 3)) (hf : cells + mc ≤ R.cells ∧ slots + ms ≤ R.slots) :
    vx_Run p l e R s m args below meth c H locs cells slots mc ms g rest (Qc (Value.ref b :: As).toArray) XC free := by
  obtain ⟨⟨hrc, hrs, hfr, hlo, hws, hcw⟩, hcode, hini, hy, hlen, hl, hin, hse⟩ := cw
  have hK : vx_Back l R p e below s args y 3 8 (PreOf R mc ms Pc) (PostOf Qc mc ms free) (vx_Post XC mc ms free) := vx_backW (hh := hh) (bytes := bytes) (maxL := maxL) (ret := ret) hM hp.1 hrc hrs hfr hlo hws hcw (fun a' U hW => word_at hW (Or.inl (by first | rfl | simp [Cond.onTables, Cond.keeps, Cond.steady])) hini)
  obtain ⟨hx, hb, hml, ho, -⟩ := S
  obtain ⟨-, ⟨cellB, hcB, hoB, hclB⟩, hPc⟩ := hp
  intro T hT X
  rcases vx_callVX X hx (C := C) (hh := hh) (bytes := bytes) (maxL := maxL) (ret := ret) ho hl hin hse hcode hy hK (by rw [hT]; exact hcB) hoB hclB hg (hsize.trans hml.symm) (argsL := As) (rest := rest) (fun sig h => hn.trans (hlen sig h)) hstack hW (by rw [hb]; exact hdg)
    (fun vm₁ hW₁ => ⟨hf.1, hf.2, hPc (T.setVm vm₁) hT hW₁⟩) with ⟨v, vm₁, ⟨U', l2, c2, s2⟩, hW₁, X', ⟨g', mk, t, L, e1, e2, hq, h1, hL, h2, h3⟩, st⟩ | ⟨q, vm₁, ⟨U', l2, c2, s2⟩, hW₁, X', ⟨g', mk, t, L, E, ce, e1, e2, hq, hce, hcv, hcl, h1, hL, h2, h3⟩, st⟩
  · dsimp only [Pt.U, Pt.locs, Pt.cells, Pt.slots] at X' e1 e2 h1 h2 h3 st
    subst h1; subst h2; subst h3
    exact Or.inl ⟨v, (T.setVm vm₁).calling g' mk (Value.ref b :: As).toArray, t, U', L, hT, X', hL, e1, e2, hq, st⟩
  · dsimp only [Pt.U, Pt.locs, Pt.cells, Pt.slots] at X' e1 e2 h1 h2 h3 st hcl
    subst h1; subst h2; subst h3
    exact Or.inr ⟨q, (T.setVm vm₁).calling g' mk (Value.ref b :: As).toArray, t, U', L, E, ce, hT, X', hL, e1, e2, hq, hce, hcv, vx_cls hW₁ hcl, st⟩
theorem vx_runSX {hh : List (Nat × Nat × Nat × Nat)} (S : CallFix p m c cc nL s args Ts own) (hM : vx_Met l y ws rm Pc Qc XC mc ms free) (cw : vx_CSW R s args own index y bytes maxL ret hh ws rm mc ms n) (hp : PreS s H Pc As)
    (hg : g.method = m) (hn : As.length = n) (hsize : g.locals.size = nL) (hstack : g.stack = As.reverse ++ rest) (hW : 2 * g.monitorRoom + (rest.map fun v => v.category).sum ≤ 8) (hdg : decode cc g.pc = .ok (.invokestatic index, 3)) (hf : cells + mc ≤ R.cells ∧ slots + ms ≤ R.slots) :
    vx_Run p l e R s m args below meth c H locs cells slots mc ms g rest (Qc As.toArray) XC free := by
  obtain ⟨⟨hrc, hrs, hfr, hlo, hws, hcw⟩, hcode, hini, hy, hlen, hl, hstt⟩ := cw
  have hK : vx_Back l R p e below s args y 3 8 (PreOf R mc ms Pc) (PostOf Qc mc ms free) (vx_Post XC mc ms free) := vx_backW (hh := hh) (bytes := bytes) (maxL := maxL) (ret := ret) hM hp.1 hrc hrs hfr hlo hws hcw (fun a' U hW => word_at hW (Or.inl (by first | rfl | simp [Cond.onTables, Cond.keeps, Cond.steady])) hini)
  obtain ⟨hx, hb, hml, ho, -⟩ := S
  intro T hT X
  rcases vx_callSX X hx (hh := hh) (bytes := bytes) (maxL := maxL) (ret := ret) ho hl hstt hini hcode hy hK hg (hsize.trans hml.symm) (argsL := As) (rest := rest) (fun sig h => hn.trans (hlen sig h)) hstack hW (by rw [hb]; exact hdg)
    (fun vm₁ hW₁ => ⟨hf.1, hf.2, hp.2 (T.setVm vm₁) hT hW₁⟩) with ⟨v, vm₁, ⟨U', l2, c2, s2⟩, hW₁, X', ⟨g', mk, t, L, e1, e2, hq, h1, hL, h2, h3⟩, st⟩ | ⟨q, vm₁, ⟨U', l2, c2, s2⟩, hW₁, X', ⟨g', mk, t, L, E, ce, e1, e2, hq, hce, hcv, hcl, h1, hL, h2, h3⟩, st⟩
  · dsimp only [Pt.U, Pt.locs, Pt.cells, Pt.slots] at X' e1 e2 h1 h2 h3 st
    subst h1; subst h2; subst h3
    exact Or.inl ⟨v, (T.setVm vm₁).calling g' mk As.toArray, t, U', L, hT, X', hL, e1, e2, hq, st⟩
  · dsimp only [Pt.U, Pt.locs, Pt.cells, Pt.slots] at X' e1 e2 h1 h2 h3 st hcl
    subst h1; subst h2; subst h3
    exact Or.inr ⟨q, (T.setVm vm₁).calling g' mk As.toArray, t, U', L, E, ce, hT, X', hL, e1, e2, hq, hce, hcv, vx_cls hW₁ hcl, st⟩
end
end VXH
theorem vx_ofWH {l : Launch} {y : MethodName} {ws ws' : List Cond} {rm : Room} {Pc : Array Value → State → Prop} {Qc : Array Value → State → Outcome → State → Prop} {XC : String → State → State → Prop} {mc ms : Nat} {free : Addr → Prop} {cc : ByteArray} {maxL : Nat} {ret : Option FieldType} {hh : List (Nat × Nat × Nat × Nat)}
    (hy : plainName y.cls = true) (hw : ws = Cond.codeWith y cc maxL ret hh :: ws')
    (body : ∀ p e s m args below meth c s₁, BodyLoose p l y (headSpec ws rm) cc maxL ret e s m args below meth c s₁ → c.maxLocals = maxL → Pc args s →
      W p l e (headSpec ws rm).room s m args below meth c s.heap [] 0 0 (vx_MQ below Qc XC args s mc ms free) (entryFrame m args maxL)) : vx_Met l y ws rm Pc Qc XC mc ms free := by
  refine MetFree.of_bodyS (code := cc) (maxLocals := maxL) (ret := ret) hy ?_ ?_
  · intro args s m h hn
    obtain ⟨m9, meth, c, hn9, h1, h2, h3, h4, -, h5, h6, -⟩ := Cond.codeWith_spec (atoms_spec (ws := ws) h _ (by rw [hw]; exact List.mem_cons_self))
    cases hn.symm.trans hn9
    exact ⟨meth, c, h1, h2, h3, h4, h5, h6⟩
  · intro p e s m args below meth c s₁ B hml hP _
    have hh0 : s₁.heap = s.heap := by rw [B.state]; rfl
    obtain ⟨t, a1, o, b1, b2, b3⟩ := body p e s m args below meth c s₁ B hml hP s₁ hh0 (Stand.of_body B)
    exact ⟨t, o, a1, b1, b2, b3⟩
/-! ===== END ===== -/
end
section
/-! names: by my own program (mknames.py) out of javap's listing and the table of words -/
abbrev RX0 : String := "ProofBench"
def TX0 : u_T := fun k => match k with
  | 0 => ("ProofBench", "clauses", "[I", true)
  | 1 => ("ProofBench", "orders", "[J", true)
  | 2 => ("ProofBench", "there", "[Z", true)
  | 3 => ("ProofBench", "hints", "[I", true)
  | 4 => ("ProofBench", "clauseCount", "I", false)
  | 5 => ("ProofBench", "thereCount", "I", false)
  | 6 => ("ProofBench", "followedCount", "I", false)
  | 7 => ("ProofBench", "hintCount", "I", false)
  | 8 => ("ProofBench", "draft", "I", false)
  | _ => ("ProofBench", "draftOrder", "J", false)
def tyX0 : Nat → FieldType := fun k => match k with
  | 0 => .array .int
  | 1 => .array .long
  | 2 => .array .boolean
  | 3 => .array .int
  | 4 => .int
  | 5 => .int
  | 6 => .int
  | 7 => .int
  | 8 => .int
  | _ => .long
theorem nmX0 : ∀ a, a < 10 → ∀ b, b < 10 → a ≠ b → (TX0 a).2.1 ≠ (TX0 b).2.1 := by decide +kernel
theorem tyX0_ok : ∀ k, k < 10 → parseFieldDescriptor (TX0 k).2.2.1 = some (tyX0 k) := by decide +kernel
abbrev RX1 : String := "ProofBenchModel"
def TX1 : u_T := fun k => match k with
  | 0 => ("ProofBenchModel", "code", "I", false)
  | 1 => ("ProofBenchModel", "count", "I", false)
  | 2 => ("ProofBenchModel", "there", "I", false)
  | 3 => ("ProofBenchModel", "followed", "I", false)
  | 4 => ("ProofBenchModel", "strange", "I", false)
  | 5 => ("ProofBenchModel", "literals", "[I", true)
  | 6 => ("ProofBenchModel", "lengths", "[I", true)
  | 7 => ("ProofBenchModel", "size", "I", false)
  | 8 => ("ProofBenchModel", "draft", "[I", true)
  | 9 => ("ProofBenchModel", "hintCount", "I", false)
  | 10 => ("ProofBenchModel", "hints", "[I", true)
  | 11 => ("ProofBenchModel", "value", "[I", true)
  | 12 => ("ProofBenchModel", "models", "[J", true)
  | _ => ("ProofBenchModel", "low", "[J", true)
def tyX1 : Nat → FieldType := fun k => match k with
  | 0 => .int
  | 1 => .int
  | 2 => .int
  | 3 => .int
  | 4 => .int
  | 5 => .array .int
  | 6 => .array .int
  | 7 => .int
  | 8 => .array .int
  | 9 => .int
  | 10 => .array .int
  | 11 => .array .int
  | 12 => .array .long
  | _ => .array .long
theorem nmX1 : ∀ a, a < 14 → ∀ b, b < 14 → a ≠ b → (TX1 a).2.1 ≠ (TX1 b).2.1 := by decide +kernel
theorem tyX1_ok : ∀ k, k < 14 → parseFieldDescriptor (TX1 k).2.2.1 = some (tyX1 k) := by decide +kernel
abbrev RL : String := "ProofBenchLaw"
abbrev RJ6 : String := "java/lang/Integer"
abbrev cls2 : List vw_C := [(RX0, TX0, 10), (RX1, TX1, 14)]
/-- the words that the tables alone decide -/
def WB : List Cond := lw_tbl.filter goodWord
theorem WB_of {w : Cond} (h : w ∈ lw_tbl) (g : goodWord w = true) : w ∈ WB := List.mem_filter.mpr ⟨h, g⟩
theorem WB_t (i : Nat) {w : Cond} (h : tables_1[i]? = some w) (g : goodWord w = true) : w ∈ WB := WB_of (List.mem_append_right _ (List.mem_of_getElem? h)) g
theorem WB_s (i : Nat) {w : Cond} (h : (k2_sels lw_privs)[i]? = some w) (g : goodWord w = true) : w ∈ WB := WB_of (List.mem_append_left _ (List.mem_of_getElem? h)) g
theorem WB_lw : ∀ w ∈ WB, w ∈ lw_tbl := fun w h => (List.mem_filter.mp h).1
theorem WB_good : ∀ w ∈ WB, goodWord w = true := fun w h => (List.mem_filter.mp h).2
theorem gw_c {c2 : Cond} (h : c2 ∈ WB) : GoodIn WB (c2 :: WB) := fun w hw => (List.mem_cons.mp hw).elim (fun e => by rw [e]; exact ⟨h, good_of_word (WB_good _ h)⟩) (fun hw => ⟨hw, good_of_word (WB_good _ hw)⟩)
theorem gw_V {own C : String} {idx : Nat} {y : MethodName} {c2 : Cond} (h1 : Cond.methodLink own idx y ∈ WB) (h2 : Cond.instanceMethod y ∈ WB) (h3 : Cond.selects C y y ∈ WB) (h4 : Cond.initialized C ∈ WB) (h5 : c2 ∈ WB) : GoodIn WB (wsV own idx C y (c2 :: WB)) := by
  intro w hw
  rcases List.mem_append.mp hw with hw | hw
  · have hm : w ∈ WB := by
      rcases List.mem_cons.mp hw with e | hw
      · rw [e]; exact h1
      rcases List.mem_cons.mp hw with e | hw
      · rw [e]; exact h2
      rcases List.mem_cons.mp hw with e | hw
      · rw [e]; exact h3
      rcases List.mem_cons.mp hw with e | hw
      · rw [e]; exact h4
      · cases hw
    exact ⟨hm, good_of_word (WB_good _ hm)⟩
  · exact gw_c h5 w hw
theorem gw_S {own : String} {idx : Nat} {y : MethodName} {c2 : Cond} (h1 : Cond.methodLink own idx y ∈ WB) (h2 : Cond.static y ∈ WB) (h3 : Cond.initialized y.cls ∈ WB) (h5 : c2 ∈ WB) : GoodIn WB (va_wsS own idx y (c2 :: WB)) := by
  intro w hw
  rcases List.mem_append.mp hw with hw | hw
  · have hm : w ∈ WB := by
      rcases List.mem_cons.mp hw with e | hw
      · rw [e]; exact h1
      rcases List.mem_cons.mp hw with e | hw
      · rw [e]; exact h2
      rcases List.mem_cons.mp hw with e | hw
      · rw [e]; exact h3
      · cases hw
    exact ⟨hm, good_of_word (WB_good _ hm)⟩
  · exact gw_c h5 w hw
/-- the room of level n -/
abbrev rmN (n mc ms : Nat) : Room := { frames := n, cells := mc, slots := ms, locals := 40 * n }
abbrev cX0_init : ByteArray := prog_1_method_1_code
abbrev yX0_init : MethodName := ⟨"ProofBench", "<init>", "()V"⟩
abbrev wsX0_init : List Cond := .code yX0_init cX0_init 1 none :: WB
abbrev cX0_literal : ByteArray := prog_1_method_2_code
abbrev yX0_literal : MethodName := ⟨"ProofBench", "literal", "(I)I"⟩
abbrev wsX0_literal : List Cond := .code yX0_literal cX0_literal 4 (some .int) :: WB
abbrev cX0_hint : ByteArray := prog_1_method_3_code
abbrev yX0_hint : MethodName := ⟨"ProofBench", "hint", "(I)I"⟩
abbrev wsX0_hint : List Cond := .code yX0_hint cX0_hint 2 (some .int) :: WB
abbrev cX0_clear : ByteArray := prog_1_method_4_code
abbrev yX0_clear : MethodName := ⟨"ProofBench", "clear", "()I"⟩
abbrev wsX0_clear : List Cond := .code yX0_clear cX0_clear 2 (some .int) :: WB
abbrev cX0_give : ByteArray := prog_1_method_5_code
abbrev yX0_give : MethodName := ⟨"ProofBench", "give", "()I"⟩
abbrev wsX0_give : List Cond := .code yX0_give cX0_give 1 (some .int) :: WB
abbrev cX0_step : ByteArray := prog_1_method_6_code
abbrev yX0_step : MethodName := ⟨"ProofBench", "step", "()I"⟩
abbrev wsX0_step : List Cond := .code yX0_step cX0_step 1 (some .int) :: WB
abbrev cX0_along : ByteArray := prog_1_method_7_code
abbrev yX0_along : MethodName := ⟨"ProofBench", "along", "()I"⟩
abbrev wsX0_along : List Cond := .code yX0_along cX0_along 2 (some .int) :: WB
abbrev cX0_drop : ByteArray := prog_1_method_8_code
abbrev yX0_drop : MethodName := ⟨"ProofBench", "drop", "(I)I"⟩
abbrev wsX0_drop : List Cond := .code yX0_drop cX0_drop 2 (some .int) :: WB
abbrev cX0_at : ByteArray := prog_1_method_9_code
abbrev yX0_at : MethodName := ⟨"ProofBench", "at", "(II)I"⟩
abbrev wsX0_at : List Cond := .code yX0_at cX0_at 5 (some .int) :: WB
abbrev cX0_told : ByteArray := prog_1_method_10_code
abbrev yX0_told : MethodName := ⟨"ProofBench", "told", "()I"⟩
abbrev wsX0_told : List Cond := .code yX0_told cX0_told 5 (some .int) :: WB
abbrev cX0_isOver : ByteArray := prog_1_method_11_code
abbrev yX0_isOver : MethodName := ⟨"ProofBench", "isOver", "()Z"⟩
abbrev wsX0_isOver : List Cond := .code yX0_isOver cX0_isOver 2 (some .boolean) :: WB
abbrev cX0_wrong : ByteArray := prog_1_method_12_code
abbrev yX0_wrong : MethodName := ⟨"ProofBench", "wrong", "()I"⟩
abbrev wsX0_wrong : List Cond := .code yX0_wrong cX0_wrong 1 (some .int) :: WB
abbrev cX0_count : ByteArray := prog_1_method_13_code
abbrev yX0_count : MethodName := ⟨"ProofBench", "count", "(I)I"⟩
abbrev wsX0_count : List Cond := .code yX0_count cX0_count 2 (some .int) :: WB
abbrev cX0_bitOf : ByteArray := prog_1_method_14_code
abbrev yX0_bitOf : MethodName := ⟨"ProofBench", "bitOf", "(I)I"⟩
abbrev wsX0_bitOf : List Cond := .code yX0_bitOf cX0_bitOf 1 (some .int) :: WB
abbrev cX0_negated : ByteArray := prog_1_method_15_code
abbrev yX0_negated : MethodName := ⟨"ProofBench", "negated", "(I)I"⟩
abbrev wsX0_negated : List Cond := .code yX0_negated cX0_negated 1 (some .int) :: WB
abbrev cX0_sizeOf : ByteArray := prog_1_method_16_code
abbrev yX0_sizeOf : MethodName := ⟨"ProofBench", "sizeOf", "(I)I"⟩
abbrev wsX0_sizeOf : List Cond := .code yX0_sizeOf cX0_sizeOf 1 (some .int) :: WB
abbrev cX0_isWrong : ByteArray := prog_1_method_17_code
abbrev yX0_isWrong : MethodName := ⟨"ProofBench", "isWrong", "(II)Z"⟩
abbrev wsX0_isWrong : List Cond := .code yX0_isWrong cX0_isWrong 2 (some .boolean) :: WB
abbrev cX0_toldBy : ByteArray := prog_1_method_18_code
abbrev yX0_toldBy : MethodName := ⟨"ProofBench", "toldBy", "(II)I"⟩
abbrev wsX0_toldBy : List Cond := .code yX0_toldBy cX0_toldBy 4 (some .int) :: WB
abbrev cX0_firstBadHint : ByteArray := prog_1_method_19_code
abbrev yX0_firstBadHint : MethodName := ⟨"ProofBench", "firstBadHint", "()I"⟩
abbrev wsX0_firstBadHint : List Cond := .code yX0_firstBadHint cX0_firstBadHint 5 (some .int) :: WB
abbrev cX0_isThere : ByteArray := prog_1_method_20_code
abbrev yX0_isThere : MethodName := ⟨"ProofBench", "isThere", "(I)Z"⟩
abbrev wsX0_isThere : List Cond := .code yX0_isThere cX0_isThere 2 (some .boolean) :: WB
abbrev cX0_refuseIfNotThere : ByteArray := prog_1_method_21_code
abbrev yX0_refuseIfNotThere : MethodName := ⟨"ProofBench", "refuseIfNotThere", "(I)V"⟩
abbrev wsX0_refuseIfNotThere : List Cond := .code yX0_refuseIfNotThere cX0_refuseIfNotThere 2 none :: WB
abbrev cX0_refuseIfFull : ByteArray := prog_1_method_22_code
abbrev yX0_refuseIfFull : MethodName := ⟨"ProofBench", "refuseIfFull", "()V"⟩
abbrev wsX0_refuseIfFull : List Cond := .code yX0_refuseIfFull cX0_refuseIfFull 1 none :: WB
abbrev cX0_keepDraft : ByteArray := prog_1_method_23_code
abbrev yX0_keepDraft : MethodName := ⟨"ProofBench", "keepDraft", "()I"⟩
abbrev wsX0_keepDraft : List Cond := .code yX0_keepDraft cX0_keepDraft 2 (some .int) :: WB
abbrev cX0_emptyDraft : ByteArray := prog_1_method_24_code
abbrev yX0_emptyDraft : MethodName := ⟨"ProofBench", "emptyDraft", "()V"⟩
abbrev wsX0_emptyDraft : List Cond := .code yX0_emptyDraft cX0_emptyDraft 1 none :: WB
abbrev cX1_init : ByteArray := prog_3_method_1_code
abbrev yX1_init : MethodName := ⟨"ProofBenchModel", "<init>", "()V"⟩
abbrev wsX1_init : List Cond := .code yX1_init cX1_init 3 none :: WB
abbrev cX1_thrown : ByteArray := prog_3_method_2_code
abbrev yX1_thrown : MethodName := ⟨"ProofBenchModel", "thrown", "()I"⟩
abbrev wsX1_thrown : List Cond := .code yX1_thrown cX1_thrown 1 (some .int) :: WB
abbrev cX1_literal : ByteArray := prog_3_method_3_code
abbrev yX1_literal : MethodName := ⟨"ProofBenchModel", "literal", "(I)I"⟩
abbrev wsX1_literal : List Cond := .code yX1_literal cX1_literal 4 (some .int) :: WB
abbrev cX1_hint : ByteArray := prog_3_method_4_code
abbrev yX1_hint : MethodName := ⟨"ProofBenchModel", "hint", "(I)I"⟩
abbrev wsX1_hint : List Cond := .code yX1_hint cX1_hint 2 (some .int) :: WB
abbrev cX1_clear : ByteArray := prog_3_method_5_code
abbrev yX1_clear : MethodName := ⟨"ProofBenchModel", "clear", "()I"⟩
abbrev wsX1_clear : List Cond := .code yX1_clear cX1_clear 2 (some .int) :: WB
abbrev cX1_isThere : ByteArray := prog_3_method_6_code
abbrev yX1_isThere : MethodName := ⟨"ProofBenchModel", "isThere", "(I)Z"⟩
abbrev wsX1_isThere : List Cond := .code yX1_isThere cX1_isThere 2 (some .boolean) :: WB
abbrev cX1_add : ByteArray := prog_3_method_7_code
abbrev yX1_add : MethodName := ⟨"ProofBenchModel", "add", "()I"⟩
abbrev wsX1_add : List Cond := .code yX1_add cX1_add 2 (some .int) :: WB
abbrev cX1_truths : ByteArray := prog_3_method_8_code
abbrev yX1_truths : MethodName := ⟨"ProofBenchModel", "truths", "(II)J"⟩
abbrev wsX1_truths : List Cond := .code yX1_truths cX1_truths 3 (some .long) :: WB
abbrev cX1_trueIn : ByteArray := prog_3_method_9_code
abbrev yX1_trueIn : MethodName := ⟨"ProofBenchModel", "trueIn", "(I)J"⟩
abbrev wsX1_trueIn : List Cond := .code yX1_trueIn cX1_trueIn 6 (some .long) :: WB
abbrev cX1_give : ByteArray := prog_3_method_10_code
abbrev yX1_give : MethodName := ⟨"ProofBenchModel", "give", "()I"⟩
abbrev wsX1_give : List Cond := .code yX1_give cX1_give 2 (some .int) :: WB
abbrev cX1_accept : ByteArray := prog_3_method_11_code
abbrev yX1_accept : MethodName := ⟨"ProofBenchModel", "accept", "()I"⟩
abbrev wsX1_accept : List Cond := .code yX1_accept cX1_accept 3 (some .int) :: WB
abbrev cX1_of : ByteArray := prog_3_method_12_code
abbrev yX1_of : MethodName := ⟨"ProofBenchModel", "of", "(I)I"⟩
abbrev wsX1_of : List Cond := .code yX1_of cX1_of 3 (some .int) :: WB
abbrev cX1_tell : ByteArray := prog_3_method_13_code
abbrev yX1_tell : MethodName := ⟨"ProofBenchModel", "tell", "(I)V"⟩
abbrev wsX1_tell : List Cond := .code yX1_tell cX1_tell 2 none :: WB
abbrev cX1_setOut : ByteArray := prog_3_method_14_code
abbrev yX1_setOut : MethodName := ⟨"ProofBenchModel", "setOut", "()V"⟩
abbrev wsX1_setOut : List Cond := .code yX1_setOut cX1_setOut 2 none :: WB
abbrev cX1_says : ByteArray := prog_3_method_15_code
abbrev yX1_says : MethodName := ⟨"ProofBenchModel", "says", "(I)I"⟩
abbrev wsX1_says : List Cond := .code yX1_says cX1_says 5 (some .int) :: WB
abbrev cX1_follow : ByteArray := prog_3_method_16_code
abbrev yX1_follow : MethodName := ⟨"ProofBenchModel", "follow", "()I"⟩
abbrev wsX1_follow : List Cond := .code yX1_follow cX1_follow 5 (some .int) :: WB
abbrev cX1_step : ByteArray := prog_3_method_17_code
abbrev yX1_step : MethodName := ⟨"ProofBenchModel", "step", "()I"⟩
abbrev wsX1_step : List Cond := .code yX1_step cX1_step 1 (some .int) :: WB
abbrev cX1_along : ByteArray := prog_3_method_18_code
abbrev yX1_along : MethodName := ⟨"ProofBenchModel", "along", "()I"⟩
abbrev wsX1_along : List Cond := .code yX1_along cX1_along 3 (some .int) :: WB
abbrev cX1_drop : ByteArray := prog_3_method_19_code
abbrev yX1_drop : MethodName := ⟨"ProofBenchModel", "drop", "(I)I"⟩
abbrev wsX1_drop : List Cond := .code yX1_drop cX1_drop 3 (some .int) :: WB
abbrev cX1_at : ByteArray := prog_3_method_20_code
abbrev yX1_at : MethodName := ⟨"ProofBenchModel", "at", "(II)I"⟩
abbrev wsX1_at : List Cond := .code yX1_at cX1_at 3 (some .int) :: WB
abbrev cX1_told : ByteArray := prog_3_method_21_code
abbrev yX1_told : MethodName := ⟨"ProofBenchModel", "told", "()I"⟩
abbrev wsX1_told : List Cond := .code yX1_told cX1_told 1 (some .int) :: WB
abbrev cX1_isOver : ByteArray := prog_3_method_22_code
abbrev yX1_isOver : MethodName := ⟨"ProofBenchModel", "isOver", "()Z"⟩
abbrev wsX1_isOver : List Cond := .code yX1_isOver cX1_isOver 3 (some .boolean) :: WB
abbrev cX1_wrong : ByteArray := prog_3_method_23_code
abbrev yX1_wrong : MethodName := ⟨"ProofBenchModel", "wrong", "()I"⟩
abbrev wsX1_wrong : List Cond := .code yX1_wrong cX1_wrong 1 (some .int) :: WB
abbrev cX1_count : ByteArray := prog_3_method_24_code
abbrev yX1_count : MethodName := ⟨"ProofBenchModel", "count", "(I)I"⟩
abbrev wsX1_count : List Cond := .code yX1_count cX1_count 2 (some .int) :: WB
abbrev cL_literal : ByteArray := method_3_code
abbrev yL_literal : MethodName := ⟨"ProofBenchLaw", "literal", "(LProofBench;I[J)I"⟩
abbrev wsL_literal : List Cond := .codeWith yL_literal cL_literal 4 (some .int) [((0), 9, 12, 13)] :: WB
abbrev cL_hint : ByteArray := method_4_code
abbrev yL_hint : MethodName := ⟨"ProofBenchLaw", "hint", "(LProofBench;I[J)I"⟩
abbrev wsL_hint : List Cond := .codeWith yL_hint cL_hint 4 (some .int) [((0), 9, 12, 13), ((0), 9, 15, 18)] :: WB
abbrev cL_give : ByteArray := method_5_code
abbrev yL_give : MethodName := ⟨"ProofBenchLaw", "give", "(LProofBench;[J)I"⟩
abbrev wsL_give : List Cond := .codeWith yL_give cL_give 3 (some .int) [((0), 8, 11, 18)] :: WB
abbrev cL_step : ByteArray := method_6_code
abbrev yL_step : MethodName := ⟨"ProofBenchLaw", "step", "(LProofBench;[J)I"⟩
abbrev wsL_step : List Cond := .codeWith yL_step cL_step 3 (some .int) [((0), 8, 11, 18)] :: WB
abbrev cL_along : ByteArray := method_7_code
abbrev yL_along : MethodName := ⟨"ProofBenchLaw", "along", "(LProofBench;[J)I"⟩
abbrev wsL_along : List Cond := .codeWith yL_along cL_along 3 (some .int) [((0), 8, 11, 18)] :: WB
abbrev cL_drop : ByteArray := method_8_code
abbrev yL_drop : MethodName := ⟨"ProofBenchLaw", "drop", "(LProofBench;I[J)I"⟩
abbrev wsL_drop : List Cond := .codeWith yL_drop cL_drop 4 (some .int) [((0), 9, 12, 13)] :: WB
abbrev cL_at : ByteArray := method_9_code
abbrev yL_at : MethodName := ⟨"ProofBenchLaw", "at", "(LProofBench;II[J)I"⟩
abbrev wsL_at : List Cond := .codeWith yL_at cL_at 5 (some .int) [((0), 10, 13, 13)] :: WB
abbrev cL_count : ByteArray := method_10_code
abbrev yL_count : MethodName := ⟨"ProofBenchLaw", "count", "(LProofBench;I[J)I"⟩
abbrev wsL_count : List Cond := .codeWith yL_count cL_count 4 (some .int) [((0), 9, 12, 13)] :: WB
abbrev cL_law : ByteArray := code
abbrev yL_law : MethodName := ⟨"ProofBenchLaw", "law", "([I)Z"⟩
abbrev cJ6_bitCount : ByteArray := prog_7_method_49_code
abbrev yJ6_bitCount : MethodName := ⟨"java/lang/Integer", "bitCount", "(I)I"⟩
abbrev wsJ6_bitCount : List Cond := .code yJ6_bitCount cJ6_bitCount 1 (some .int) :: WB
end
section
theorem wb_0 : Cond.initialized "ProofBenchLaw" ∈ WB := WB_t 0 (by decide +kernel) (by decide +kernel)
theorem wb_1 : Cond.initialized "ProofBench" ∈ WB := WB_t 1 (by decide +kernel) (by decide +kernel)
theorem wb_2 : Cond.initialized "ProofBenchModel" ∈ WB := WB_t 2 (by decide +kernel) (by decide +kernel)
theorem wb_3 : Cond.initialized "java/lang/Throwable" ∈ WB := WB_t 3 (by decide +kernel) (by decide +kernel)
theorem wb_4 : Cond.initialized "java/lang/Exception" ∈ WB := WB_t 4 (by decide +kernel) (by decide +kernel)
theorem wb_5 : Cond.initialized "java/lang/RuntimeException" ∈ WB := WB_t 5 (by decide +kernel) (by decide +kernel)
theorem wb_6 : Cond.initialized "java/lang/IllegalArgumentException" ∈ WB := WB_t 6 (by decide +kernel) (by decide +kernel)
theorem wb_7 : Cond.initialized "java/lang/Integer" ∈ WB := WB_t 7 (by decide +kernel) (by decide +kernel)
theorem wb_8 : Cond.initialized "java/lang/IllegalStateException" ∈ WB := WB_t 8 (by decide +kernel) (by decide +kernel)
theorem wb_9 : Cond.classLink "ProofBenchLaw" 8 "ProofBench" ∈ WB := WB_t 9 (by decide +kernel) (by decide +kernel)
theorem wb_10 : Cond.instantiable "ProofBench" 10 ∈ WB := WB_t 10 (by decide +kernel) (by decide +kernel)
theorem wb_11 : Cond.methodLink "ProofBenchLaw" 40 ⟨"ProofBench", "<init>", "()V"⟩ ∈ WB := WB_t 11 (by decide +kernel) (by decide +kernel)
theorem wb_12 : Cond.instanceMethod ⟨"ProofBench", "<init>", "()V"⟩ ∈ WB := WB_t 12 (by decide +kernel) (by decide +kernel)
theorem wb_13 : Cond.code ⟨"ProofBench", "<init>", "()V"⟩ prog_1_method_1_code 1 (Option.none : Option FieldType) ∈ WB := WB_t 13 (by decide +kernel) (by decide +kernel)
theorem wb_14 : Cond.methodLink "ProofBench" 1 ⟨"java/lang/Object", "<init>", "()V"⟩ ∈ WB := WB_t 14 (by decide +kernel) (by decide +kernel)
theorem wb_15 : Cond.instanceMethod ⟨"java/lang/Object", "<init>", "()V"⟩ ∈ WB := WB_t 15 (by decide +kernel) (by decide +kernel)
theorem wb_16 : Cond.code ⟨"java/lang/Object", "<init>", "()V"⟩ object_method_1_code 1 (Option.none : Option FieldType) ∈ WB := WB_t 16 (by decide +kernel) (by decide +kernel)
theorem wb_17 : Cond.fieldLink "ProofBench" 9 "ProofBench" "clauses" "[I" ∈ WB := WB_t 17 (by decide +kernel) (by decide +kernel)
theorem wb_18 : Cond.fieldLink "ProofBench" 13 "ProofBench" "orders" "[J" ∈ WB := WB_t 18 (by decide +kernel) (by decide +kernel)
theorem wb_19 : Cond.fieldLink "ProofBench" 17 "ProofBench" "there" "[Z" ∈ WB := WB_t 19 (by decide +kernel) (by decide +kernel)
theorem wb_20 : Cond.fieldLink "ProofBench" 21 "ProofBench" "hints" "[I" ∈ WB := WB_t 20 (by decide +kernel) (by decide +kernel)
theorem wb_21 : Cond.fieldLink "ProofBench" 91 "ProofBench" "clauseCount" "I" ∈ WB := WB_t 21 (by decide +kernel) (by decide +kernel)
theorem wb_22 : Cond.fieldLink "ProofBench" 84 "ProofBench" "thereCount" "I" ∈ WB := WB_t 22 (by decide +kernel) (by decide +kernel)
theorem wb_23 : Cond.fieldLink "ProofBench" 74 "ProofBench" "followedCount" "I" ∈ WB := WB_t 23 (by decide +kernel) (by decide +kernel)
theorem wb_24 : Cond.fieldLink "ProofBench" 53 "ProofBench" "hintCount" "I" ∈ WB := WB_t 24 (by decide +kernel) (by decide +kernel)
theorem wb_25 : Cond.fieldLink "ProofBench" 35 "ProofBench" "draft" "I" ∈ WB := WB_t 25 (by decide +kernel) (by decide +kernel)
theorem wb_26 : Cond.fieldLink "ProofBench" 44 "ProofBench" "draftOrder" "J" ∈ WB := WB_t 26 (by decide +kernel) (by decide +kernel)
theorem wb_27 : Cond.laysFinal "ProofBench" "ProofBench" "clauses" "[I" ∈ WB := WB_t 27 (by decide +kernel) (by decide +kernel)
theorem wb_29 : Cond.laysFinal "ProofBench" "ProofBench" "orders" "[J" ∈ WB := WB_t 29 (by decide +kernel) (by decide +kernel)
theorem wb_31 : Cond.laysFinal "ProofBench" "ProofBench" "there" "[Z" ∈ WB := WB_t 31 (by decide +kernel) (by decide +kernel)
theorem wb_33 : Cond.laysFinal "ProofBench" "ProofBench" "hints" "[I" ∈ WB := WB_t 33 (by decide +kernel) (by decide +kernel)
theorem wb_35 : Cond.lays "ProofBench" "ProofBench" "clauseCount" "I" ∈ WB := WB_t 35 (by decide +kernel) (by decide +kernel)
theorem wb_37 : Cond.lays "ProofBench" "ProofBench" "thereCount" "I" ∈ WB := WB_t 37 (by decide +kernel) (by decide +kernel)
theorem wb_39 : Cond.lays "ProofBench" "ProofBench" "followedCount" "I" ∈ WB := WB_t 39 (by decide +kernel) (by decide +kernel)
theorem wb_41 : Cond.lays "ProofBench" "ProofBench" "hintCount" "I" ∈ WB := WB_t 41 (by decide +kernel) (by decide +kernel)
theorem wb_43 : Cond.lays "ProofBench" "ProofBench" "draft" "I" ∈ WB := WB_t 43 (by decide +kernel) (by decide +kernel)
theorem wb_45 : Cond.lays "ProofBench" "ProofBench" "draftOrder" "J" ∈ WB := WB_t 45 (by decide +kernel) (by decide +kernel)
theorem wb_48 : Cond.arrayClass FieldType.int ∈ WB := WB_t 48 (by decide +kernel) (by decide +kernel)
theorem wb_49 : Cond.arrayClass FieldType.long ∈ WB := WB_t 49 (by decide +kernel) (by decide +kernel)
theorem wb_50 : Cond.arrayClass FieldType.boolean ∈ WB := WB_t 50 (by decide +kernel) (by decide +kernel)
theorem wb_51 : Cond.methodLink "ProofBenchLaw" 56 ⟨"ProofBench", "clear", "()I"⟩ ∈ WB := WB_t 51 (by decide +kernel) (by decide +kernel)
theorem wb_52 : Cond.instanceMethod ⟨"ProofBench", "clear", "()I"⟩ ∈ WB := WB_t 52 (by decide +kernel) (by decide +kernel)
theorem wb_53 : Cond.selects "ProofBench" ⟨"ProofBench", "clear", "()I"⟩ ⟨"ProofBench", "clear", "()I"⟩ ∈ WB := WB_t 53 (by decide +kernel) (by decide +kernel)
theorem wb_54 : Cond.code ⟨"ProofBench", "clear", "()I"⟩ prog_1_method_4_code 2 (Option.some FieldType.int) ∈ WB := WB_t 54 (by decide +kernel) (by decide +kernel)
theorem wb_55 : Cond.methodLink "ProofBench" 48 ⟨"ProofBench", "sizeOf", "(I)I"⟩ ∈ WB := WB_t 55 (by decide +kernel) (by decide +kernel)
theorem wb_56 : Cond.static ⟨"ProofBench", "sizeOf", "(I)I"⟩ ∈ WB := WB_t 56 (by decide +kernel) (by decide +kernel)
theorem wb_57 : Cond.code ⟨"ProofBench", "sizeOf", "(I)I"⟩ prog_1_method_16_code 1 (Option.some FieldType.int) ∈ WB := WB_t 57 (by decide +kernel) (by decide +kernel)
theorem wb_58 : Cond.methodLink "ProofBench" 104 ⟨"java/lang/Integer", "bitCount", "(I)I"⟩ ∈ WB := WB_t 58 (by decide +kernel) (by decide +kernel)
theorem wb_59 : Cond.static ⟨"java/lang/Integer", "bitCount", "(I)I"⟩ ∈ WB := WB_t 59 (by decide +kernel) (by decide +kernel)
theorem wb_60 : Cond.code ⟨"java/lang/Integer", "bitCount", "(I)I"⟩ prog_7_method_49_code 1 (Option.some FieldType.int) ∈ WB := WB_t 60 (by decide +kernel) (by decide +kernel)
theorem wb_61 : Cond.constant "java/lang/Integer" 265 (1431655765 : Int32) ∈ WB := WB_t 61 (by decide +kernel) (by decide +kernel)
theorem wb_62 : Cond.constant "java/lang/Integer" 266 (858993459 : Int32) ∈ WB := WB_t 62 (by decide +kernel) (by decide +kernel)
theorem wb_63 : Cond.constant "java/lang/Integer" 267 (252645135 : Int32) ∈ WB := WB_t 63 (by decide +kernel) (by decide +kernel)
theorem wb_64 : Cond.methodLink "ProofBench" 61 ⟨"ProofBench", "emptyDraft", "()V"⟩ ∈ WB := WB_t 64 (by decide +kernel) (by decide +kernel)
theorem wb_66 : Cond.instanceMethod ⟨"ProofBench", "emptyDraft", "()V"⟩ ∈ WB := WB_t 66 (by decide +kernel) (by decide +kernel)
theorem wb_67 : Cond.code ⟨"ProofBench", "emptyDraft", "()V"⟩ prog_1_method_24_code 1 (Option.none : Option FieldType) ∈ WB := WB_t 67 (by decide +kernel) (by decide +kernel)
theorem wb_68 : Cond.methodLink "ProofBenchLaw" 77 ⟨"ProofBench", "told", "()I"⟩ ∈ WB := WB_t 68 (by decide +kernel) (by decide +kernel)
theorem wb_69 : Cond.instanceMethod ⟨"ProofBench", "told", "()I"⟩ ∈ WB := WB_t 69 (by decide +kernel) (by decide +kernel)
theorem wb_70 : Cond.selects "ProofBench" ⟨"ProofBench", "told", "()I"⟩ ⟨"ProofBench", "told", "()I"⟩ ∈ WB := WB_t 70 (by decide +kernel) (by decide +kernel)
theorem wb_71 : Cond.code ⟨"ProofBench", "told", "()I"⟩ prog_1_method_10_code 5 (Option.some FieldType.int) ∈ WB := WB_t 71 (by decide +kernel) (by decide +kernel)
theorem wb_72 : Cond.methodLink "ProofBench" 94 ⟨"ProofBench", "isWrong", "(II)Z"⟩ ∈ WB := WB_t 72 (by decide +kernel) (by decide +kernel)
theorem wb_73 : Cond.static ⟨"ProofBench", "isWrong", "(II)Z"⟩ ∈ WB := WB_t 73 (by decide +kernel) (by decide +kernel)
theorem wb_74 : Cond.code ⟨"ProofBench", "isWrong", "(II)Z"⟩ prog_1_method_17_code 2 (Option.some FieldType.boolean) ∈ WB := WB_t 74 (by decide +kernel) (by decide +kernel)
theorem wb_75 : Cond.methodLink "ProofBench" 98 ⟨"ProofBench", "toldBy", "(II)I"⟩ ∈ WB := WB_t 75 (by decide +kernel) (by decide +kernel)
theorem wb_76 : Cond.static ⟨"ProofBench", "toldBy", "(II)I"⟩ ∈ WB := WB_t 76 (by decide +kernel) (by decide +kernel)
theorem wb_77 : Cond.code ⟨"ProofBench", "toldBy", "(II)I"⟩ prog_1_method_18_code 4 (Option.some FieldType.int) ∈ WB := WB_t 77 (by decide +kernel) (by decide +kernel)
theorem wb_78 : Cond.methodLink "ProofBench" 39 ⟨"ProofBench", "negated", "(I)I"⟩ ∈ WB := WB_t 78 (by decide +kernel) (by decide +kernel)
theorem wb_79 : Cond.static ⟨"ProofBench", "negated", "(I)I"⟩ ∈ WB := WB_t 79 (by decide +kernel) (by decide +kernel)
theorem wb_80 : Cond.code ⟨"ProofBench", "negated", "(I)I"⟩ prog_1_method_15_code 1 (Option.some FieldType.int) ∈ WB := WB_t 80 (by decide +kernel) (by decide +kernel)
theorem wb_81 : Cond.methodLink "ProofBenchLaw" 81 ⟨"ProofBench", "isOver", "()Z"⟩ ∈ WB := WB_t 81 (by decide +kernel) (by decide +kernel)
theorem wb_82 : Cond.instanceMethod ⟨"ProofBench", "isOver", "()Z"⟩ ∈ WB := WB_t 82 (by decide +kernel) (by decide +kernel)
theorem wb_83 : Cond.selects "ProofBench" ⟨"ProofBench", "isOver", "()Z"⟩ ⟨"ProofBench", "isOver", "()Z"⟩ ∈ WB := WB_t 83 (by decide +kernel) (by decide +kernel)
theorem wb_84 : Cond.code ⟨"ProofBench", "isOver", "()Z"⟩ prog_1_method_11_code 2 (Option.some FieldType.boolean) ∈ WB := WB_t 84 (by decide +kernel) (by decide +kernel)
theorem wb_85 : Cond.methodLink "ProofBenchLaw" 86 ⟨"ProofBench", "wrong", "()I"⟩ ∈ WB := WB_t 85 (by decide +kernel) (by decide +kernel)
theorem wb_86 : Cond.instanceMethod ⟨"ProofBench", "wrong", "()I"⟩ ∈ WB := WB_t 86 (by decide +kernel) (by decide +kernel)
theorem wb_87 : Cond.selects "ProofBench" ⟨"ProofBench", "wrong", "()I"⟩ ⟨"ProofBench", "wrong", "()I"⟩ ∈ WB := WB_t 87 (by decide +kernel) (by decide +kernel)
theorem wb_88 : Cond.code ⟨"ProofBench", "wrong", "()I"⟩ prog_1_method_12_code 1 (Option.some FieldType.int) ∈ WB := WB_t 88 (by decide +kernel) (by decide +kernel)
theorem wb_89 : Cond.methodLink "ProofBenchLaw" 44 ⟨"ProofBenchLaw", "literal", "(LProofBench;I[J)I"⟩ ∈ WB := WB_t 89 (by decide +kernel) (by decide +kernel)
theorem wb_90 : Cond.static ⟨"ProofBenchLaw", "literal", "(LProofBench;I[J)I"⟩ ∈ WB := WB_t 90 (by decide +kernel) (by decide +kernel)
theorem wb_91 : Cond.codeWith ⟨"ProofBenchLaw", "literal", "(LProofBench;I[J)I"⟩ method_3_code 4 (Option.some FieldType.int) [((0), 9, 12, 13)] ∈ WB := WB_t 91 (by decide +kernel) (by decide +kernel)
theorem wb_92 : Cond.classLink "ProofBenchLaw" 13 "java/lang/IllegalArgumentException" ∈ WB := WB_t 92 (by decide +kernel) (by decide +kernel)
theorem wb_93 : Cond.methodLink "ProofBenchLaw" 7 ⟨"ProofBench", "literal", "(I)I"⟩ ∈ WB := WB_t 93 (by decide +kernel) (by decide +kernel)
theorem wb_94 : Cond.instanceMethod ⟨"ProofBench", "literal", "(I)I"⟩ ∈ WB := WB_t 94 (by decide +kernel) (by decide +kernel)
theorem wb_95 : Cond.selects "ProofBench" ⟨"ProofBench", "literal", "(I)I"⟩ ⟨"ProofBench", "literal", "(I)I"⟩ ∈ WB := WB_t 95 (by decide +kernel) (by decide +kernel)
theorem wb_96 : Cond.code ⟨"ProofBench", "literal", "(I)I"⟩ prog_1_method_2_code 4 (Option.some FieldType.int) ∈ WB := WB_t 96 (by decide +kernel) (by decide +kernel)
theorem wb_97 : Cond.classLink "ProofBench" 24 "java/lang/IllegalArgumentException" ∈ WB := WB_t 97 (by decide +kernel) (by decide +kernel)
theorem wb_116 : Cond.lays "java/lang/IllegalArgumentException" "java/lang/Throwable" "backtrace" "Ljava/lang/Object;" ∈ WB := WB_t 116 (by decide +kernel) (by decide +kernel)
theorem wb_117 : Cond.lays "java/lang/Throwable" "java/lang/Throwable" "backtrace" "Ljava/lang/Object;" ∈ WB := WB_t 117 (by decide +kernel) (by decide +kernel)
theorem wb_118 : Cond.fieldLink "java/lang/Throwable" 198 "java/lang/Throwable" "backtrace" "Ljava/lang/Object;" ∈ WB := WB_t 118 (by decide +kernel) (by decide +kernel)
theorem wb_122 : Cond.methodLink "java/lang/Throwable" 1 ⟨"java/lang/Object", "<init>", "()V"⟩ ∈ WB := WB_t 122 (by decide +kernel) (by decide +kernel)
theorem wb_163 : Cond.arrayClass FieldType.byte ∈ WB := WB_t 163 (by decide +kernel) (by decide +kernel)
theorem wb_164 : Cond.methodLink "ProofBench" 31 ⟨"ProofBench", "bitOf", "(I)I"⟩ ∈ WB := WB_t 164 (by decide +kernel) (by decide +kernel)
theorem wb_165 : Cond.static ⟨"ProofBench", "bitOf", "(I)I"⟩ ∈ WB := WB_t 165 (by decide +kernel) (by decide +kernel)
theorem wb_166 : Cond.code ⟨"ProofBench", "bitOf", "(I)I"⟩ prog_1_method_14_code 1 (Option.some FieldType.int) ∈ WB := WB_t 166 (by decide +kernel) (by decide +kernel)
theorem wb_168 : Cond.methodLink "ProofBenchLaw" 53 ⟨"ProofBenchLaw", "hint", "(LProofBench;I[J)I"⟩ ∈ WB := WB_t 168 (by decide +kernel) (by decide +kernel)
theorem wb_169 : Cond.static ⟨"ProofBenchLaw", "hint", "(LProofBench;I[J)I"⟩ ∈ WB := WB_t 169 (by decide +kernel) (by decide +kernel)
theorem wb_170 : Cond.codeWith ⟨"ProofBenchLaw", "hint", "(LProofBench;I[J)I"⟩ method_4_code 4 (Option.some FieldType.int) [((0), 9, 12, 13), ((0), 9, 15, 18)] ∈ WB := WB_t 170 (by decide +kernel) (by decide +kernel)
theorem wb_171 : Cond.classLink "ProofBenchLaw" 18 "java/lang/IllegalStateException" ∈ WB := WB_t 171 (by decide +kernel) (by decide +kernel)
theorem wb_172 : Cond.methodLink "ProofBenchLaw" 15 ⟨"ProofBench", "hint", "(I)I"⟩ ∈ WB := WB_t 172 (by decide +kernel) (by decide +kernel)
theorem wb_173 : Cond.instanceMethod ⟨"ProofBench", "hint", "(I)I"⟩ ∈ WB := WB_t 173 (by decide +kernel) (by decide +kernel)
theorem wb_174 : Cond.selects "ProofBench" ⟨"ProofBench", "hint", "(I)I"⟩ ⟨"ProofBench", "hint", "(I)I"⟩ ∈ WB := WB_t 174 (by decide +kernel) (by decide +kernel)
theorem wb_175 : Cond.code ⟨"ProofBench", "hint", "(I)I"⟩ prog_1_method_3_code 2 (Option.some FieldType.int) ∈ WB := WB_t 175 (by decide +kernel) (by decide +kernel)
theorem wb_177 : Cond.classLink "ProofBench" 56 "java/lang/IllegalStateException" ∈ WB := WB_t 177 (by decide +kernel) (by decide +kernel)
theorem wb_185 : Cond.lays "java/lang/IllegalStateException" "java/lang/Throwable" "backtrace" "Ljava/lang/Object;" ∈ WB := WB_t 185 (by decide +kernel) (by decide +kernel)
theorem wb_193 : Cond.methodLink "ProofBenchLaw" 60 ⟨"ProofBenchLaw", "give", "(LProofBench;[J)I"⟩ ∈ WB := WB_t 193 (by decide +kernel) (by decide +kernel)
theorem wb_194 : Cond.static ⟨"ProofBenchLaw", "give", "(LProofBench;[J)I"⟩ ∈ WB := WB_t 194 (by decide +kernel) (by decide +kernel)
theorem wb_195 : Cond.codeWith ⟨"ProofBenchLaw", "give", "(LProofBench;[J)I"⟩ method_5_code 3 (Option.some FieldType.int) [((0), 8, 11, 18)] ∈ WB := WB_t 195 (by decide +kernel) (by decide +kernel)
theorem wb_196 : Cond.methodLink "ProofBenchLaw" 20 ⟨"ProofBench", "give", "()I"⟩ ∈ WB := WB_t 196 (by decide +kernel) (by decide +kernel)
theorem wb_197 : Cond.instanceMethod ⟨"ProofBench", "give", "()I"⟩ ∈ WB := WB_t 197 (by decide +kernel) (by decide +kernel)
theorem wb_198 : Cond.selects "ProofBench" ⟨"ProofBench", "give", "()I"⟩ ⟨"ProofBench", "give", "()I"⟩ ∈ WB := WB_t 198 (by decide +kernel) (by decide +kernel)
theorem wb_199 : Cond.code ⟨"ProofBench", "give", "()I"⟩ prog_1_method_5_code 1 (Option.some FieldType.int) ∈ WB := WB_t 199 (by decide +kernel) (by decide +kernel)
theorem wb_200 : Cond.methodLink "ProofBench" 64 ⟨"ProofBench", "refuseIfFull", "()V"⟩ ∈ WB := WB_t 200 (by decide +kernel) (by decide +kernel)
theorem wb_202 : Cond.instanceMethod ⟨"ProofBench", "refuseIfFull", "()V"⟩ ∈ WB := WB_t 202 (by decide +kernel) (by decide +kernel)
theorem wb_203 : Cond.code ⟨"ProofBench", "refuseIfFull", "()V"⟩ prog_1_method_22_code 1 (Option.none : Option FieldType) ∈ WB := WB_t 203 (by decide +kernel) (by decide +kernel)
theorem wb_205 : Cond.methodLink "ProofBench" 67 ⟨"ProofBench", "keepDraft", "()I"⟩ ∈ WB := WB_t 205 (by decide +kernel) (by decide +kernel)
theorem wb_207 : Cond.instanceMethod ⟨"ProofBench", "keepDraft", "()I"⟩ ∈ WB := WB_t 207 (by decide +kernel) (by decide +kernel)
theorem wb_208 : Cond.code ⟨"ProofBench", "keepDraft", "()I"⟩ prog_1_method_23_code 2 (Option.some FieldType.int) ∈ WB := WB_t 208 (by decide +kernel) (by decide +kernel)
theorem wb_209 : Cond.methodLink "ProofBenchLaw" 64 ⟨"ProofBenchLaw", "step", "(LProofBench;[J)I"⟩ ∈ WB := WB_t 209 (by decide +kernel) (by decide +kernel)
theorem wb_210 : Cond.static ⟨"ProofBenchLaw", "step", "(LProofBench;[J)I"⟩ ∈ WB := WB_t 210 (by decide +kernel) (by decide +kernel)
theorem wb_211 : Cond.codeWith ⟨"ProofBenchLaw", "step", "(LProofBench;[J)I"⟩ method_6_code 3 (Option.some FieldType.int) [((0), 8, 11, 18)] ∈ WB := WB_t 211 (by decide +kernel) (by decide +kernel)
theorem wb_212 : Cond.methodLink "ProofBenchLaw" 24 ⟨"ProofBench", "step", "()I"⟩ ∈ WB := WB_t 212 (by decide +kernel) (by decide +kernel)
theorem wb_213 : Cond.instanceMethod ⟨"ProofBench", "step", "()I"⟩ ∈ WB := WB_t 213 (by decide +kernel) (by decide +kernel)
theorem wb_214 : Cond.selects "ProofBench" ⟨"ProofBench", "step", "()I"⟩ ⟨"ProofBench", "step", "()I"⟩ ∈ WB := WB_t 214 (by decide +kernel) (by decide +kernel)
theorem wb_215 : Cond.code ⟨"ProofBench", "step", "()I"⟩ prog_1_method_6_code 1 (Option.some FieldType.int) ∈ WB := WB_t 215 (by decide +kernel) (by decide +kernel)
theorem wb_216 : Cond.methodLink "ProofBench" 71 ⟨"ProofBench", "told", "()I"⟩ ∈ WB := WB_t 216 (by decide +kernel) (by decide +kernel)
theorem wb_217 : Cond.methodLink "ProofBenchLaw" 67 ⟨"ProofBenchLaw", "along", "(LProofBench;[J)I"⟩ ∈ WB := WB_t 217 (by decide +kernel) (by decide +kernel)
theorem wb_218 : Cond.static ⟨"ProofBenchLaw", "along", "(LProofBench;[J)I"⟩ ∈ WB := WB_t 218 (by decide +kernel) (by decide +kernel)
theorem wb_219 : Cond.codeWith ⟨"ProofBenchLaw", "along", "(LProofBench;[J)I"⟩ method_7_code 3 (Option.some FieldType.int) [((0), 8, 11, 18)] ∈ WB := WB_t 219 (by decide +kernel) (by decide +kernel)
theorem wb_220 : Cond.methodLink "ProofBenchLaw" 27 ⟨"ProofBench", "along", "()I"⟩ ∈ WB := WB_t 220 (by decide +kernel) (by decide +kernel)
theorem wb_221 : Cond.instanceMethod ⟨"ProofBench", "along", "()I"⟩ ∈ WB := WB_t 221 (by decide +kernel) (by decide +kernel)
theorem wb_222 : Cond.selects "ProofBench" ⟨"ProofBench", "along", "()I"⟩ ⟨"ProofBench", "along", "()I"⟩ ∈ WB := WB_t 222 (by decide +kernel) (by decide +kernel)
theorem wb_223 : Cond.code ⟨"ProofBench", "along", "()I"⟩ prog_1_method_7_code 2 (Option.some FieldType.int) ∈ WB := WB_t 223 (by decide +kernel) (by decide +kernel)
theorem wb_224 : Cond.methodLink "ProofBench" 77 ⟨"ProofBench", "firstBadHint", "()I"⟩ ∈ WB := WB_t 224 (by decide +kernel) (by decide +kernel)
theorem wb_226 : Cond.instanceMethod ⟨"ProofBench", "firstBadHint", "()I"⟩ ∈ WB := WB_t 226 (by decide +kernel) (by decide +kernel)
theorem wb_227 : Cond.code ⟨"ProofBench", "firstBadHint", "()I"⟩ prog_1_method_19_code 5 (Option.some FieldType.int) ∈ WB := WB_t 227 (by decide +kernel) (by decide +kernel)
theorem wb_228 : Cond.methodLink "ProofBench" 109 ⟨"ProofBench", "isThere", "(I)Z"⟩ ∈ WB := WB_t 228 (by decide +kernel) (by decide +kernel)
theorem wb_230 : Cond.instanceMethod ⟨"ProofBench", "isThere", "(I)Z"⟩ ∈ WB := WB_t 230 (by decide +kernel) (by decide +kernel)
theorem wb_231 : Cond.code ⟨"ProofBench", "isThere", "(I)Z"⟩ prog_1_method_20_code 2 (Option.some FieldType.boolean) ∈ WB := WB_t 231 (by decide +kernel) (by decide +kernel)
theorem wb_232 : Cond.methodLink "ProofBenchLaw" 70 ⟨"ProofBenchLaw", "drop", "(LProofBench;I[J)I"⟩ ∈ WB := WB_t 232 (by decide +kernel) (by decide +kernel)
theorem wb_233 : Cond.static ⟨"ProofBenchLaw", "drop", "(LProofBench;I[J)I"⟩ ∈ WB := WB_t 233 (by decide +kernel) (by decide +kernel)
theorem wb_234 : Cond.codeWith ⟨"ProofBenchLaw", "drop", "(LProofBench;I[J)I"⟩ method_8_code 4 (Option.some FieldType.int) [((0), 9, 12, 13)] ∈ WB := WB_t 234 (by decide +kernel) (by decide +kernel)
theorem wb_235 : Cond.methodLink "ProofBenchLaw" 30 ⟨"ProofBench", "drop", "(I)I"⟩ ∈ WB := WB_t 235 (by decide +kernel) (by decide +kernel)
theorem wb_236 : Cond.instanceMethod ⟨"ProofBench", "drop", "(I)I"⟩ ∈ WB := WB_t 236 (by decide +kernel) (by decide +kernel)
theorem wb_237 : Cond.selects "ProofBench" ⟨"ProofBench", "drop", "(I)I"⟩ ⟨"ProofBench", "drop", "(I)I"⟩ ∈ WB := WB_t 237 (by decide +kernel) (by decide +kernel)
theorem wb_238 : Cond.code ⟨"ProofBench", "drop", "(I)I"⟩ prog_1_method_8_code 2 (Option.some FieldType.int) ∈ WB := WB_t 238 (by decide +kernel) (by decide +kernel)
theorem wb_239 : Cond.methodLink "ProofBench" 80 ⟨"ProofBench", "refuseIfNotThere", "(I)V"⟩ ∈ WB := WB_t 239 (by decide +kernel) (by decide +kernel)
theorem wb_241 : Cond.instanceMethod ⟨"ProofBench", "refuseIfNotThere", "(I)V"⟩ ∈ WB := WB_t 241 (by decide +kernel) (by decide +kernel)
theorem wb_242 : Cond.code ⟨"ProofBench", "refuseIfNotThere", "(I)V"⟩ prog_1_method_21_code 2 (Option.none : Option FieldType) ∈ WB := WB_t 242 (by decide +kernel) (by decide +kernel)
theorem wb_244 : Cond.methodLink "ProofBenchLaw" 73 ⟨"ProofBenchLaw", "at", "(LProofBench;II[J)I"⟩ ∈ WB := WB_t 244 (by decide +kernel) (by decide +kernel)
theorem wb_245 : Cond.static ⟨"ProofBenchLaw", "at", "(LProofBench;II[J)I"⟩ ∈ WB := WB_t 245 (by decide +kernel) (by decide +kernel)
theorem wb_246 : Cond.codeWith ⟨"ProofBenchLaw", "at", "(LProofBench;II[J)I"⟩ method_9_code 5 (Option.some FieldType.int) [((0), 10, 13, 13)] ∈ WB := WB_t 246 (by decide +kernel) (by decide +kernel)
theorem wb_247 : Cond.methodLink "ProofBenchLaw" 33 ⟨"ProofBench", "at", "(II)I"⟩ ∈ WB := WB_t 247 (by decide +kernel) (by decide +kernel)
theorem wb_248 : Cond.instanceMethod ⟨"ProofBench", "at", "(II)I"⟩ ∈ WB := WB_t 248 (by decide +kernel) (by decide +kernel)
theorem wb_249 : Cond.selects "ProofBench" ⟨"ProofBench", "at", "(II)I"⟩ ⟨"ProofBench", "at", "(II)I"⟩ ∈ WB := WB_t 249 (by decide +kernel) (by decide +kernel)
theorem wb_250 : Cond.code ⟨"ProofBench", "at", "(II)I"⟩ prog_1_method_9_code 5 (Option.some FieldType.int) ∈ WB := WB_t 250 (by decide +kernel) (by decide +kernel)
theorem wb_252 : Cond.constantLong "ProofBench" 89 (15 : Int64) ∈ WB := WB_t 252 (by decide +kernel) (by decide +kernel)
theorem wb_253 : Cond.methodLink "ProofBenchLaw" 90 ⟨"ProofBenchLaw", "count", "(LProofBench;I[J)I"⟩ ∈ WB := WB_t 253 (by decide +kernel) (by decide +kernel)
theorem wb_254 : Cond.static ⟨"ProofBenchLaw", "count", "(LProofBench;I[J)I"⟩ ∈ WB := WB_t 254 (by decide +kernel) (by decide +kernel)
theorem wb_255 : Cond.codeWith ⟨"ProofBenchLaw", "count", "(LProofBench;I[J)I"⟩ method_10_code 4 (Option.some FieldType.int) [((0), 9, 12, 13)] ∈ WB := WB_t 255 (by decide +kernel) (by decide +kernel)
theorem wb_256 : Cond.methodLink "ProofBenchLaw" 37 ⟨"ProofBench", "count", "(I)I"⟩ ∈ WB := WB_t 256 (by decide +kernel) (by decide +kernel)
theorem wb_257 : Cond.instanceMethod ⟨"ProofBench", "count", "(I)I"⟩ ∈ WB := WB_t 257 (by decide +kernel) (by decide +kernel)
theorem wb_258 : Cond.selects "ProofBench" ⟨"ProofBench", "count", "(I)I"⟩ ⟨"ProofBench", "count", "(I)I"⟩ ∈ WB := WB_t 258 (by decide +kernel) (by decide +kernel)
theorem wb_259 : Cond.code ⟨"ProofBench", "count", "(I)I"⟩ prog_1_method_13_code 2 (Option.some FieldType.int) ∈ WB := WB_t 259 (by decide +kernel) (by decide +kernel)
theorem wb_261 : Cond.classLink "ProofBenchLaw" 41 "ProofBenchModel" ∈ WB := WB_t 261 (by decide +kernel) (by decide +kernel)
theorem wb_262 : Cond.instantiable "ProofBenchModel" 14 ∈ WB := WB_t 262 (by decide +kernel) (by decide +kernel)
theorem wb_263 : Cond.methodLink "ProofBenchLaw" 43 ⟨"ProofBenchModel", "<init>", "()V"⟩ ∈ WB := WB_t 263 (by decide +kernel) (by decide +kernel)
theorem wb_264 : Cond.instanceMethod ⟨"ProofBenchModel", "<init>", "()V"⟩ ∈ WB := WB_t 264 (by decide +kernel) (by decide +kernel)
theorem wb_265 : Cond.code ⟨"ProofBenchModel", "<init>", "()V"⟩ prog_3_method_1_code 3 (Option.none : Option FieldType) ∈ WB := WB_t 265 (by decide +kernel) (by decide +kernel)
theorem wb_266 : Cond.methodLink "ProofBenchModel" 1 ⟨"java/lang/Object", "<init>", "()V"⟩ ∈ WB := WB_t 266 (by decide +kernel) (by decide +kernel)
theorem wb_267 : Cond.constantLong "ProofBenchModel" 32 (-1 : Int64) ∈ WB := WB_t 267 (by decide +kernel) (by decide +kernel)
theorem wb_268 : Cond.fieldLink "ProofBenchModel" 34 "ProofBenchModel" "code" "I" ∈ WB := WB_t 268 (by decide +kernel) (by decide +kernel)
theorem wb_269 : Cond.fieldLink "ProofBenchModel" 44 "ProofBenchModel" "count" "I" ∈ WB := WB_t 269 (by decide +kernel) (by decide +kernel)
theorem wb_270 : Cond.fieldLink "ProofBenchModel" 47 "ProofBenchModel" "there" "I" ∈ WB := WB_t 270 (by decide +kernel) (by decide +kernel)
theorem wb_271 : Cond.fieldLink "ProofBenchModel" 65 "ProofBenchModel" "followed" "I" ∈ WB := WB_t 271 (by decide +kernel) (by decide +kernel)
theorem wb_272 : Cond.fieldLink "ProofBenchModel" 62 "ProofBenchModel" "strange" "I" ∈ WB := WB_t 272 (by decide +kernel) (by decide +kernel)
theorem wb_273 : Cond.fieldLink "ProofBenchModel" 7 "ProofBenchModel" "literals" "[I" ∈ WB := WB_t 273 (by decide +kernel) (by decide +kernel)
theorem wb_274 : Cond.fieldLink "ProofBenchModel" 13 "ProofBenchModel" "lengths" "[I" ∈ WB := WB_t 274 (by decide +kernel) (by decide +kernel)
theorem wb_275 : Cond.fieldLink "ProofBenchModel" 38 "ProofBenchModel" "size" "I" ∈ WB := WB_t 275 (by decide +kernel) (by decide +kernel)
theorem wb_276 : Cond.fieldLink "ProofBenchModel" 16 "ProofBenchModel" "draft" "[I" ∈ WB := WB_t 276 (by decide +kernel) (by decide +kernel)
theorem wb_277 : Cond.fieldLink "ProofBenchModel" 41 "ProofBenchModel" "hintCount" "I" ∈ WB := WB_t 277 (by decide +kernel) (by decide +kernel)
theorem wb_278 : Cond.fieldLink "ProofBenchModel" 19 "ProofBenchModel" "hints" "[I" ∈ WB := WB_t 278 (by decide +kernel) (by decide +kernel)
theorem wb_279 : Cond.fieldLink "ProofBenchModel" 22 "ProofBenchModel" "value" "[I" ∈ WB := WB_t 279 (by decide +kernel) (by decide +kernel)
theorem wb_280 : Cond.fieldLink "ProofBenchModel" 25 "ProofBenchModel" "models" "[J" ∈ WB := WB_t 280 (by decide +kernel) (by decide +kernel)
theorem wb_281 : Cond.fieldLink "ProofBenchModel" 29 "ProofBenchModel" "low" "[J" ∈ WB := WB_t 281 (by decide +kernel) (by decide +kernel)
theorem wb_282 : Cond.lays "ProofBenchModel" "ProofBenchModel" "code" "I" ∈ WB := WB_t 282 (by decide +kernel) (by decide +kernel)
theorem wb_284 : Cond.lays "ProofBenchModel" "ProofBenchModel" "count" "I" ∈ WB := WB_t 284 (by decide +kernel) (by decide +kernel)
theorem wb_286 : Cond.lays "ProofBenchModel" "ProofBenchModel" "there" "I" ∈ WB := WB_t 286 (by decide +kernel) (by decide +kernel)
theorem wb_288 : Cond.lays "ProofBenchModel" "ProofBenchModel" "followed" "I" ∈ WB := WB_t 288 (by decide +kernel) (by decide +kernel)
theorem wb_290 : Cond.lays "ProofBenchModel" "ProofBenchModel" "strange" "I" ∈ WB := WB_t 290 (by decide +kernel) (by decide +kernel)
theorem wb_292 : Cond.laysFinal "ProofBenchModel" "ProofBenchModel" "literals" "[I" ∈ WB := WB_t 292 (by decide +kernel) (by decide +kernel)
theorem wb_294 : Cond.laysFinal "ProofBenchModel" "ProofBenchModel" "lengths" "[I" ∈ WB := WB_t 294 (by decide +kernel) (by decide +kernel)
theorem wb_296 : Cond.lays "ProofBenchModel" "ProofBenchModel" "size" "I" ∈ WB := WB_t 296 (by decide +kernel) (by decide +kernel)
theorem wb_298 : Cond.laysFinal "ProofBenchModel" "ProofBenchModel" "draft" "[I" ∈ WB := WB_t 298 (by decide +kernel) (by decide +kernel)
theorem wb_300 : Cond.lays "ProofBenchModel" "ProofBenchModel" "hintCount" "I" ∈ WB := WB_t 300 (by decide +kernel) (by decide +kernel)
theorem wb_302 : Cond.laysFinal "ProofBenchModel" "ProofBenchModel" "hints" "[I" ∈ WB := WB_t 302 (by decide +kernel) (by decide +kernel)
theorem wb_304 : Cond.laysFinal "ProofBenchModel" "ProofBenchModel" "value" "[I" ∈ WB := WB_t 304 (by decide +kernel) (by decide +kernel)
theorem wb_306 : Cond.laysFinal "ProofBenchModel" "ProofBenchModel" "models" "[J" ∈ WB := WB_t 306 (by decide +kernel) (by decide +kernel)
theorem wb_308 : Cond.laysFinal "ProofBenchModel" "ProofBenchModel" "low" "[J" ∈ WB := WB_t 308 (by decide +kernel) (by decide +kernel)
theorem wb_311 : Cond.methodLink "ProofBenchLaw" 50 ⟨"ProofBenchModel", "thrown", "()I"⟩ ∈ WB := WB_t 311 (by decide +kernel) (by decide +kernel)
theorem wb_312 : Cond.instanceMethod ⟨"ProofBenchModel", "thrown", "()I"⟩ ∈ WB := WB_t 312 (by decide +kernel) (by decide +kernel)
theorem wb_313 : Cond.selects "ProofBenchModel" ⟨"ProofBenchModel", "thrown", "()I"⟩ ⟨"ProofBenchModel", "thrown", "()I"⟩ ∈ WB := WB_t 313 (by decide +kernel) (by decide +kernel)
theorem wb_314 : Cond.code ⟨"ProofBenchModel", "thrown", "()I"⟩ prog_3_method_2_code 1 (Option.some FieldType.int) ∈ WB := WB_t 314 (by decide +kernel) (by decide +kernel)
theorem wb_315 : Cond.methodLink "ProofBenchLaw" 49 ⟨"ProofBenchModel", "literal", "(I)I"⟩ ∈ WB := WB_t 315 (by decide +kernel) (by decide +kernel)
theorem wb_316 : Cond.instanceMethod ⟨"ProofBenchModel", "literal", "(I)I"⟩ ∈ WB := WB_t 316 (by decide +kernel) (by decide +kernel)
theorem wb_317 : Cond.selects "ProofBenchModel" ⟨"ProofBenchModel", "literal", "(I)I"⟩ ⟨"ProofBenchModel", "literal", "(I)I"⟩ ∈ WB := WB_t 317 (by decide +kernel) (by decide +kernel)
theorem wb_318 : Cond.code ⟨"ProofBenchModel", "literal", "(I)I"⟩ prog_3_method_3_code 4 (Option.some FieldType.int) ∈ WB := WB_t 318 (by decide +kernel) (by decide +kernel)
theorem wb_319 : Cond.methodLink "ProofBenchLaw" 55 ⟨"ProofBenchModel", "hint", "(I)I"⟩ ∈ WB := WB_t 319 (by decide +kernel) (by decide +kernel)
theorem wb_320 : Cond.instanceMethod ⟨"ProofBenchModel", "hint", "(I)I"⟩ ∈ WB := WB_t 320 (by decide +kernel) (by decide +kernel)
theorem wb_321 : Cond.selects "ProofBenchModel" ⟨"ProofBenchModel", "hint", "(I)I"⟩ ⟨"ProofBenchModel", "hint", "(I)I"⟩ ∈ WB := WB_t 321 (by decide +kernel) (by decide +kernel)
theorem wb_322 : Cond.code ⟨"ProofBenchModel", "hint", "(I)I"⟩ prog_3_method_4_code 2 (Option.some FieldType.int) ∈ WB := WB_t 322 (by decide +kernel) (by decide +kernel)
theorem wb_323 : Cond.methodLink "ProofBenchLaw" 59 ⟨"ProofBenchModel", "clear", "()I"⟩ ∈ WB := WB_t 323 (by decide +kernel) (by decide +kernel)
theorem wb_324 : Cond.instanceMethod ⟨"ProofBenchModel", "clear", "()I"⟩ ∈ WB := WB_t 324 (by decide +kernel) (by decide +kernel)
theorem wb_325 : Cond.selects "ProofBenchModel" ⟨"ProofBenchModel", "clear", "()I"⟩ ⟨"ProofBenchModel", "clear", "()I"⟩ ∈ WB := WB_t 325 (by decide +kernel) (by decide +kernel)
theorem wb_326 : Cond.code ⟨"ProofBenchModel", "clear", "()I"⟩ prog_3_method_5_code 2 (Option.some FieldType.int) ∈ WB := WB_t 326 (by decide +kernel) (by decide +kernel)
theorem wb_327 : Cond.methodLink "ProofBenchLaw" 63 ⟨"ProofBenchModel", "give", "()I"⟩ ∈ WB := WB_t 327 (by decide +kernel) (by decide +kernel)
theorem wb_328 : Cond.instanceMethod ⟨"ProofBenchModel", "give", "()I"⟩ ∈ WB := WB_t 328 (by decide +kernel) (by decide +kernel)
theorem wb_329 : Cond.selects "ProofBenchModel" ⟨"ProofBenchModel", "give", "()I"⟩ ⟨"ProofBenchModel", "give", "()I"⟩ ∈ WB := WB_t 329 (by decide +kernel) (by decide +kernel)
theorem wb_330 : Cond.code ⟨"ProofBenchModel", "give", "()I"⟩ prog_3_method_10_code 2 (Option.some FieldType.int) ∈ WB := WB_t 330 (by decide +kernel) (by decide +kernel)
theorem wb_331 : Cond.methodLink "ProofBenchModel" 54 ⟨"ProofBenchModel", "trueIn", "(I)J"⟩ ∈ WB := WB_t 331 (by decide +kernel) (by decide +kernel)
theorem wb_333 : Cond.instanceMethod ⟨"ProofBenchModel", "trueIn", "(I)J"⟩ ∈ WB := WB_t 333 (by decide +kernel) (by decide +kernel)
theorem wb_334 : Cond.code ⟨"ProofBenchModel", "trueIn", "(I)J"⟩ prog_3_method_9_code 6 (Option.some FieldType.long) ∈ WB := WB_t 334 (by decide +kernel) (by decide +kernel)
theorem wb_335 : Cond.methodLink "ProofBenchModel" 50 ⟨"ProofBenchModel", "truths", "(II)J"⟩ ∈ WB := WB_t 335 (by decide +kernel) (by decide +kernel)
theorem wb_337 : Cond.instanceMethod ⟨"ProofBenchModel", "truths", "(II)J"⟩ ∈ WB := WB_t 337 (by decide +kernel) (by decide +kernel)
theorem wb_338 : Cond.code ⟨"ProofBenchModel", "truths", "(II)J"⟩ prog_3_method_8_code 3 (Option.some FieldType.long) ∈ WB := WB_t 338 (by decide +kernel) (by decide +kernel)
theorem wb_339 : Cond.methodLink "ProofBenchModel" 58 ⟨"ProofBenchModel", "add", "()I"⟩ ∈ WB := WB_t 339 (by decide +kernel) (by decide +kernel)
theorem wb_341 : Cond.instanceMethod ⟨"ProofBenchModel", "add", "()I"⟩ ∈ WB := WB_t 341 (by decide +kernel) (by decide +kernel)
theorem wb_342 : Cond.code ⟨"ProofBenchModel", "add", "()I"⟩ prog_3_method_7_code 2 (Option.some FieldType.int) ∈ WB := WB_t 342 (by decide +kernel) (by decide +kernel)
theorem wb_343 : Cond.methodLink "ProofBenchLaw" 66 ⟨"ProofBenchModel", "step", "()I"⟩ ∈ WB := WB_t 343 (by decide +kernel) (by decide +kernel)
theorem wb_344 : Cond.instanceMethod ⟨"ProofBenchModel", "step", "()I"⟩ ∈ WB := WB_t 344 (by decide +kernel) (by decide +kernel)
theorem wb_345 : Cond.selects "ProofBenchModel" ⟨"ProofBenchModel", "step", "()I"⟩ ⟨"ProofBenchModel", "step", "()I"⟩ ∈ WB := WB_t 345 (by decide +kernel) (by decide +kernel)
theorem wb_346 : Cond.code ⟨"ProofBenchModel", "step", "()I"⟩ prog_3_method_17_code 1 (Option.some FieldType.int) ∈ WB := WB_t 346 (by decide +kernel) (by decide +kernel)
theorem wb_347 : Cond.methodLink "ProofBenchModel" 82 ⟨"ProofBenchModel", "follow", "()I"⟩ ∈ WB := WB_t 347 (by decide +kernel) (by decide +kernel)
theorem wb_349 : Cond.instanceMethod ⟨"ProofBenchModel", "follow", "()I"⟩ ∈ WB := WB_t 349 (by decide +kernel) (by decide +kernel)
theorem wb_350 : Cond.code ⟨"ProofBenchModel", "follow", "()I"⟩ prog_3_method_16_code 5 (Option.some FieldType.int) ∈ WB := WB_t 350 (by decide +kernel) (by decide +kernel)
theorem wb_351 : Cond.methodLink "ProofBenchModel" 76 ⟨"ProofBenchModel", "setOut", "()V"⟩ ∈ WB := WB_t 351 (by decide +kernel) (by decide +kernel)
theorem wb_353 : Cond.instanceMethod ⟨"ProofBenchModel", "setOut", "()V"⟩ ∈ WB := WB_t 353 (by decide +kernel) (by decide +kernel)
theorem wb_354 : Cond.code ⟨"ProofBenchModel", "setOut", "()V"⟩ prog_3_method_14_code 2 (Option.none : Option FieldType) ∈ WB := WB_t 354 (by decide +kernel) (by decide +kernel)
theorem wb_355 : Cond.methodLink "ProofBenchModel" 68 ⟨"ProofBenchModel", "tell", "(I)V"⟩ ∈ WB := WB_t 355 (by decide +kernel) (by decide +kernel)
theorem wb_357 : Cond.instanceMethod ⟨"ProofBenchModel", "tell", "(I)V"⟩ ∈ WB := WB_t 357 (by decide +kernel) (by decide +kernel)
theorem wb_358 : Cond.code ⟨"ProofBenchModel", "tell", "(I)V"⟩ prog_3_method_13_code 2 (Option.none : Option FieldType) ∈ WB := WB_t 358 (by decide +kernel) (by decide +kernel)
theorem wb_359 : Cond.methodLink "ProofBenchModel" 79 ⟨"ProofBenchModel", "says", "(I)I"⟩ ∈ WB := WB_t 359 (by decide +kernel) (by decide +kernel)
theorem wb_361 : Cond.instanceMethod ⟨"ProofBenchModel", "says", "(I)I"⟩ ∈ WB := WB_t 361 (by decide +kernel) (by decide +kernel)
theorem wb_362 : Cond.code ⟨"ProofBenchModel", "says", "(I)I"⟩ prog_3_method_15_code 5 (Option.some FieldType.int) ∈ WB := WB_t 362 (by decide +kernel) (by decide +kernel)
theorem wb_363 : Cond.methodLink "ProofBenchModel" 72 ⟨"ProofBenchModel", "of", "(I)I"⟩ ∈ WB := WB_t 363 (by decide +kernel) (by decide +kernel)
theorem wb_365 : Cond.instanceMethod ⟨"ProofBenchModel", "of", "(I)I"⟩ ∈ WB := WB_t 365 (by decide +kernel) (by decide +kernel)
theorem wb_366 : Cond.code ⟨"ProofBenchModel", "of", "(I)I"⟩ prog_3_method_12_code 3 (Option.some FieldType.int) ∈ WB := WB_t 366 (by decide +kernel) (by decide +kernel)
theorem wb_367 : Cond.methodLink "ProofBenchModel" 85 ⟨"ProofBenchModel", "accept", "()I"⟩ ∈ WB := WB_t 367 (by decide +kernel) (by decide +kernel)
theorem wb_369 : Cond.instanceMethod ⟨"ProofBenchModel", "accept", "()I"⟩ ∈ WB := WB_t 369 (by decide +kernel) (by decide +kernel)
theorem wb_370 : Cond.code ⟨"ProofBenchModel", "accept", "()I"⟩ prog_3_method_11_code 3 (Option.some FieldType.int) ∈ WB := WB_t 370 (by decide +kernel) (by decide +kernel)
theorem wb_371 : Cond.methodLink "ProofBenchLaw" 69 ⟨"ProofBenchModel", "along", "()I"⟩ ∈ WB := WB_t 371 (by decide +kernel) (by decide +kernel)
theorem wb_372 : Cond.instanceMethod ⟨"ProofBenchModel", "along", "()I"⟩ ∈ WB := WB_t 372 (by decide +kernel) (by decide +kernel)
theorem wb_373 : Cond.selects "ProofBenchModel" ⟨"ProofBenchModel", "along", "()I"⟩ ⟨"ProofBenchModel", "along", "()I"⟩ ∈ WB := WB_t 373 (by decide +kernel) (by decide +kernel)
theorem wb_374 : Cond.code ⟨"ProofBenchModel", "along", "()I"⟩ prog_3_method_18_code 3 (Option.some FieldType.int) ∈ WB := WB_t 374 (by decide +kernel) (by decide +kernel)
theorem wb_375 : Cond.methodLink "ProofBenchModel" 88 ⟨"ProofBenchModel", "isThere", "(I)Z"⟩ ∈ WB := WB_t 375 (by decide +kernel) (by decide +kernel)
theorem wb_377 : Cond.instanceMethod ⟨"ProofBenchModel", "isThere", "(I)Z"⟩ ∈ WB := WB_t 377 (by decide +kernel) (by decide +kernel)
theorem wb_378 : Cond.code ⟨"ProofBenchModel", "isThere", "(I)Z"⟩ prog_3_method_6_code 2 (Option.some FieldType.boolean) ∈ WB := WB_t 378 (by decide +kernel) (by decide +kernel)
theorem wb_379 : Cond.methodLink "ProofBenchLaw" 72 ⟨"ProofBenchModel", "drop", "(I)I"⟩ ∈ WB := WB_t 379 (by decide +kernel) (by decide +kernel)
theorem wb_380 : Cond.instanceMethod ⟨"ProofBenchModel", "drop", "(I)I"⟩ ∈ WB := WB_t 380 (by decide +kernel) (by decide +kernel)
theorem wb_381 : Cond.selects "ProofBenchModel" ⟨"ProofBenchModel", "drop", "(I)I"⟩ ⟨"ProofBenchModel", "drop", "(I)I"⟩ ∈ WB := WB_t 381 (by decide +kernel) (by decide +kernel)
theorem wb_382 : Cond.code ⟨"ProofBenchModel", "drop", "(I)I"⟩ prog_3_method_19_code 3 (Option.some FieldType.int) ∈ WB := WB_t 382 (by decide +kernel) (by decide +kernel)
theorem wb_383 : Cond.methodLink "ProofBenchLaw" 76 ⟨"ProofBenchModel", "at", "(II)I"⟩ ∈ WB := WB_t 383 (by decide +kernel) (by decide +kernel)
theorem wb_384 : Cond.instanceMethod ⟨"ProofBenchModel", "at", "(II)I"⟩ ∈ WB := WB_t 384 (by decide +kernel) (by decide +kernel)
theorem wb_385 : Cond.selects "ProofBenchModel" ⟨"ProofBenchModel", "at", "(II)I"⟩ ⟨"ProofBenchModel", "at", "(II)I"⟩ ∈ WB := WB_t 385 (by decide +kernel) (by decide +kernel)
theorem wb_386 : Cond.code ⟨"ProofBenchModel", "at", "(II)I"⟩ prog_3_method_20_code 3 (Option.some FieldType.int) ∈ WB := WB_t 386 (by decide +kernel) (by decide +kernel)
theorem wb_387 : Cond.methodLink "ProofBenchLaw" 80 ⟨"ProofBenchModel", "told", "()I"⟩ ∈ WB := WB_t 387 (by decide +kernel) (by decide +kernel)
theorem wb_388 : Cond.instanceMethod ⟨"ProofBenchModel", "told", "()I"⟩ ∈ WB := WB_t 388 (by decide +kernel) (by decide +kernel)
theorem wb_389 : Cond.selects "ProofBenchModel" ⟨"ProofBenchModel", "told", "()I"⟩ ⟨"ProofBenchModel", "told", "()I"⟩ ∈ WB := WB_t 389 (by decide +kernel) (by decide +kernel)
theorem wb_390 : Cond.code ⟨"ProofBenchModel", "told", "()I"⟩ prog_3_method_21_code 1 (Option.some FieldType.int) ∈ WB := WB_t 390 (by decide +kernel) (by decide +kernel)
theorem wb_391 : Cond.methodLink "ProofBenchLaw" 85 ⟨"ProofBenchModel", "isOver", "()Z"⟩ ∈ WB := WB_t 391 (by decide +kernel) (by decide +kernel)
theorem wb_392 : Cond.instanceMethod ⟨"ProofBenchModel", "isOver", "()Z"⟩ ∈ WB := WB_t 392 (by decide +kernel) (by decide +kernel)
theorem wb_393 : Cond.selects "ProofBenchModel" ⟨"ProofBenchModel", "isOver", "()Z"⟩ ⟨"ProofBenchModel", "isOver", "()Z"⟩ ∈ WB := WB_t 393 (by decide +kernel) (by decide +kernel)
theorem wb_394 : Cond.code ⟨"ProofBenchModel", "isOver", "()Z"⟩ prog_3_method_22_code 3 (Option.some FieldType.boolean) ∈ WB := WB_t 394 (by decide +kernel) (by decide +kernel)
theorem wb_395 : Cond.methodLink "ProofBenchLaw" 89 ⟨"ProofBenchModel", "wrong", "()I"⟩ ∈ WB := WB_t 395 (by decide +kernel) (by decide +kernel)
theorem wb_396 : Cond.instanceMethod ⟨"ProofBenchModel", "wrong", "()I"⟩ ∈ WB := WB_t 396 (by decide +kernel) (by decide +kernel)
theorem wb_397 : Cond.selects "ProofBenchModel" ⟨"ProofBenchModel", "wrong", "()I"⟩ ⟨"ProofBenchModel", "wrong", "()I"⟩ ∈ WB := WB_t 397 (by decide +kernel) (by decide +kernel)
theorem wb_398 : Cond.code ⟨"ProofBenchModel", "wrong", "()I"⟩ prog_3_method_23_code 1 (Option.some FieldType.int) ∈ WB := WB_t 398 (by decide +kernel) (by decide +kernel)
theorem wb_399 : Cond.methodLink "ProofBenchLaw" 92 ⟨"ProofBenchModel", "count", "(I)I"⟩ ∈ WB := WB_t 399 (by decide +kernel) (by decide +kernel)
theorem wb_400 : Cond.instanceMethod ⟨"ProofBenchModel", "count", "(I)I"⟩ ∈ WB := WB_t 400 (by decide +kernel) (by decide +kernel)
theorem wb_401 : Cond.selects "ProofBenchModel" ⟨"ProofBenchModel", "count", "(I)I"⟩ ⟨"ProofBenchModel", "count", "(I)I"⟩ ∈ WB := WB_t 401 (by decide +kernel) (by decide +kernel)
theorem wb_402 : Cond.code ⟨"ProofBenchModel", "count", "(I)I"⟩ prog_3_method_24_code 2 (Option.some FieldType.int) ∈ WB := WB_t 402 (by decide +kernel) (by decide +kernel)
theorem wbs_0 : Cond.selects "ProofBench" ⟨"ProofBench", "emptyDraft", "()V"⟩ ⟨"ProofBench", "emptyDraft", "()V"⟩ ∈ WB := WB_s 0 (by decide +kernel) (by decide +kernel)
theorem wbs_1 : Cond.selects "java/lang/Throwable" ⟨"java/lang/Throwable", "fillInStackTrace", "(I)Ljava/lang/Throwable;"⟩ ⟨"java/lang/Throwable", "fillInStackTrace", "(I)Ljava/lang/Throwable;"⟩ ∈ WB := WB_s 1 (by decide +kernel) (by decide +kernel)
theorem wbs_2 : Cond.selects "ProofBench" ⟨"ProofBench", "refuseIfFull", "()V"⟩ ⟨"ProofBench", "refuseIfFull", "()V"⟩ ∈ WB := WB_s 2 (by decide +kernel) (by decide +kernel)
theorem wbs_3 : Cond.selects "ProofBench" ⟨"ProofBench", "keepDraft", "()I"⟩ ⟨"ProofBench", "keepDraft", "()I"⟩ ∈ WB := WB_s 3 (by decide +kernel) (by decide +kernel)
theorem wbs_4 : Cond.selects "ProofBench" ⟨"ProofBench", "firstBadHint", "()I"⟩ ⟨"ProofBench", "firstBadHint", "()I"⟩ ∈ WB := WB_s 4 (by decide +kernel) (by decide +kernel)
theorem wbs_5 : Cond.selects "ProofBench" ⟨"ProofBench", "isThere", "(I)Z"⟩ ⟨"ProofBench", "isThere", "(I)Z"⟩ ∈ WB := WB_s 5 (by decide +kernel) (by decide +kernel)
theorem wbs_6 : Cond.selects "ProofBench" ⟨"ProofBench", "refuseIfNotThere", "(I)V"⟩ ⟨"ProofBench", "refuseIfNotThere", "(I)V"⟩ ∈ WB := WB_s 6 (by decide +kernel) (by decide +kernel)
theorem wbs_7 : Cond.selects "ProofBenchModel" ⟨"ProofBenchModel", "trueIn", "(I)J"⟩ ⟨"ProofBenchModel", "trueIn", "(I)J"⟩ ∈ WB := WB_s 7 (by decide +kernel) (by decide +kernel)
theorem wbs_8 : Cond.selects "ProofBenchModel" ⟨"ProofBenchModel", "truths", "(II)J"⟩ ⟨"ProofBenchModel", "truths", "(II)J"⟩ ∈ WB := WB_s 8 (by decide +kernel) (by decide +kernel)
theorem wbs_9 : Cond.selects "ProofBenchModel" ⟨"ProofBenchModel", "add", "()I"⟩ ⟨"ProofBenchModel", "add", "()I"⟩ ∈ WB := WB_s 9 (by decide +kernel) (by decide +kernel)
theorem wbs_10 : Cond.selects "ProofBenchModel" ⟨"ProofBenchModel", "follow", "()I"⟩ ⟨"ProofBenchModel", "follow", "()I"⟩ ∈ WB := WB_s 10 (by decide +kernel) (by decide +kernel)
theorem wbs_11 : Cond.selects "ProofBenchModel" ⟨"ProofBenchModel", "setOut", "()V"⟩ ⟨"ProofBenchModel", "setOut", "()V"⟩ ∈ WB := WB_s 11 (by decide +kernel) (by decide +kernel)
theorem wbs_12 : Cond.selects "ProofBenchModel" ⟨"ProofBenchModel", "tell", "(I)V"⟩ ⟨"ProofBenchModel", "tell", "(I)V"⟩ ∈ WB := WB_s 12 (by decide +kernel) (by decide +kernel)
theorem wbs_13 : Cond.selects "ProofBenchModel" ⟨"ProofBenchModel", "says", "(I)I"⟩ ⟨"ProofBenchModel", "says", "(I)I"⟩ ∈ WB := WB_s 13 (by decide +kernel) (by decide +kernel)
theorem wbs_14 : Cond.selects "ProofBenchModel" ⟨"ProofBenchModel", "of", "(I)I"⟩ ⟨"ProofBenchModel", "of", "(I)I"⟩ ∈ WB := WB_s 14 (by decide +kernel) (by decide +kernel)
theorem wbs_15 : Cond.selects "ProofBenchModel" ⟨"ProofBenchModel", "accept", "()I"⟩ ⟨"ProofBenchModel", "accept", "()I"⟩ ∈ WB := WB_s 15 (by decide +kernel) (by decide +kernel)
theorem wbs_16 : Cond.selects "ProofBenchModel" ⟨"ProofBenchModel", "isThere", "(I)Z"⟩ ⟨"ProofBenchModel", "isThere", "(I)Z"⟩ ∈ WB := WB_s 16 (by decide +kernel) (by decide +kernel)
theorem inX0 : ∀ w ∈ u_ws RX0 TX0 10, w ∈ WB := fun w h => WB_of ((by decide +kernel : ∀ w ∈ u_ws RX0 TX0 10, w ∈ lw_tbl) w h) ((by decide +kernel : ∀ w ∈ u_ws RX0 TX0 10, goodWord w = true) w h)
theorem inX1 : ∀ w ∈ u_ws RX1 TX1 14, w ∈ WB := fun w h => WB_of ((by decide +kernel : ∀ w ∈ u_ws RX1 TX1 14, w ∈ lw_tbl) w h) ((by decide +kernel : ∀ w ∈ u_ws RX1 TX1 14, goodWord w = true) w h)
end
section
theorem dX0_init_0 : decode cX0_init 0 = .ok (.aload_n 0, 1) := by decide +kernel
theorem dX0_init_1 : decode cX0_init 1 = .ok (.invokespecial 1, 3) := by decide +kernel
theorem dX0_init_4 : decode cX0_init 4 = .ok (.aload_n 0, 1) := by decide +kernel
theorem dX0_init_5 : decode cX0_init 5 = .ok (.sipush 600, 3) := by decide +kernel
theorem dX0_init_8 : decode cX0_init 8 = .ok (.newarray .int, 2) := by decide +kernel
theorem dX0_init_10 : decode cX0_init 10 = .ok (.putfield 9, 3) := by decide +kernel
theorem dX0_init_13 : decode cX0_init 13 = .ok (.aload_n 0, 1) := by decide +kernel
theorem dX0_init_14 : decode cX0_init 14 = .ok (.sipush 600, 3) := by decide +kernel
theorem dX0_init_17 : decode cX0_init 17 = .ok (.newarray .long, 2) := by decide +kernel
theorem dX0_init_19 : decode cX0_init 19 = .ok (.putfield 13, 3) := by decide +kernel
theorem dX0_init_22 : decode cX0_init 22 = .ok (.aload_n 0, 1) := by decide +kernel
theorem dX0_init_23 : decode cX0_init 23 = .ok (.sipush 600, 3) := by decide +kernel
theorem dX0_init_26 : decode cX0_init 26 = .ok (.newarray .boolean, 2) := by decide +kernel
theorem dX0_init_28 : decode cX0_init 28 = .ok (.putfield 17, 3) := by decide +kernel
theorem dX0_init_31 : decode cX0_init 31 = .ok (.aload_n 0, 1) := by decide +kernel
theorem dX0_init_32 : decode cX0_init 32 = .ok (.bipush 40, 2) := by decide +kernel
theorem dX0_init_34 : decode cX0_init 34 = .ok (.newarray .int, 2) := by decide +kernel
theorem dX0_init_36 : decode cX0_init 36 = .ok (.putfield 21, 3) := by decide +kernel
theorem dX0_init_39 : decode cX0_init 39 = .ok (.return_, 1) := by decide +kernel
theorem dX0_literal_0 : decode cX0_literal 0 = .ok (.iload_n 1, 1) := by decide +kernel
theorem dX0_literal_1 : decode cX0_literal 1 = .ok (.ifCond .eq 15, 3) := by decide +kernel
theorem dX0_literal_4 : decode cX0_literal 4 = .ok (.iload_n 1, 1) := by decide +kernel
theorem dX0_literal_5 : decode cX0_literal 5 = .ok (.bipush (-16), 2) := by decide +kernel
theorem dX0_literal_7 : decode cX0_literal 7 = .ok (.if_icmp .lt 9, 3) := by decide +kernel
theorem dX0_literal_10 : decode cX0_literal 10 = .ok (.iload_n 1, 1) := by decide +kernel
theorem dX0_literal_11 : decode cX0_literal 11 = .ok (.bipush 16, 2) := by decide +kernel
theorem dX0_literal_13 : decode cX0_literal 13 = .ok (.if_icmp .le 13, 3) := by decide +kernel
theorem dX0_literal_16 : decode cX0_literal 16 = .ok (.new 24, 3) := by decide +kernel
theorem dX0_literal_19 : decode cX0_literal 19 = .ok (.dup, 1) := by decide +kernel
theorem dX0_literal_20 : decode cX0_literal 20 = .ok (.ldc 26, 2) := by decide +kernel
theorem dX0_literal_22 : decode cX0_literal 22 = .ok (.invokespecial 28, 3) := by decide +kernel
theorem dX0_literal_25 : decode cX0_literal 25 = .ok (.athrow, 1) := by decide +kernel
theorem dX0_literal_26 : decode cX0_literal 26 = .ok (.iload_n 1, 1) := by decide +kernel
theorem dX0_literal_27 : decode cX0_literal 27 = .ok (.invokestatic 31, 3) := by decide +kernel
theorem dX0_literal_30 : decode cX0_literal 30 = .ok (.istore_n 2, 1) := by decide +kernel
theorem dX0_literal_31 : decode cX0_literal 31 = .ok (.aload_n 0, 1) := by decide +kernel
theorem dX0_literal_32 : decode cX0_literal 32 = .ok (.getfield 35, 3) := by decide +kernel
theorem dX0_literal_35 : decode cX0_literal 35 = .ok (.aload_n 0, 1) := by decide +kernel
theorem dX0_literal_36 : decode cX0_literal 36 = .ok (.getfield 35, 3) := by decide +kernel
theorem dX0_literal_39 : decode cX0_literal 39 = .ok (.invokestatic 39, 3) := by decide +kernel
theorem dX0_literal_42 : decode cX0_literal 42 = .ok (.ior, 1) := by decide +kernel
theorem dX0_literal_43 : decode cX0_literal 43 = .ok (.iload_n 2, 1) := by decide +kernel
theorem dX0_literal_44 : decode cX0_literal 44 = .ok (.iand, 1) := by decide +kernel
theorem dX0_literal_45 : decode cX0_literal 45 = .ok (.ifCond .eq 13, 3) := by decide +kernel
theorem dX0_literal_48 : decode cX0_literal 48 = .ok (.new 24, 3) := by decide +kernel
theorem dX0_literal_51 : decode cX0_literal 51 = .ok (.dup, 1) := by decide +kernel
theorem dX0_literal_52 : decode cX0_literal 52 = .ok (.ldc 42, 2) := by decide +kernel
theorem dX0_literal_54 : decode cX0_literal 54 = .ok (.invokespecial 28, 3) := by decide +kernel
theorem dX0_literal_57 : decode cX0_literal 57 = .ok (.athrow, 1) := by decide +kernel
theorem dX0_literal_58 : decode cX0_literal 58 = .ok (.iload_n 1, 1) := by decide +kernel
theorem dX0_literal_59 : decode cX0_literal 59 = .ok (.ifCond .le 7, 3) := by decide +kernel
theorem dX0_literal_62 : decode cX0_literal 62 = .ok (.iload_n 1, 1) := by decide +kernel
theorem dX0_literal_63 : decode cX0_literal 63 = .ok (.goto 5, 3) := by decide +kernel
theorem dX0_literal_66 : decode cX0_literal 66 = .ok (.iload_n 1, 1) := by decide +kernel
theorem dX0_literal_67 : decode cX0_literal 67 = .ok (.ineg, 1) := by decide +kernel
theorem dX0_literal_68 : decode cX0_literal 68 = .ok (.istore_n 3, 1) := by decide +kernel
theorem dX0_literal_69 : decode cX0_literal 69 = .ok (.aload_n 0, 1) := by decide +kernel
theorem dX0_literal_70 : decode cX0_literal 70 = .ok (.dup, 1) := by decide +kernel
theorem dX0_literal_71 : decode cX0_literal 71 = .ok (.getfield 44, 3) := by decide +kernel
theorem dX0_literal_74 : decode cX0_literal 74 = .ok (.iload_n 3, 1) := by decide +kernel
theorem dX0_literal_75 : decode cX0_literal 75 = .ok (.iconst 1, 1) := by decide +kernel
theorem dX0_literal_76 : decode cX0_literal 76 = .ok (.isub, 1) := by decide +kernel
theorem dX0_literal_77 : decode cX0_literal 77 = .ok (.i2l, 1) := by decide +kernel
theorem dX0_literal_78 : decode cX0_literal 78 = .ok (.iconst 4, 1) := by decide +kernel
theorem dX0_literal_79 : decode cX0_literal 79 = .ok (.aload_n 0, 1) := by decide +kernel
theorem dX0_literal_80 : decode cX0_literal 80 = .ok (.getfield 35, 3) := by decide +kernel
theorem dX0_literal_83 : decode cX0_literal 83 = .ok (.invokestatic 48, 3) := by decide +kernel
theorem dX0_literal_86 : decode cX0_literal 86 = .ok (.imul, 1) := by decide +kernel
theorem dX0_literal_87 : decode cX0_literal 87 = .ok (.lshl, 1) := by decide +kernel
theorem dX0_literal_88 : decode cX0_literal 88 = .ok (.lor, 1) := by decide +kernel
theorem dX0_literal_89 : decode cX0_literal 89 = .ok (.putfield 44, 3) := by decide +kernel
theorem dX0_literal_92 : decode cX0_literal 92 = .ok (.aload_n 0, 1) := by decide +kernel
theorem dX0_literal_93 : decode cX0_literal 93 = .ok (.dup, 1) := by decide +kernel
theorem dX0_literal_94 : decode cX0_literal 94 = .ok (.getfield 35, 3) := by decide +kernel
theorem dX0_literal_97 : decode cX0_literal 97 = .ok (.iload_n 2, 1) := by decide +kernel
theorem dX0_literal_98 : decode cX0_literal 98 = .ok (.ior, 1) := by decide +kernel
theorem dX0_literal_99 : decode cX0_literal 99 = .ok (.putfield 35, 3) := by decide +kernel
theorem dX0_literal_102 : decode cX0_literal 102 = .ok (.aload_n 0, 1) := by decide +kernel
theorem dX0_literal_103 : decode cX0_literal 103 = .ok (.getfield 35, 3) := by decide +kernel
theorem dX0_literal_106 : decode cX0_literal 106 = .ok (.invokestatic 48, 3) := by decide +kernel
theorem dX0_literal_109 : decode cX0_literal 109 = .ok (.ireturn, 1) := by decide +kernel
theorem dX0_hint_0 : decode cX0_hint 0 = .ok (.iload_n 1, 1) := by decide +kernel
theorem dX0_hint_1 : decode cX0_hint 1 = .ok (.ifCond .lt 10, 3) := by decide +kernel
theorem dX0_hint_4 : decode cX0_hint 4 = .ok (.iload_n 1, 1) := by decide +kernel
theorem dX0_hint_5 : decode cX0_hint 5 = .ok (.sipush 600, 3) := by decide +kernel
theorem dX0_hint_8 : decode cX0_hint 8 = .ok (.if_icmp .lt 13, 3) := by decide +kernel
theorem dX0_hint_11 : decode cX0_hint 11 = .ok (.new 24, 3) := by decide +kernel
theorem dX0_hint_14 : decode cX0_hint 14 = .ok (.dup, 1) := by decide +kernel
theorem dX0_hint_15 : decode cX0_hint 15 = .ok (.ldc 51, 2) := by decide +kernel
theorem dX0_hint_17 : decode cX0_hint 17 = .ok (.invokespecial 28, 3) := by decide +kernel
theorem dX0_hint_20 : decode cX0_hint 20 = .ok (.athrow, 1) := by decide +kernel
theorem dX0_hint_21 : decode cX0_hint 21 = .ok (.aload_n 0, 1) := by decide +kernel
theorem dX0_hint_22 : decode cX0_hint 22 = .ok (.getfield 53, 3) := by decide +kernel
theorem dX0_hint_25 : decode cX0_hint 25 = .ok (.bipush 40, 2) := by decide +kernel
theorem dX0_hint_27 : decode cX0_hint 27 = .ok (.if_icmp .lt 13, 3) := by decide +kernel
theorem dX0_hint_30 : decode cX0_hint 30 = .ok (.new 56, 3) := by decide +kernel
theorem dX0_hint_33 : decode cX0_hint 33 = .ok (.dup, 1) := by decide +kernel
theorem dX0_hint_34 : decode cX0_hint 34 = .ok (.ldc 58, 2) := by decide +kernel
theorem dX0_hint_36 : decode cX0_hint 36 = .ok (.invokespecial 60, 3) := by decide +kernel
theorem dX0_hint_39 : decode cX0_hint 39 = .ok (.athrow, 1) := by decide +kernel
theorem dX0_hint_40 : decode cX0_hint 40 = .ok (.aload_n 0, 1) := by decide +kernel
theorem dX0_hint_41 : decode cX0_hint 41 = .ok (.getfield 21, 3) := by decide +kernel
theorem dX0_hint_44 : decode cX0_hint 44 = .ok (.aload_n 0, 1) := by decide +kernel
theorem dX0_hint_45 : decode cX0_hint 45 = .ok (.getfield 53, 3) := by decide +kernel
theorem dX0_hint_48 : decode cX0_hint 48 = .ok (.iload_n 1, 1) := by decide +kernel
theorem dX0_hint_49 : decode cX0_hint 49 = .ok (.iastore, 1) := by decide +kernel
theorem dX0_hint_50 : decode cX0_hint 50 = .ok (.aload_n 0, 1) := by decide +kernel
theorem dX0_hint_51 : decode cX0_hint 51 = .ok (.dup, 1) := by decide +kernel
theorem dX0_hint_52 : decode cX0_hint 52 = .ok (.getfield 53, 3) := by decide +kernel
theorem dX0_hint_55 : decode cX0_hint 55 = .ok (.iconst 1, 1) := by decide +kernel
theorem dX0_hint_56 : decode cX0_hint 56 = .ok (.iadd, 1) := by decide +kernel
theorem dX0_hint_57 : decode cX0_hint 57 = .ok (.putfield 53, 3) := by decide +kernel
theorem dX0_hint_60 : decode cX0_hint 60 = .ok (.aload_n 0, 1) := by decide +kernel
theorem dX0_hint_61 : decode cX0_hint 61 = .ok (.getfield 53, 3) := by decide +kernel
theorem dX0_hint_64 : decode cX0_hint 64 = .ok (.ireturn, 1) := by decide +kernel
theorem dX0_clear_0 : decode cX0_clear 0 = .ok (.aload_n 0, 1) := by decide +kernel
theorem dX0_clear_1 : decode cX0_clear 1 = .ok (.getfield 35, 3) := by decide +kernel
theorem dX0_clear_4 : decode cX0_clear 4 = .ok (.invokestatic 48, 3) := by decide +kernel
theorem dX0_clear_7 : decode cX0_clear 7 = .ok (.aload_n 0, 1) := by decide +kernel
theorem dX0_clear_8 : decode cX0_clear 8 = .ok (.getfield 53, 3) := by decide +kernel
theorem dX0_clear_11 : decode cX0_clear 11 = .ok (.iadd, 1) := by decide +kernel
theorem dX0_clear_12 : decode cX0_clear 12 = .ok (.istore_n 1, 1) := by decide +kernel
theorem dX0_clear_13 : decode cX0_clear 13 = .ok (.aload_n 0, 1) := by decide +kernel
theorem dX0_clear_14 : decode cX0_clear 14 = .ok (.invokevirtual 61, 3) := by decide +kernel
theorem dX0_clear_17 : decode cX0_clear 17 = .ok (.aload_n 0, 1) := by decide +kernel
theorem dX0_clear_18 : decode cX0_clear 18 = .ok (.iconst 0, 1) := by decide +kernel
theorem dX0_clear_19 : decode cX0_clear 19 = .ok (.putfield 53, 3) := by decide +kernel
theorem dX0_clear_22 : decode cX0_clear 22 = .ok (.iload_n 1, 1) := by decide +kernel
theorem dX0_clear_23 : decode cX0_clear 23 = .ok (.ireturn, 1) := by decide +kernel
theorem dX0_give_0 : decode cX0_give 0 = .ok (.aload_n 0, 1) := by decide +kernel
theorem dX0_give_1 : decode cX0_give 1 = .ok (.invokevirtual 64, 3) := by decide +kernel
theorem dX0_give_4 : decode cX0_give 4 = .ok (.aload_n 0, 1) := by decide +kernel
theorem dX0_give_5 : decode cX0_give 5 = .ok (.invokevirtual 67, 3) := by decide +kernel
theorem dX0_give_8 : decode cX0_give 8 = .ok (.ireturn, 1) := by decide +kernel
theorem dX0_step_0 : decode cX0_step 0 = .ok (.aload_n 0, 1) := by decide +kernel
theorem dX0_step_1 : decode cX0_step 1 = .ok (.invokevirtual 64, 3) := by decide +kernel
theorem dX0_step_4 : decode cX0_step 4 = .ok (.aload_n 0, 1) := by decide +kernel
theorem dX0_step_5 : decode cX0_step 5 = .ok (.invokevirtual 71, 3) := by decide +kernel
theorem dX0_step_8 : decode cX0_step 8 = .ok (.bipush 17, 2) := by decide +kernel
theorem dX0_step_10 : decode cX0_step 10 = .ok (.if_icmp .eq 5, 3) := by decide +kernel
theorem dX0_step_13 : decode cX0_step 13 = .ok (.iconst (-1), 1) := by decide +kernel
theorem dX0_step_14 : decode cX0_step 14 = .ok (.ireturn, 1) := by decide +kernel
theorem dX0_step_15 : decode cX0_step 15 = .ok (.aload_n 0, 1) := by decide +kernel
theorem dX0_step_16 : decode cX0_step 16 = .ok (.dup, 1) := by decide +kernel
theorem dX0_step_17 : decode cX0_step 17 = .ok (.getfield 74, 3) := by decide +kernel
theorem dX0_step_20 : decode cX0_step 20 = .ok (.iconst 1, 1) := by decide +kernel
theorem dX0_step_21 : decode cX0_step 21 = .ok (.iadd, 1) := by decide +kernel
theorem dX0_step_22 : decode cX0_step 22 = .ok (.putfield 74, 3) := by decide +kernel
theorem dX0_step_25 : decode cX0_step 25 = .ok (.aload_n 0, 1) := by decide +kernel
theorem dX0_step_26 : decode cX0_step 26 = .ok (.invokevirtual 67, 3) := by decide +kernel
theorem dX0_step_29 : decode cX0_step 29 = .ok (.ireturn, 1) := by decide +kernel
theorem dX0_along_0 : decode cX0_along 0 = .ok (.aload_n 0, 1) := by decide +kernel
theorem dX0_along_1 : decode cX0_along 1 = .ok (.invokevirtual 64, 3) := by decide +kernel
theorem dX0_along_4 : decode cX0_along 4 = .ok (.aload_n 0, 1) := by decide +kernel
theorem dX0_along_5 : decode cX0_along 5 = .ok (.invokevirtual 77, 3) := by decide +kernel
theorem dX0_along_8 : decode cX0_along 8 = .ok (.istore_n 1, 1) := by decide +kernel
theorem dX0_along_9 : decode cX0_along 9 = .ok (.iload_n 1, 1) := by decide +kernel
theorem dX0_along_10 : decode cX0_along 10 = .ok (.iconst (-1), 1) := by decide +kernel
theorem dX0_along_11 : decode cX0_along 11 = .ok (.if_icmp .eq 7, 3) := by decide +kernel
theorem dX0_along_14 : decode cX0_along 14 = .ok (.iconst (-1), 1) := by decide +kernel
theorem dX0_along_15 : decode cX0_along 15 = .ok (.iload_n 1, 1) := by decide +kernel
theorem dX0_along_16 : decode cX0_along 16 = .ok (.isub, 1) := by decide +kernel
theorem dX0_along_17 : decode cX0_along 17 = .ok (.ireturn, 1) := by decide +kernel
theorem dX0_along_18 : decode cX0_along 18 = .ok (.aload_n 0, 1) := by decide +kernel
theorem dX0_along_19 : decode cX0_along 19 = .ok (.dup, 1) := by decide +kernel
theorem dX0_along_20 : decode cX0_along 20 = .ok (.getfield 74, 3) := by decide +kernel
theorem dX0_along_23 : decode cX0_along 23 = .ok (.iconst 1, 1) := by decide +kernel
theorem dX0_along_24 : decode cX0_along 24 = .ok (.iadd, 1) := by decide +kernel
theorem dX0_along_25 : decode cX0_along 25 = .ok (.putfield 74, 3) := by decide +kernel
theorem dX0_along_28 : decode cX0_along 28 = .ok (.aload_n 0, 1) := by decide +kernel
theorem dX0_along_29 : decode cX0_along 29 = .ok (.iconst 0, 1) := by decide +kernel
theorem dX0_along_30 : decode cX0_along 30 = .ok (.putfield 53, 3) := by decide +kernel
theorem dX0_along_33 : decode cX0_along 33 = .ok (.aload_n 0, 1) := by decide +kernel
theorem dX0_along_34 : decode cX0_along 34 = .ok (.invokevirtual 67, 3) := by decide +kernel
theorem dX0_along_37 : decode cX0_along 37 = .ok (.ireturn, 1) := by decide +kernel
theorem dX0_drop_0 : decode cX0_drop 0 = .ok (.aload_n 0, 1) := by decide +kernel
theorem dX0_drop_1 : decode cX0_drop 1 = .ok (.iload_n 1, 1) := by decide +kernel
theorem dX0_drop_2 : decode cX0_drop 2 = .ok (.invokevirtual 80, 3) := by decide +kernel
theorem dX0_drop_5 : decode cX0_drop 5 = .ok (.aload_n 0, 1) := by decide +kernel
theorem dX0_drop_6 : decode cX0_drop 6 = .ok (.getfield 17, 3) := by decide +kernel
theorem dX0_drop_9 : decode cX0_drop 9 = .ok (.iload_n 1, 1) := by decide +kernel
theorem dX0_drop_10 : decode cX0_drop 10 = .ok (.iconst 0, 1) := by decide +kernel
theorem dX0_drop_11 : decode cX0_drop 11 = .ok (.bastore, 1) := by decide +kernel
theorem dX0_drop_12 : decode cX0_drop 12 = .ok (.aload_n 0, 1) := by decide +kernel
theorem dX0_drop_13 : decode cX0_drop 13 = .ok (.dup, 1) := by decide +kernel
theorem dX0_drop_14 : decode cX0_drop 14 = .ok (.getfield 84, 3) := by decide +kernel
theorem dX0_drop_17 : decode cX0_drop 17 = .ok (.iconst 1, 1) := by decide +kernel
theorem dX0_drop_18 : decode cX0_drop 18 = .ok (.isub, 1) := by decide +kernel
theorem dX0_drop_19 : decode cX0_drop 19 = .ok (.putfield 84, 3) := by decide +kernel
theorem dX0_drop_22 : decode cX0_drop 22 = .ok (.aload_n 0, 1) := by decide +kernel
theorem dX0_drop_23 : decode cX0_drop 23 = .ok (.getfield 9, 3) := by decide +kernel
theorem dX0_drop_26 : decode cX0_drop 26 = .ok (.iload_n 1, 1) := by decide +kernel
theorem dX0_drop_27 : decode cX0_drop 27 = .ok (.iaload, 1) := by decide +kernel
theorem dX0_drop_28 : decode cX0_drop 28 = .ok (.invokestatic 48, 3) := by decide +kernel
theorem dX0_drop_31 : decode cX0_drop 31 = .ok (.ireturn, 1) := by decide +kernel
theorem dX0_at_0 : decode cX0_at 0 = .ok (.aload_n 0, 1) := by decide +kernel
theorem dX0_at_1 : decode cX0_at 1 = .ok (.iload_n 1, 1) := by decide +kernel
theorem dX0_at_2 : decode cX0_at 2 = .ok (.invokevirtual 80, 3) := by decide +kernel
theorem dX0_at_5 : decode cX0_at 5 = .ok (.iload_n 2, 1) := by decide +kernel
theorem dX0_at_6 : decode cX0_at 6 = .ok (.ifCond .ge 13, 3) := by decide +kernel
theorem dX0_at_9 : decode cX0_at 9 = .ok (.new 24, 3) := by decide +kernel
theorem dX0_at_12 : decode cX0_at 12 = .ok (.dup, 1) := by decide +kernel
theorem dX0_at_13 : decode cX0_at 13 = .ok (.ldc 87, 2) := by decide +kernel
theorem dX0_at_15 : decode cX0_at 15 = .ok (.invokespecial 28, 3) := by decide +kernel
theorem dX0_at_18 : decode cX0_at 18 = .ok (.athrow, 1) := by decide +kernel
theorem dX0_at_19 : decode cX0_at 19 = .ok (.aload_n 0, 1) := by decide +kernel
theorem dX0_at_20 : decode cX0_at 20 = .ok (.getfield 9, 3) := by decide +kernel
theorem dX0_at_23 : decode cX0_at 23 = .ok (.iload_n 1, 1) := by decide +kernel
theorem dX0_at_24 : decode cX0_at 24 = .ok (.iaload, 1) := by decide +kernel
theorem dX0_at_25 : decode cX0_at 25 = .ok (.istore_n 3, 1) := by decide +kernel
theorem dX0_at_26 : decode cX0_at 26 = .ok (.iload_n 2, 1) := by decide +kernel
theorem dX0_at_27 : decode cX0_at 27 = .ok (.iload_n 3, 1) := by decide +kernel
theorem dX0_at_28 : decode cX0_at 28 = .ok (.invokestatic 48, 3) := by decide +kernel
theorem dX0_at_31 : decode cX0_at 31 = .ok (.if_icmp .lt 5, 3) := by decide +kernel
theorem dX0_at_34 : decode cX0_at 34 = .ok (.iconst 0, 1) := by decide +kernel
theorem dX0_at_35 : decode cX0_at 35 = .ok (.ireturn, 1) := by decide +kernel
theorem dX0_at_36 : decode cX0_at 36 = .ok (.aload_n 0, 1) := by decide +kernel
theorem dX0_at_37 : decode cX0_at 37 = .ok (.getfield 13, 3) := by decide +kernel
theorem dX0_at_40 : decode cX0_at 40 = .ok (.iload_n 1, 1) := by decide +kernel
theorem dX0_at_41 : decode cX0_at 41 = .ok (.laload, 1) := by decide +kernel
theorem dX0_at_42 : decode cX0_at 42 = .ok (.iconst 4, 1) := by decide +kernel
theorem dX0_at_43 : decode cX0_at 43 = .ok (.iload_n 2, 1) := by decide +kernel
theorem dX0_at_44 : decode cX0_at 44 = .ok (.imul, 1) := by decide +kernel
theorem dX0_at_45 : decode cX0_at 45 = .ok (.lushr, 1) := by decide +kernel
theorem dX0_at_46 : decode cX0_at 46 = .ok (.ldc2_w 89, 3) := by decide +kernel
theorem dX0_at_49 : decode cX0_at 49 = .ok (.land, 1) := by decide +kernel
theorem dX0_at_50 : decode cX0_at 50 = .ok (.l2i, 1) := by decide +kernel
theorem dX0_at_51 : decode cX0_at 51 = .ok (.iconst 1, 1) := by decide +kernel
theorem dX0_at_52 : decode cX0_at 52 = .ok (.iadd, 1) := by decide +kernel
theorem dX0_at_53 : decode cX0_at 53 = .ok (.istore 4, 2) := by decide +kernel
theorem dX0_at_55 : decode cX0_at 55 = .ok (.iload_n 3, 1) := by decide +kernel
theorem dX0_at_56 : decode cX0_at 56 = .ok (.iload 4, 2) := by decide +kernel
theorem dX0_at_58 : decode cX0_at 58 = .ok (.invokestatic 31, 3) := by decide +kernel
theorem dX0_at_61 : decode cX0_at 61 = .ok (.iand, 1) := by decide +kernel
theorem dX0_at_62 : decode cX0_at 62 = .ok (.ifCond .eq 8, 3) := by decide +kernel
theorem dX0_at_65 : decode cX0_at 65 = .ok (.iload 4, 2) := by decide +kernel
theorem dX0_at_67 : decode cX0_at 67 = .ok (.goto 6, 3) := by decide +kernel
theorem dX0_at_70 : decode cX0_at 70 = .ok (.iload 4, 2) := by decide +kernel
theorem dX0_at_72 : decode cX0_at 72 = .ok (.ineg, 1) := by decide +kernel
theorem dX0_at_73 : decode cX0_at 73 = .ok (.ireturn, 1) := by decide +kernel
theorem dX0_told_0 : decode cX0_told 0 = .ok (.aload_n 0, 1) := by decide +kernel
theorem dX0_told_1 : decode cX0_told 1 = .ok (.getfield 35, 3) := by decide +kernel
theorem dX0_told_4 : decode cX0_told 4 = .ok (.istore_n 1, 1) := by decide +kernel
theorem dX0_told_5 : decode cX0_told 5 = .ok (.iconst 0, 1) := by decide +kernel
theorem dX0_told_6 : decode cX0_told 6 = .ok (.istore_n 2, 1) := by decide +kernel
theorem dX0_told_7 : decode cX0_told 7 = .ok (.iload_n 2, 1) := by decide +kernel
theorem dX0_told_8 : decode cX0_told 8 = .ok (.bipush 16, 2) := by decide +kernel
theorem dX0_told_10 : decode cX0_told 10 = .ok (.if_icmp .gt 81, 3) := by decide +kernel
theorem dX0_told_13 : decode cX0_told 13 = .ok (.iload_n 1, 1) := by decide +kernel
theorem dX0_told_14 : decode cX0_told 14 = .ok (.istore_n 3, 1) := by decide +kernel
theorem dX0_told_15 : decode cX0_told 15 = .ok (.iconst 0, 1) := by decide +kernel
theorem dX0_told_16 : decode cX0_told 16 = .ok (.istore 4, 2) := by decide +kernel
theorem dX0_told_18 : decode cX0_told 18 = .ok (.iload 4, 2) := by decide +kernel
theorem dX0_told_20 : decode cX0_told 20 = .ok (.aload_n 0, 1) := by decide +kernel
theorem dX0_told_21 : decode cX0_told 21 = .ok (.getfield 91, 3) := by decide +kernel
theorem dX0_told_24 : decode cX0_told 24 = .ok (.if_icmp .ge 53, 3) := by decide +kernel
theorem dX0_told_27 : decode cX0_told 27 = .ok (.aload_n 0, 1) := by decide +kernel
theorem dX0_told_28 : decode cX0_told 28 = .ok (.getfield 17, 3) := by decide +kernel
theorem dX0_told_31 : decode cX0_told 31 = .ok (.iload 4, 2) := by decide +kernel
theorem dX0_told_33 : decode cX0_told 33 = .ok (.baload, 1) := by decide +kernel
theorem dX0_told_34 : decode cX0_told 34 = .ok (.ifCond .eq 37, 3) := by decide +kernel
theorem dX0_told_37 : decode cX0_told 37 = .ok (.aload_n 0, 1) := by decide +kernel
theorem dX0_told_38 : decode cX0_told 38 = .ok (.getfield 9, 3) := by decide +kernel
theorem dX0_told_41 : decode cX0_told 41 = .ok (.iload 4, 2) := by decide +kernel
theorem dX0_told_43 : decode cX0_told 43 = .ok (.iaload, 1) := by decide +kernel
theorem dX0_told_44 : decode cX0_told 44 = .ok (.iload_n 1, 1) := by decide +kernel
theorem dX0_told_45 : decode cX0_told 45 = .ok (.invokestatic 94, 3) := by decide +kernel
theorem dX0_told_48 : decode cX0_told 48 = .ok (.ifCond .eq 6, 3) := by decide +kernel
theorem dX0_told_51 : decode cX0_told 51 = .ok (.bipush 17, 2) := by decide +kernel
theorem dX0_told_53 : decode cX0_told 53 = .ok (.ireturn, 1) := by decide +kernel
theorem dX0_told_54 : decode cX0_told 54 = .ok (.iload_n 1, 1) := by decide +kernel
theorem dX0_told_55 : decode cX0_told 55 = .ok (.aload_n 0, 1) := by decide +kernel
theorem dX0_told_56 : decode cX0_told 56 = .ok (.getfield 9, 3) := by decide +kernel
theorem dX0_told_59 : decode cX0_told 59 = .ok (.iload 4, 2) := by decide +kernel
theorem dX0_told_61 : decode cX0_told 61 = .ok (.iaload, 1) := by decide +kernel
theorem dX0_told_62 : decode cX0_told 62 = .ok (.iload_n 1, 1) := by decide +kernel
theorem dX0_told_63 : decode cX0_told 63 = .ok (.invokestatic 98, 3) := by decide +kernel
theorem dX0_told_66 : decode cX0_told 66 = .ok (.invokestatic 39, 3) := by decide +kernel
theorem dX0_told_69 : decode cX0_told 69 = .ok (.ior, 1) := by decide +kernel
theorem dX0_told_70 : decode cX0_told 70 = .ok (.istore_n 1, 1) := by decide +kernel
theorem dX0_told_71 : decode cX0_told 71 = .ok (.iinc 4 1, 3) := by decide +kernel
theorem dX0_told_74 : decode cX0_told 74 = .ok (.goto (-56), 3) := by decide +kernel
theorem dX0_told_77 : decode cX0_told 77 = .ok (.iload_n 1, 1) := by decide +kernel
theorem dX0_told_78 : decode cX0_told 78 = .ok (.iload_n 3, 1) := by decide +kernel
theorem dX0_told_79 : decode cX0_told 79 = .ok (.if_icmp .ne 6, 3) := by decide +kernel
theorem dX0_told_82 : decode cX0_told 82 = .ok (.goto 9, 3) := by decide +kernel
theorem dX0_told_85 : decode cX0_told 85 = .ok (.iinc 2 1, 3) := by decide +kernel
theorem dX0_told_88 : decode cX0_told 88 = .ok (.goto (-81), 3) := by decide +kernel
theorem dX0_told_91 : decode cX0_told 91 = .ok (.iload_n 1, 1) := by decide +kernel
theorem dX0_told_92 : decode cX0_told 92 = .ok (.invokestatic 48, 3) := by decide +kernel
theorem dX0_told_95 : decode cX0_told 95 = .ok (.aload_n 0, 1) := by decide +kernel
theorem dX0_told_96 : decode cX0_told 96 = .ok (.getfield 35, 3) := by decide +kernel
theorem dX0_told_99 : decode cX0_told 99 = .ok (.invokestatic 48, 3) := by decide +kernel
theorem dX0_told_102 : decode cX0_told 102 = .ok (.isub, 1) := by decide +kernel
theorem dX0_told_103 : decode cX0_told 103 = .ok (.ireturn, 1) := by decide +kernel
theorem dX0_isOver_0 : decode cX0_isOver 0 = .ok (.iconst 0, 1) := by decide +kernel
theorem dX0_isOver_1 : decode cX0_isOver 1 = .ok (.istore_n 1, 1) := by decide +kernel
theorem dX0_isOver_2 : decode cX0_isOver 2 = .ok (.iload_n 1, 1) := by decide +kernel
theorem dX0_isOver_3 : decode cX0_isOver 3 = .ok (.aload_n 0, 1) := by decide +kernel
theorem dX0_isOver_4 : decode cX0_isOver 4 = .ok (.getfield 91, 3) := by decide +kernel
theorem dX0_isOver_7 : decode cX0_isOver 7 = .ok (.if_icmp .ge 29, 3) := by decide +kernel
theorem dX0_isOver_10 : decode cX0_isOver 10 = .ok (.aload_n 0, 1) := by decide +kernel
theorem dX0_isOver_11 : decode cX0_isOver 11 = .ok (.getfield 17, 3) := by decide +kernel
theorem dX0_isOver_14 : decode cX0_isOver 14 = .ok (.iload_n 1, 1) := by decide +kernel
theorem dX0_isOver_15 : decode cX0_isOver 15 = .ok (.baload, 1) := by decide +kernel
theorem dX0_isOver_16 : decode cX0_isOver 16 = .ok (.ifCond .eq 14, 3) := by decide +kernel
theorem dX0_isOver_19 : decode cX0_isOver 19 = .ok (.aload_n 0, 1) := by decide +kernel
theorem dX0_isOver_20 : decode cX0_isOver 20 = .ok (.getfield 9, 3) := by decide +kernel
theorem dX0_isOver_23 : decode cX0_isOver 23 = .ok (.iload_n 1, 1) := by decide +kernel
theorem dX0_isOver_24 : decode cX0_isOver 24 = .ok (.iaload, 1) := by decide +kernel
theorem dX0_isOver_25 : decode cX0_isOver 25 = .ok (.ifCond .ne 5, 3) := by decide +kernel
theorem dX0_isOver_28 : decode cX0_isOver 28 = .ok (.iconst 1, 1) := by decide +kernel
theorem dX0_isOver_29 : decode cX0_isOver 29 = .ok (.ireturn, 1) := by decide +kernel
theorem dX0_isOver_30 : decode cX0_isOver 30 = .ok (.iinc 1 1, 3) := by decide +kernel
theorem dX0_isOver_33 : decode cX0_isOver 33 = .ok (.goto (-31), 3) := by decide +kernel
theorem dX0_isOver_36 : decode cX0_isOver 36 = .ok (.iconst 0, 1) := by decide +kernel
theorem dX0_isOver_37 : decode cX0_isOver 37 = .ok (.ireturn, 1) := by decide +kernel
theorem dX0_wrong_0 : decode cX0_wrong 0 = .ok (.iconst 0, 1) := by decide +kernel
theorem dX0_wrong_1 : decode cX0_wrong 1 = .ok (.ireturn, 1) := by decide +kernel
theorem dX0_count_0 : decode cX0_count 0 = .ok (.iload_n 1, 1) := by decide +kernel
theorem dX0_count_1 : decode cX0_count 1 = .ok (.tableswitch 63 0 4 #[35, 40, 45, 50, 58], 35) := by decide +kernel
theorem dX0_count_36 : decode cX0_count 36 = .ok (.aload_n 0, 1) := by decide +kernel
theorem dX0_count_37 : decode cX0_count 37 = .ok (.getfield 91, 3) := by decide +kernel
theorem dX0_count_40 : decode cX0_count 40 = .ok (.ireturn, 1) := by decide +kernel
theorem dX0_count_41 : decode cX0_count 41 = .ok (.aload_n 0, 1) := by decide +kernel
theorem dX0_count_42 : decode cX0_count 42 = .ok (.getfield 84, 3) := by decide +kernel
theorem dX0_count_45 : decode cX0_count 45 = .ok (.ireturn, 1) := by decide +kernel
theorem dX0_count_46 : decode cX0_count 46 = .ok (.aload_n 0, 1) := by decide +kernel
theorem dX0_count_47 : decode cX0_count 47 = .ok (.getfield 74, 3) := by decide +kernel
theorem dX0_count_50 : decode cX0_count 50 = .ok (.ireturn, 1) := by decide +kernel
theorem dX0_count_51 : decode cX0_count 51 = .ok (.aload_n 0, 1) := by decide +kernel
theorem dX0_count_52 : decode cX0_count 52 = .ok (.getfield 35, 3) := by decide +kernel
theorem dX0_count_55 : decode cX0_count 55 = .ok (.invokestatic 48, 3) := by decide +kernel
theorem dX0_count_58 : decode cX0_count 58 = .ok (.ireturn, 1) := by decide +kernel
theorem dX0_count_59 : decode cX0_count 59 = .ok (.aload_n 0, 1) := by decide +kernel
theorem dX0_count_60 : decode cX0_count 60 = .ok (.getfield 53, 3) := by decide +kernel
theorem dX0_count_63 : decode cX0_count 63 = .ok (.ireturn, 1) := by decide +kernel
theorem dX0_count_64 : decode cX0_count 64 = .ok (.new 24, 3) := by decide +kernel
theorem dX0_count_67 : decode cX0_count 67 = .ok (.dup, 1) := by decide +kernel
theorem dX0_count_68 : decode cX0_count 68 = .ok (.ldc 102, 2) := by decide +kernel
theorem dX0_count_70 : decode cX0_count 70 = .ok (.invokespecial 28, 3) := by decide +kernel
theorem dX0_count_73 : decode cX0_count 73 = .ok (.athrow, 1) := by decide +kernel
theorem dX0_bitOf_0 : decode cX0_bitOf 0 = .ok (.iload_n 0, 1) := by decide +kernel
theorem dX0_bitOf_1 : decode cX0_bitOf 1 = .ok (.ifCond .le 11, 3) := by decide +kernel
theorem dX0_bitOf_4 : decode cX0_bitOf 4 = .ok (.iconst 1, 1) := by decide +kernel
theorem dX0_bitOf_5 : decode cX0_bitOf 5 = .ok (.iload_n 0, 1) := by decide +kernel
theorem dX0_bitOf_6 : decode cX0_bitOf 6 = .ok (.iconst 1, 1) := by decide +kernel
theorem dX0_bitOf_7 : decode cX0_bitOf 7 = .ok (.isub, 1) := by decide +kernel
theorem dX0_bitOf_8 : decode cX0_bitOf 8 = .ok (.ishl, 1) := by decide +kernel
theorem dX0_bitOf_9 : decode cX0_bitOf 9 = .ok (.goto 9, 3) := by decide +kernel
theorem dX0_bitOf_12 : decode cX0_bitOf 12 = .ok (.iconst 1, 1) := by decide +kernel
theorem dX0_bitOf_13 : decode cX0_bitOf 13 = .ok (.bipush 15, 2) := by decide +kernel
theorem dX0_bitOf_15 : decode cX0_bitOf 15 = .ok (.iload_n 0, 1) := by decide +kernel
theorem dX0_bitOf_16 : decode cX0_bitOf 16 = .ok (.isub, 1) := by decide +kernel
theorem dX0_bitOf_17 : decode cX0_bitOf 17 = .ok (.ishl, 1) := by decide +kernel
theorem dX0_bitOf_18 : decode cX0_bitOf 18 = .ok (.ireturn, 1) := by decide +kernel
theorem dX0_negated_0 : decode cX0_negated 0 = .ok (.iload_n 0, 1) := by decide +kernel
theorem dX0_negated_1 : decode cX0_negated 1 = .ok (.bipush 16, 2) := by decide +kernel
theorem dX0_negated_3 : decode cX0_negated 3 = .ok (.ishl, 1) := by decide +kernel
theorem dX0_negated_4 : decode cX0_negated 4 = .ok (.iload_n 0, 1) := by decide +kernel
theorem dX0_negated_5 : decode cX0_negated 5 = .ok (.bipush 16, 2) := by decide +kernel
theorem dX0_negated_7 : decode cX0_negated 7 = .ok (.iushr, 1) := by decide +kernel
theorem dX0_negated_8 : decode cX0_negated 8 = .ok (.ior, 1) := by decide +kernel
theorem dX0_negated_9 : decode cX0_negated 9 = .ok (.ireturn, 1) := by decide +kernel
theorem dX0_sizeOf_0 : decode cX0_sizeOf 0 = .ok (.iload_n 0, 1) := by decide +kernel
theorem dX0_sizeOf_1 : decode cX0_sizeOf 1 = .ok (.invokestatic 104, 3) := by decide +kernel
theorem dX0_sizeOf_4 : decode cX0_sizeOf 4 = .ok (.ireturn, 1) := by decide +kernel
theorem dX0_isWrong_0 : decode cX0_isWrong 0 = .ok (.iload_n 0, 1) := by decide +kernel
theorem dX0_isWrong_1 : decode cX0_isWrong 1 = .ok (.iload_n 1, 1) := by decide +kernel
theorem dX0_isWrong_2 : decode cX0_isWrong 2 = .ok (.iconst (-1), 1) := by decide +kernel
theorem dX0_isWrong_3 : decode cX0_isWrong 3 = .ok (.ixor, 1) := by decide +kernel
theorem dX0_isWrong_4 : decode cX0_isWrong 4 = .ok (.iand, 1) := by decide +kernel
theorem dX0_isWrong_5 : decode cX0_isWrong 5 = .ok (.ifCond .ne 7, 3) := by decide +kernel
theorem dX0_isWrong_8 : decode cX0_isWrong 8 = .ok (.iconst 1, 1) := by decide +kernel
theorem dX0_isWrong_9 : decode cX0_isWrong 9 = .ok (.goto 4, 3) := by decide +kernel
theorem dX0_isWrong_12 : decode cX0_isWrong 12 = .ok (.iconst 0, 1) := by decide +kernel
theorem dX0_isWrong_13 : decode cX0_isWrong 13 = .ok (.ireturn, 1) := by decide +kernel
theorem dX0_toldBy_0 : decode cX0_toldBy 0 = .ok (.iload_n 0, 1) := by decide +kernel
theorem dX0_toldBy_1 : decode cX0_toldBy 1 = .ok (.iload_n 1, 1) := by decide +kernel
theorem dX0_toldBy_2 : decode cX0_toldBy 2 = .ok (.iconst (-1), 1) := by decide +kernel
theorem dX0_toldBy_3 : decode cX0_toldBy 3 = .ok (.ixor, 1) := by decide +kernel
theorem dX0_toldBy_4 : decode cX0_toldBy 4 = .ok (.iand, 1) := by decide +kernel
theorem dX0_toldBy_5 : decode cX0_toldBy 5 = .ok (.istore_n 2, 1) := by decide +kernel
theorem dX0_toldBy_6 : decode cX0_toldBy 6 = .ok (.iload_n 2, 1) := by decide +kernel
theorem dX0_toldBy_7 : decode cX0_toldBy 7 = .ok (.iload_n 1, 1) := by decide +kernel
theorem dX0_toldBy_8 : decode cX0_toldBy 8 = .ok (.invokestatic 39, 3) := by decide +kernel
theorem dX0_toldBy_11 : decode cX0_toldBy 11 = .ok (.iand, 1) := by decide +kernel
theorem dX0_toldBy_12 : decode cX0_toldBy 12 = .ok (.ifCond .eq 7, 3) := by decide +kernel
theorem dX0_toldBy_15 : decode cX0_toldBy 15 = .ok (.iconst 1, 1) := by decide +kernel
theorem dX0_toldBy_16 : decode cX0_toldBy 16 = .ok (.goto 4, 3) := by decide +kernel
theorem dX0_toldBy_19 : decode cX0_toldBy 19 = .ok (.iconst 0, 1) := by decide +kernel
theorem dX0_toldBy_20 : decode cX0_toldBy 20 = .ok (.istore_n 3, 1) := by decide +kernel
theorem dX0_toldBy_21 : decode cX0_toldBy 21 = .ok (.iload_n 2, 1) := by decide +kernel
theorem dX0_toldBy_22 : decode cX0_toldBy 22 = .ok (.invokestatic 48, 3) := by decide +kernel
theorem dX0_toldBy_25 : decode cX0_toldBy 25 = .ok (.iconst 1, 1) := by decide +kernel
theorem dX0_toldBy_26 : decode cX0_toldBy 26 = .ok (.if_icmp .ne 11, 3) := by decide +kernel
theorem dX0_toldBy_29 : decode cX0_toldBy 29 = .ok (.iload_n 3, 1) := by decide +kernel
theorem dX0_toldBy_30 : decode cX0_toldBy 30 = .ok (.ifCond .ne 7, 3) := by decide +kernel
theorem dX0_toldBy_33 : decode cX0_toldBy 33 = .ok (.iload_n 2, 1) := by decide +kernel
theorem dX0_toldBy_34 : decode cX0_toldBy 34 = .ok (.goto 4, 3) := by decide +kernel
theorem dX0_toldBy_37 : decode cX0_toldBy 37 = .ok (.iconst 0, 1) := by decide +kernel
theorem dX0_toldBy_38 : decode cX0_toldBy 38 = .ok (.ireturn, 1) := by decide +kernel
theorem dX0_firstBadHint_0 : decode cX0_firstBadHint 0 = .ok (.aload_n 0, 1) := by decide +kernel
theorem dX0_firstBadHint_1 : decode cX0_firstBadHint 1 = .ok (.getfield 35, 3) := by decide +kernel
theorem dX0_firstBadHint_4 : decode cX0_firstBadHint 4 = .ok (.istore_n 1, 1) := by decide +kernel
theorem dX0_firstBadHint_5 : decode cX0_firstBadHint 5 = .ok (.iconst 0, 1) := by decide +kernel
theorem dX0_firstBadHint_6 : decode cX0_firstBadHint 6 = .ok (.istore_n 2, 1) := by decide +kernel
theorem dX0_firstBadHint_7 : decode cX0_firstBadHint 7 = .ok (.iload_n 2, 1) := by decide +kernel
theorem dX0_firstBadHint_8 : decode cX0_firstBadHint 8 = .ok (.aload_n 0, 1) := by decide +kernel
theorem dX0_firstBadHint_9 : decode cX0_firstBadHint 9 = .ok (.getfield 53, 3) := by decide +kernel
theorem dX0_firstBadHint_12 : decode cX0_firstBadHint 12 = .ok (.if_icmp .ge 78, 3) := by decide +kernel
theorem dX0_firstBadHint_15 : decode cX0_firstBadHint 15 = .ok (.aload_n 0, 1) := by decide +kernel
theorem dX0_firstBadHint_16 : decode cX0_firstBadHint 16 = .ok (.getfield 21, 3) := by decide +kernel
theorem dX0_firstBadHint_19 : decode cX0_firstBadHint 19 = .ok (.iload_n 2, 1) := by decide +kernel
theorem dX0_firstBadHint_20 : decode cX0_firstBadHint 20 = .ok (.iaload, 1) := by decide +kernel
theorem dX0_firstBadHint_21 : decode cX0_firstBadHint 21 = .ok (.istore_n 3, 1) := by decide +kernel
theorem dX0_firstBadHint_22 : decode cX0_firstBadHint 22 = .ok (.aload_n 0, 1) := by decide +kernel
theorem dX0_firstBadHint_23 : decode cX0_firstBadHint 23 = .ok (.iload_n 3, 1) := by decide +kernel
theorem dX0_firstBadHint_24 : decode cX0_firstBadHint 24 = .ok (.invokevirtual 109, 3) := by decide +kernel
theorem dX0_firstBadHint_27 : decode cX0_firstBadHint 27 = .ok (.ifCond .ne 5, 3) := by decide +kernel
theorem dX0_firstBadHint_30 : decode cX0_firstBadHint 30 = .ok (.iload_n 2, 1) := by decide +kernel
theorem dX0_firstBadHint_31 : decode cX0_firstBadHint 31 = .ok (.ireturn, 1) := by decide +kernel
theorem dX0_firstBadHint_32 : decode cX0_firstBadHint 32 = .ok (.iload_n 2, 1) := by decide +kernel
theorem dX0_firstBadHint_33 : decode cX0_firstBadHint 33 = .ok (.aload_n 0, 1) := by decide +kernel
theorem dX0_firstBadHint_34 : decode cX0_firstBadHint 34 = .ok (.getfield 53, 3) := by decide +kernel
theorem dX0_firstBadHint_37 : decode cX0_firstBadHint 37 = .ok (.iconst 1, 1) := by decide +kernel
theorem dX0_firstBadHint_38 : decode cX0_firstBadHint 38 = .ok (.isub, 1) := by decide +kernel
theorem dX0_firstBadHint_39 : decode cX0_firstBadHint 39 = .ok (.if_icmp .ne 18, 3) := by decide +kernel
theorem dX0_firstBadHint_42 : decode cX0_firstBadHint 42 = .ok (.aload_n 0, 1) := by decide +kernel
theorem dX0_firstBadHint_43 : decode cX0_firstBadHint 43 = .ok (.getfield 9, 3) := by decide +kernel
theorem dX0_firstBadHint_46 : decode cX0_firstBadHint 46 = .ok (.iload_n 3, 1) := by decide +kernel
theorem dX0_firstBadHint_47 : decode cX0_firstBadHint 47 = .ok (.iaload, 1) := by decide +kernel
theorem dX0_firstBadHint_48 : decode cX0_firstBadHint 48 = .ok (.iload_n 1, 1) := by decide +kernel
theorem dX0_firstBadHint_49 : decode cX0_firstBadHint 49 = .ok (.invokestatic 94, 3) := by decide +kernel
theorem dX0_firstBadHint_52 : decode cX0_firstBadHint 52 = .ok (.ifCond .eq 5, 3) := by decide +kernel
theorem dX0_firstBadHint_55 : decode cX0_firstBadHint 55 = .ok (.iconst (-1), 1) := by decide +kernel
theorem dX0_firstBadHint_56 : decode cX0_firstBadHint 56 = .ok (.ireturn, 1) := by decide +kernel
theorem dX0_firstBadHint_57 : decode cX0_firstBadHint 57 = .ok (.aload_n 0, 1) := by decide +kernel
theorem dX0_firstBadHint_58 : decode cX0_firstBadHint 58 = .ok (.getfield 9, 3) := by decide +kernel
theorem dX0_firstBadHint_61 : decode cX0_firstBadHint 61 = .ok (.iload_n 3, 1) := by decide +kernel
theorem dX0_firstBadHint_62 : decode cX0_firstBadHint 62 = .ok (.iaload, 1) := by decide +kernel
theorem dX0_firstBadHint_63 : decode cX0_firstBadHint 63 = .ok (.iload_n 1, 1) := by decide +kernel
theorem dX0_firstBadHint_64 : decode cX0_firstBadHint 64 = .ok (.invokestatic 98, 3) := by decide +kernel
theorem dX0_firstBadHint_67 : decode cX0_firstBadHint 67 = .ok (.istore 4, 2) := by decide +kernel
theorem dX0_firstBadHint_69 : decode cX0_firstBadHint 69 = .ok (.iload 4, 2) := by decide +kernel
theorem dX0_firstBadHint_71 : decode cX0_firstBadHint 71 = .ok (.ifCond .ne 5, 3) := by decide +kernel
theorem dX0_firstBadHint_74 : decode cX0_firstBadHint 74 = .ok (.iload_n 2, 1) := by decide +kernel
theorem dX0_firstBadHint_75 : decode cX0_firstBadHint 75 = .ok (.ireturn, 1) := by decide +kernel
theorem dX0_firstBadHint_76 : decode cX0_firstBadHint 76 = .ok (.iload_n 1, 1) := by decide +kernel
theorem dX0_firstBadHint_77 : decode cX0_firstBadHint 77 = .ok (.iload 4, 2) := by decide +kernel
theorem dX0_firstBadHint_79 : decode cX0_firstBadHint 79 = .ok (.invokestatic 39, 3) := by decide +kernel
theorem dX0_firstBadHint_82 : decode cX0_firstBadHint 82 = .ok (.ior, 1) := by decide +kernel
theorem dX0_firstBadHint_83 : decode cX0_firstBadHint 83 = .ok (.istore_n 1, 1) := by decide +kernel
theorem dX0_firstBadHint_84 : decode cX0_firstBadHint 84 = .ok (.iinc 2 1, 3) := by decide +kernel
theorem dX0_firstBadHint_87 : decode cX0_firstBadHint 87 = .ok (.goto (-80), 3) := by decide +kernel
theorem dX0_firstBadHint_90 : decode cX0_firstBadHint 90 = .ok (.aload_n 0, 1) := by decide +kernel
theorem dX0_firstBadHint_91 : decode cX0_firstBadHint 91 = .ok (.getfield 53, 3) := by decide +kernel
theorem dX0_firstBadHint_94 : decode cX0_firstBadHint 94 = .ok (.ireturn, 1) := by decide +kernel
theorem dX0_isThere_0 : decode cX0_isThere 0 = .ok (.iload_n 1, 1) := by decide +kernel
theorem dX0_isThere_1 : decode cX0_isThere 1 = .ok (.ifCond .lt 24, 3) := by decide +kernel
theorem dX0_isThere_4 : decode cX0_isThere 4 = .ok (.iload_n 1, 1) := by decide +kernel
theorem dX0_isThere_5 : decode cX0_isThere 5 = .ok (.aload_n 0, 1) := by decide +kernel
theorem dX0_isThere_6 : decode cX0_isThere 6 = .ok (.getfield 91, 3) := by decide +kernel
theorem dX0_isThere_9 : decode cX0_isThere 9 = .ok (.if_icmp .ge 16, 3) := by decide +kernel
theorem dX0_isThere_12 : decode cX0_isThere 12 = .ok (.aload_n 0, 1) := by decide +kernel
theorem dX0_isThere_13 : decode cX0_isThere 13 = .ok (.getfield 17, 3) := by decide +kernel
theorem dX0_isThere_16 : decode cX0_isThere 16 = .ok (.iload_n 1, 1) := by decide +kernel
theorem dX0_isThere_17 : decode cX0_isThere 17 = .ok (.baload, 1) := by decide +kernel
theorem dX0_isThere_18 : decode cX0_isThere 18 = .ok (.ifCond .eq 7, 3) := by decide +kernel
theorem dX0_isThere_21 : decode cX0_isThere 21 = .ok (.iconst 1, 1) := by decide +kernel
theorem dX0_isThere_22 : decode cX0_isThere 22 = .ok (.goto 4, 3) := by decide +kernel
theorem dX0_isThere_25 : decode cX0_isThere 25 = .ok (.iconst 0, 1) := by decide +kernel
theorem dX0_isThere_26 : decode cX0_isThere 26 = .ok (.ireturn, 1) := by decide +kernel
theorem dX0_refuseIfNotThere_0 : decode cX0_refuseIfNotThere 0 = .ok (.aload_n 0, 1) := by decide +kernel
theorem dX0_refuseIfNotThere_1 : decode cX0_refuseIfNotThere 1 = .ok (.iload_n 1, 1) := by decide +kernel
theorem dX0_refuseIfNotThere_2 : decode cX0_refuseIfNotThere 2 = .ok (.invokevirtual 109, 3) := by decide +kernel
theorem dX0_refuseIfNotThere_5 : decode cX0_refuseIfNotThere 5 = .ok (.ifCond .ne 13, 3) := by decide +kernel
theorem dX0_refuseIfNotThere_8 : decode cX0_refuseIfNotThere 8 = .ok (.new 24, 3) := by decide +kernel
theorem dX0_refuseIfNotThere_11 : decode cX0_refuseIfNotThere 11 = .ok (.dup, 1) := by decide +kernel
theorem dX0_refuseIfNotThere_12 : decode cX0_refuseIfNotThere 12 = .ok (.ldc 113, 2) := by decide +kernel
theorem dX0_refuseIfNotThere_14 : decode cX0_refuseIfNotThere 14 = .ok (.invokespecial 28, 3) := by decide +kernel
theorem dX0_refuseIfNotThere_17 : decode cX0_refuseIfNotThere 17 = .ok (.athrow, 1) := by decide +kernel
theorem dX0_refuseIfNotThere_18 : decode cX0_refuseIfNotThere 18 = .ok (.return_, 1) := by decide +kernel
theorem dX0_refuseIfFull_0 : decode cX0_refuseIfFull 0 = .ok (.aload_n 0, 1) := by decide +kernel
theorem dX0_refuseIfFull_1 : decode cX0_refuseIfFull 1 = .ok (.getfield 91, 3) := by decide +kernel
theorem dX0_refuseIfFull_4 : decode cX0_refuseIfFull 4 = .ok (.sipush 600, 3) := by decide +kernel
theorem dX0_refuseIfFull_7 : decode cX0_refuseIfFull 7 = .ok (.if_icmp .lt 13, 3) := by decide +kernel
theorem dX0_refuseIfFull_10 : decode cX0_refuseIfFull 10 = .ok (.new 56, 3) := by decide +kernel
theorem dX0_refuseIfFull_13 : decode cX0_refuseIfFull 13 = .ok (.dup, 1) := by decide +kernel
theorem dX0_refuseIfFull_14 : decode cX0_refuseIfFull 14 = .ok (.ldc 115, 2) := by decide +kernel
theorem dX0_refuseIfFull_16 : decode cX0_refuseIfFull 16 = .ok (.invokespecial 60, 3) := by decide +kernel
theorem dX0_refuseIfFull_19 : decode cX0_refuseIfFull 19 = .ok (.athrow, 1) := by decide +kernel
theorem dX0_refuseIfFull_20 : decode cX0_refuseIfFull 20 = .ok (.return_, 1) := by decide +kernel
theorem dX0_keepDraft_0 : decode cX0_keepDraft 0 = .ok (.aload_n 0, 1) := by decide +kernel
theorem dX0_keepDraft_1 : decode cX0_keepDraft 1 = .ok (.getfield 91, 3) := by decide +kernel
theorem dX0_keepDraft_4 : decode cX0_keepDraft 4 = .ok (.istore_n 1, 1) := by decide +kernel
theorem dX0_keepDraft_5 : decode cX0_keepDraft 5 = .ok (.aload_n 0, 1) := by decide +kernel
theorem dX0_keepDraft_6 : decode cX0_keepDraft 6 = .ok (.getfield 9, 3) := by decide +kernel
theorem dX0_keepDraft_9 : decode cX0_keepDraft 9 = .ok (.iload_n 1, 1) := by decide +kernel
theorem dX0_keepDraft_10 : decode cX0_keepDraft 10 = .ok (.aload_n 0, 1) := by decide +kernel
theorem dX0_keepDraft_11 : decode cX0_keepDraft 11 = .ok (.getfield 35, 3) := by decide +kernel
theorem dX0_keepDraft_14 : decode cX0_keepDraft 14 = .ok (.iastore, 1) := by decide +kernel
theorem dX0_keepDraft_15 : decode cX0_keepDraft 15 = .ok (.aload_n 0, 1) := by decide +kernel
theorem dX0_keepDraft_16 : decode cX0_keepDraft 16 = .ok (.getfield 13, 3) := by decide +kernel
theorem dX0_keepDraft_19 : decode cX0_keepDraft 19 = .ok (.iload_n 1, 1) := by decide +kernel
theorem dX0_keepDraft_20 : decode cX0_keepDraft 20 = .ok (.aload_n 0, 1) := by decide +kernel
theorem dX0_keepDraft_21 : decode cX0_keepDraft 21 = .ok (.getfield 44, 3) := by decide +kernel
theorem dX0_keepDraft_24 : decode cX0_keepDraft 24 = .ok (.lastore, 1) := by decide +kernel
theorem dX0_keepDraft_25 : decode cX0_keepDraft 25 = .ok (.aload_n 0, 1) := by decide +kernel
theorem dX0_keepDraft_26 : decode cX0_keepDraft 26 = .ok (.getfield 17, 3) := by decide +kernel
theorem dX0_keepDraft_29 : decode cX0_keepDraft 29 = .ok (.iload_n 1, 1) := by decide +kernel
theorem dX0_keepDraft_30 : decode cX0_keepDraft 30 = .ok (.iconst 1, 1) := by decide +kernel
theorem dX0_keepDraft_31 : decode cX0_keepDraft 31 = .ok (.bastore, 1) := by decide +kernel
theorem dX0_keepDraft_32 : decode cX0_keepDraft 32 = .ok (.aload_n 0, 1) := by decide +kernel
theorem dX0_keepDraft_33 : decode cX0_keepDraft 33 = .ok (.dup, 1) := by decide +kernel
theorem dX0_keepDraft_34 : decode cX0_keepDraft 34 = .ok (.getfield 91, 3) := by decide +kernel
theorem dX0_keepDraft_37 : decode cX0_keepDraft 37 = .ok (.iconst 1, 1) := by decide +kernel
theorem dX0_keepDraft_38 : decode cX0_keepDraft 38 = .ok (.iadd, 1) := by decide +kernel
theorem dX0_keepDraft_39 : decode cX0_keepDraft 39 = .ok (.putfield 91, 3) := by decide +kernel
theorem dX0_keepDraft_42 : decode cX0_keepDraft 42 = .ok (.aload_n 0, 1) := by decide +kernel
theorem dX0_keepDraft_43 : decode cX0_keepDraft 43 = .ok (.dup, 1) := by decide +kernel
theorem dX0_keepDraft_44 : decode cX0_keepDraft 44 = .ok (.getfield 84, 3) := by decide +kernel
theorem dX0_keepDraft_47 : decode cX0_keepDraft 47 = .ok (.iconst 1, 1) := by decide +kernel
theorem dX0_keepDraft_48 : decode cX0_keepDraft 48 = .ok (.iadd, 1) := by decide +kernel
theorem dX0_keepDraft_49 : decode cX0_keepDraft 49 = .ok (.putfield 84, 3) := by decide +kernel
theorem dX0_keepDraft_52 : decode cX0_keepDraft 52 = .ok (.aload_n 0, 1) := by decide +kernel
theorem dX0_keepDraft_53 : decode cX0_keepDraft 53 = .ok (.invokevirtual 61, 3) := by decide +kernel
theorem dX0_keepDraft_56 : decode cX0_keepDraft 56 = .ok (.iload_n 1, 1) := by decide +kernel
theorem dX0_keepDraft_57 : decode cX0_keepDraft 57 = .ok (.ireturn, 1) := by decide +kernel
theorem dX0_emptyDraft_0 : decode cX0_emptyDraft 0 = .ok (.aload_n 0, 1) := by decide +kernel
theorem dX0_emptyDraft_1 : decode cX0_emptyDraft 1 = .ok (.iconst 0, 1) := by decide +kernel
theorem dX0_emptyDraft_2 : decode cX0_emptyDraft 2 = .ok (.putfield 35, 3) := by decide +kernel
theorem dX0_emptyDraft_5 : decode cX0_emptyDraft 5 = .ok (.aload_n 0, 1) := by decide +kernel
theorem dX0_emptyDraft_6 : decode cX0_emptyDraft 6 = .ok (.lconst 0, 1) := by decide +kernel
theorem dX0_emptyDraft_7 : decode cX0_emptyDraft 7 = .ok (.putfield 44, 3) := by decide +kernel
theorem dX0_emptyDraft_10 : decode cX0_emptyDraft 10 = .ok (.return_, 1) := by decide +kernel
theorem dJ6_bitCount_0 : decode cJ6_bitCount 0 = .ok (.iload_n 0, 1) := by decide +kernel
theorem dJ6_bitCount_1 : decode cJ6_bitCount 1 = .ok (.iload_n 0, 1) := by decide +kernel
theorem dJ6_bitCount_2 : decode cJ6_bitCount 2 = .ok (.iconst 1, 1) := by decide +kernel
theorem dJ6_bitCount_3 : decode cJ6_bitCount 3 = .ok (.iushr, 1) := by decide +kernel
theorem dJ6_bitCount_4 : decode cJ6_bitCount 4 = .ok (.ldc_w 265, 3) := by decide +kernel
theorem dJ6_bitCount_7 : decode cJ6_bitCount 7 = .ok (.iand, 1) := by decide +kernel
theorem dJ6_bitCount_8 : decode cJ6_bitCount 8 = .ok (.isub, 1) := by decide +kernel
theorem dJ6_bitCount_9 : decode cJ6_bitCount 9 = .ok (.istore_n 0, 1) := by decide +kernel
theorem dJ6_bitCount_10 : decode cJ6_bitCount 10 = .ok (.iload_n 0, 1) := by decide +kernel
theorem dJ6_bitCount_11 : decode cJ6_bitCount 11 = .ok (.ldc_w 266, 3) := by decide +kernel
theorem dJ6_bitCount_14 : decode cJ6_bitCount 14 = .ok (.iand, 1) := by decide +kernel
theorem dJ6_bitCount_15 : decode cJ6_bitCount 15 = .ok (.iload_n 0, 1) := by decide +kernel
theorem dJ6_bitCount_16 : decode cJ6_bitCount 16 = .ok (.iconst 2, 1) := by decide +kernel
theorem dJ6_bitCount_17 : decode cJ6_bitCount 17 = .ok (.iushr, 1) := by decide +kernel
theorem dJ6_bitCount_18 : decode cJ6_bitCount 18 = .ok (.ldc_w 266, 3) := by decide +kernel
theorem dJ6_bitCount_21 : decode cJ6_bitCount 21 = .ok (.iand, 1) := by decide +kernel
theorem dJ6_bitCount_22 : decode cJ6_bitCount 22 = .ok (.iadd, 1) := by decide +kernel
theorem dJ6_bitCount_23 : decode cJ6_bitCount 23 = .ok (.istore_n 0, 1) := by decide +kernel
theorem dJ6_bitCount_24 : decode cJ6_bitCount 24 = .ok (.iload_n 0, 1) := by decide +kernel
theorem dJ6_bitCount_25 : decode cJ6_bitCount 25 = .ok (.iload_n 0, 1) := by decide +kernel
theorem dJ6_bitCount_26 : decode cJ6_bitCount 26 = .ok (.iconst 4, 1) := by decide +kernel
theorem dJ6_bitCount_27 : decode cJ6_bitCount 27 = .ok (.iushr, 1) := by decide +kernel
theorem dJ6_bitCount_28 : decode cJ6_bitCount 28 = .ok (.iadd, 1) := by decide +kernel
theorem dJ6_bitCount_29 : decode cJ6_bitCount 29 = .ok (.ldc_w 267, 3) := by decide +kernel
theorem dJ6_bitCount_32 : decode cJ6_bitCount 32 = .ok (.iand, 1) := by decide +kernel
theorem dJ6_bitCount_33 : decode cJ6_bitCount 33 = .ok (.istore_n 0, 1) := by decide +kernel
theorem dJ6_bitCount_34 : decode cJ6_bitCount 34 = .ok (.iload_n 0, 1) := by decide +kernel
theorem dJ6_bitCount_35 : decode cJ6_bitCount 35 = .ok (.iload_n 0, 1) := by decide +kernel
theorem dJ6_bitCount_36 : decode cJ6_bitCount 36 = .ok (.bipush 8, 2) := by decide +kernel
theorem dJ6_bitCount_38 : decode cJ6_bitCount 38 = .ok (.iushr, 1) := by decide +kernel
theorem dJ6_bitCount_39 : decode cJ6_bitCount 39 = .ok (.iadd, 1) := by decide +kernel
theorem dJ6_bitCount_40 : decode cJ6_bitCount 40 = .ok (.istore_n 0, 1) := by decide +kernel
theorem dJ6_bitCount_41 : decode cJ6_bitCount 41 = .ok (.iload_n 0, 1) := by decide +kernel
theorem dJ6_bitCount_42 : decode cJ6_bitCount 42 = .ok (.iload_n 0, 1) := by decide +kernel
theorem dJ6_bitCount_43 : decode cJ6_bitCount 43 = .ok (.bipush 16, 2) := by decide +kernel
theorem dJ6_bitCount_45 : decode cJ6_bitCount 45 = .ok (.iushr, 1) := by decide +kernel
theorem dJ6_bitCount_46 : decode cJ6_bitCount 46 = .ok (.iadd, 1) := by decide +kernel
theorem dJ6_bitCount_47 : decode cJ6_bitCount 47 = .ok (.istore_n 0, 1) := by decide +kernel
theorem dJ6_bitCount_48 : decode cJ6_bitCount 48 = .ok (.iload_n 0, 1) := by decide +kernel
theorem dJ6_bitCount_49 : decode cJ6_bitCount 49 = .ok (.bipush 63, 2) := by decide +kernel
theorem dJ6_bitCount_51 : decode cJ6_bitCount 51 = .ok (.iand, 1) := by decide +kernel
theorem dJ6_bitCount_52 : decode cJ6_bitCount 52 = .ok (.ireturn, 1) := by decide +kernel
end
section
theorem dX1_init_0 : decode cX1_init 0 = .ok (.aload_n 0, 1) := by decide +kernel
theorem dX1_init_1 : decode cX1_init 1 = .ok (.invokespecial 1, 3) := by decide +kernel
theorem dX1_init_4 : decode cX1_init 4 = .ok (.aload_n 0, 1) := by decide +kernel
theorem dX1_init_5 : decode cX1_init 5 = .ok (.sipush 9600, 3) := by decide +kernel
theorem dX1_init_8 : decode cX1_init 8 = .ok (.newarray .int, 2) := by decide +kernel
theorem dX1_init_10 : decode cX1_init 10 = .ok (.putfield 7, 3) := by decide +kernel
theorem dX1_init_13 : decode cX1_init 13 = .ok (.aload_n 0, 1) := by decide +kernel
theorem dX1_init_14 : decode cX1_init 14 = .ok (.sipush 600, 3) := by decide +kernel
theorem dX1_init_17 : decode cX1_init 17 = .ok (.newarray .int, 2) := by decide +kernel
theorem dX1_init_19 : decode cX1_init 19 = .ok (.putfield 13, 3) := by decide +kernel
theorem dX1_init_22 : decode cX1_init 22 = .ok (.aload_n 0, 1) := by decide +kernel
theorem dX1_init_23 : decode cX1_init 23 = .ok (.bipush 16, 2) := by decide +kernel
theorem dX1_init_25 : decode cX1_init 25 = .ok (.newarray .int, 2) := by decide +kernel
theorem dX1_init_27 : decode cX1_init 27 = .ok (.putfield 16, 3) := by decide +kernel
theorem dX1_init_30 : decode cX1_init 30 = .ok (.aload_n 0, 1) := by decide +kernel
theorem dX1_init_31 : decode cX1_init 31 = .ok (.bipush 40, 2) := by decide +kernel
theorem dX1_init_33 : decode cX1_init 33 = .ok (.newarray .int, 2) := by decide +kernel
theorem dX1_init_35 : decode cX1_init 35 = .ok (.putfield 19, 3) := by decide +kernel
theorem dX1_init_38 : decode cX1_init 38 = .ok (.aload_n 0, 1) := by decide +kernel
theorem dX1_init_39 : decode cX1_init 39 = .ok (.bipush 17, 2) := by decide +kernel
theorem dX1_init_41 : decode cX1_init 41 = .ok (.newarray .int, 2) := by decide +kernel
theorem dX1_init_43 : decode cX1_init 43 = .ok (.putfield 22, 3) := by decide +kernel
theorem dX1_init_46 : decode cX1_init 46 = .ok (.aload_n 0, 1) := by decide +kernel
theorem dX1_init_47 : decode cX1_init 47 = .ok (.sipush 1024, 3) := by decide +kernel
theorem dX1_init_50 : decode cX1_init 50 = .ok (.newarray .long, 2) := by decide +kernel
theorem dX1_init_52 : decode cX1_init 52 = .ok (.putfield 25, 3) := by decide +kernel
theorem dX1_init_55 : decode cX1_init 55 = .ok (.aload_n 0, 1) := by decide +kernel
theorem dX1_init_56 : decode cX1_init 56 = .ok (.bipush 7, 2) := by decide +kernel
theorem dX1_init_58 : decode cX1_init 58 = .ok (.newarray .long, 2) := by decide +kernel
theorem dX1_init_60 : decode cX1_init 60 = .ok (.putfield 29, 3) := by decide +kernel
theorem dX1_init_63 : decode cX1_init 63 = .ok (.iconst 1, 1) := by decide +kernel
theorem dX1_init_64 : decode cX1_init 64 = .ok (.istore_n 1, 1) := by decide +kernel
theorem dX1_init_65 : decode cX1_init 65 = .ok (.iload_n 1, 1) := by decide +kernel
theorem dX1_init_66 : decode cX1_init 66 = .ok (.bipush 7, 2) := by decide +kernel
theorem dX1_init_68 : decode cX1_init 68 = .ok (.if_icmp .ge 42, 3) := by decide +kernel
theorem dX1_init_71 : decode cX1_init 71 = .ok (.iconst 0, 1) := by decide +kernel
theorem dX1_init_72 : decode cX1_init 72 = .ok (.istore_n 2, 1) := by decide +kernel
theorem dX1_init_73 : decode cX1_init 73 = .ok (.iload_n 2, 1) := by decide +kernel
theorem dX1_init_74 : decode cX1_init 74 = .ok (.bipush 64, 2) := by decide +kernel
theorem dX1_init_76 : decode cX1_init 76 = .ok (.if_icmp .ge 28, 3) := by decide +kernel
theorem dX1_init_79 : decode cX1_init 79 = .ok (.aload_n 0, 1) := by decide +kernel
theorem dX1_init_80 : decode cX1_init 80 = .ok (.getfield 29, 3) := by decide +kernel
theorem dX1_init_83 : decode cX1_init 83 = .ok (.iload_n 1, 1) := by decide +kernel
theorem dX1_init_84 : decode cX1_init 84 = .ok (.dup2, 1) := by decide +kernel
theorem dX1_init_85 : decode cX1_init 85 = .ok (.laload, 1) := by decide +kernel
theorem dX1_init_86 : decode cX1_init 86 = .ok (.iload_n 2, 1) := by decide +kernel
theorem dX1_init_87 : decode cX1_init 87 = .ok (.iload_n 1, 1) := by decide +kernel
theorem dX1_init_88 : decode cX1_init 88 = .ok (.iconst 1, 1) := by decide +kernel
theorem dX1_init_89 : decode cX1_init 89 = .ok (.isub, 1) := by decide +kernel
theorem dX1_init_90 : decode cX1_init 90 = .ok (.ishr, 1) := by decide +kernel
theorem dX1_init_91 : decode cX1_init 91 = .ok (.iconst 1, 1) := by decide +kernel
theorem dX1_init_92 : decode cX1_init 92 = .ok (.iand, 1) := by decide +kernel
theorem dX1_init_93 : decode cX1_init 93 = .ok (.i2l, 1) := by decide +kernel
theorem dX1_init_94 : decode cX1_init 94 = .ok (.iload_n 2, 1) := by decide +kernel
theorem dX1_init_95 : decode cX1_init 95 = .ok (.lshl, 1) := by decide +kernel
theorem dX1_init_96 : decode cX1_init 96 = .ok (.lor, 1) := by decide +kernel
theorem dX1_init_97 : decode cX1_init 97 = .ok (.lastore, 1) := by decide +kernel
theorem dX1_init_98 : decode cX1_init 98 = .ok (.iinc 2 1, 3) := by decide +kernel
theorem dX1_init_101 : decode cX1_init 101 = .ok (.goto (-28), 3) := by decide +kernel
theorem dX1_init_104 : decode cX1_init 104 = .ok (.iinc 1 1, 3) := by decide +kernel
theorem dX1_init_107 : decode cX1_init 107 = .ok (.goto (-42), 3) := by decide +kernel
theorem dX1_init_110 : decode cX1_init 110 = .ok (.iconst 0, 1) := by decide +kernel
theorem dX1_init_111 : decode cX1_init 111 = .ok (.istore_n 1, 1) := by decide +kernel
theorem dX1_init_112 : decode cX1_init 112 = .ok (.iload_n 1, 1) := by decide +kernel
theorem dX1_init_113 : decode cX1_init 113 = .ok (.sipush 1024, 3) := by decide +kernel
theorem dX1_init_116 : decode cX1_init 116 = .ok (.if_icmp .ge 18, 3) := by decide +kernel
theorem dX1_init_119 : decode cX1_init 119 = .ok (.aload_n 0, 1) := by decide +kernel
theorem dX1_init_120 : decode cX1_init 120 = .ok (.getfield 25, 3) := by decide +kernel
theorem dX1_init_123 : decode cX1_init 123 = .ok (.iload_n 1, 1) := by decide +kernel
theorem dX1_init_124 : decode cX1_init 124 = .ok (.ldc2_w 32, 3) := by decide +kernel
theorem dX1_init_127 : decode cX1_init 127 = .ok (.lastore, 1) := by decide +kernel
theorem dX1_init_128 : decode cX1_init 128 = .ok (.iinc 1 1, 3) := by decide +kernel
theorem dX1_init_131 : decode cX1_init 131 = .ok (.goto (-19), 3) := by decide +kernel
theorem dX1_init_134 : decode cX1_init 134 = .ok (.return_, 1) := by decide +kernel
theorem dX1_thrown_0 : decode cX1_thrown 0 = .ok (.aload_n 0, 1) := by decide +kernel
theorem dX1_thrown_1 : decode cX1_thrown 1 = .ok (.getfield 34, 3) := by decide +kernel
theorem dX1_thrown_4 : decode cX1_thrown 4 = .ok (.ireturn, 1) := by decide +kernel
theorem dX1_literal_0 : decode cX1_literal 0 = .ok (.iload_n 1, 1) := by decide +kernel
theorem dX1_literal_1 : decode cX1_literal 1 = .ok (.ifCond .eq 19, 3) := by decide +kernel
theorem dX1_literal_4 : decode cX1_literal 4 = .ok (.iload_n 1, 1) := by decide +kernel
theorem dX1_literal_5 : decode cX1_literal 5 = .ok (.bipush (-16), 2) := by decide +kernel
theorem dX1_literal_7 : decode cX1_literal 7 = .ok (.if_icmp .lt 13, 3) := by decide +kernel
theorem dX1_literal_10 : decode cX1_literal 10 = .ok (.iload_n 1, 1) := by decide +kernel
theorem dX1_literal_11 : decode cX1_literal 11 = .ok (.bipush 16, 2) := by decide +kernel
theorem dX1_literal_13 : decode cX1_literal 13 = .ok (.if_icmp .gt 7, 3) := by decide +kernel
theorem dX1_literal_16 : decode cX1_literal 16 = .ok (.iconst 1, 1) := by decide +kernel
theorem dX1_literal_17 : decode cX1_literal 17 = .ok (.goto 4, 3) := by decide +kernel
theorem dX1_literal_20 : decode cX1_literal 20 = .ok (.iconst 0, 1) := by decide +kernel
theorem dX1_literal_21 : decode cX1_literal 21 = .ok (.istore_n 2, 1) := by decide +kernel
theorem dX1_literal_22 : decode cX1_literal 22 = .ok (.iconst 0, 1) := by decide +kernel
theorem dX1_literal_23 : decode cX1_literal 23 = .ok (.istore_n 3, 1) := by decide +kernel
theorem dX1_literal_24 : decode cX1_literal 24 = .ok (.iload_n 3, 1) := by decide +kernel
theorem dX1_literal_25 : decode cX1_literal 25 = .ok (.aload_n 0, 1) := by decide +kernel
theorem dX1_literal_26 : decode cX1_literal 26 = .ok (.getfield 38, 3) := by decide +kernel
theorem dX1_literal_29 : decode cX1_literal 29 = .ok (.if_icmp .ge 40, 3) := by decide +kernel
theorem dX1_literal_32 : decode cX1_literal 32 = .ok (.iload_n 2, 1) := by decide +kernel
theorem dX1_literal_33 : decode cX1_literal 33 = .ok (.ifCond .eq 36, 3) := by decide +kernel
theorem dX1_literal_36 : decode cX1_literal 36 = .ok (.aload_n 0, 1) := by decide +kernel
theorem dX1_literal_37 : decode cX1_literal 37 = .ok (.getfield 16, 3) := by decide +kernel
theorem dX1_literal_40 : decode cX1_literal 40 = .ok (.iload_n 3, 1) := by decide +kernel
theorem dX1_literal_41 : decode cX1_literal 41 = .ok (.iaload, 1) := by decide +kernel
theorem dX1_literal_42 : decode cX1_literal 42 = .ok (.iload_n 1, 1) := by decide +kernel
theorem dX1_literal_43 : decode cX1_literal 43 = .ok (.if_icmp .eq 18, 3) := by decide +kernel
theorem dX1_literal_46 : decode cX1_literal 46 = .ok (.aload_n 0, 1) := by decide +kernel
theorem dX1_literal_47 : decode cX1_literal 47 = .ok (.getfield 16, 3) := by decide +kernel
theorem dX1_literal_50 : decode cX1_literal 50 = .ok (.iload_n 3, 1) := by decide +kernel
theorem dX1_literal_51 : decode cX1_literal 51 = .ok (.iaload, 1) := by decide +kernel
theorem dX1_literal_52 : decode cX1_literal 52 = .ok (.iload_n 1, 1) := by decide +kernel
theorem dX1_literal_53 : decode cX1_literal 53 = .ok (.ineg, 1) := by decide +kernel
theorem dX1_literal_54 : decode cX1_literal 54 = .ok (.if_icmp .eq 7, 3) := by decide +kernel
theorem dX1_literal_57 : decode cX1_literal 57 = .ok (.iconst 1, 1) := by decide +kernel
theorem dX1_literal_58 : decode cX1_literal 58 = .ok (.goto 4, 3) := by decide +kernel
theorem dX1_literal_61 : decode cX1_literal 61 = .ok (.iconst 0, 1) := by decide +kernel
theorem dX1_literal_62 : decode cX1_literal 62 = .ok (.istore_n 2, 1) := by decide +kernel
theorem dX1_literal_63 : decode cX1_literal 63 = .ok (.iinc 3 1, 3) := by decide +kernel
theorem dX1_literal_66 : decode cX1_literal 66 = .ok (.goto (-42), 3) := by decide +kernel
theorem dX1_literal_69 : decode cX1_literal 69 = .ok (.aload_n 0, 1) := by decide +kernel
theorem dX1_literal_70 : decode cX1_literal 70 = .ok (.iload_n 2, 1) := by decide +kernel
theorem dX1_literal_71 : decode cX1_literal 71 = .ok (.ifCond .eq 7, 3) := by decide +kernel
theorem dX1_literal_74 : decode cX1_literal 74 = .ok (.iconst 0, 1) := by decide +kernel
theorem dX1_literal_75 : decode cX1_literal 75 = .ok (.goto 4, 3) := by decide +kernel
theorem dX1_literal_78 : decode cX1_literal 78 = .ok (.iconst 1, 1) := by decide +kernel
theorem dX1_literal_79 : decode cX1_literal 79 = .ok (.putfield 34, 3) := by decide +kernel
theorem dX1_literal_82 : decode cX1_literal 82 = .ok (.aload_n 0, 1) := by decide +kernel
theorem dX1_literal_83 : decode cX1_literal 83 = .ok (.getfield 34, 3) := by decide +kernel
theorem dX1_literal_86 : decode cX1_literal 86 = .ok (.ifCond .le 5, 3) := by decide +kernel
theorem dX1_literal_89 : decode cX1_literal 89 = .ok (.iconst 0, 1) := by decide +kernel
theorem dX1_literal_90 : decode cX1_literal 90 = .ok (.ireturn, 1) := by decide +kernel
theorem dX1_literal_91 : decode cX1_literal 91 = .ok (.aload_n 0, 1) := by decide +kernel
theorem dX1_literal_92 : decode cX1_literal 92 = .ok (.getfield 16, 3) := by decide +kernel
theorem dX1_literal_95 : decode cX1_literal 95 = .ok (.aload_n 0, 1) := by decide +kernel
theorem dX1_literal_96 : decode cX1_literal 96 = .ok (.getfield 38, 3) := by decide +kernel
theorem dX1_literal_99 : decode cX1_literal 99 = .ok (.iload_n 1, 1) := by decide +kernel
theorem dX1_literal_100 : decode cX1_literal 100 = .ok (.iastore, 1) := by decide +kernel
theorem dX1_literal_101 : decode cX1_literal 101 = .ok (.aload_n 0, 1) := by decide +kernel
theorem dX1_literal_102 : decode cX1_literal 102 = .ok (.dup, 1) := by decide +kernel
theorem dX1_literal_103 : decode cX1_literal 103 = .ok (.getfield 38, 3) := by decide +kernel
theorem dX1_literal_106 : decode cX1_literal 106 = .ok (.iconst 1, 1) := by decide +kernel
theorem dX1_literal_107 : decode cX1_literal 107 = .ok (.iadd, 1) := by decide +kernel
theorem dX1_literal_108 : decode cX1_literal 108 = .ok (.putfield 38, 3) := by decide +kernel
theorem dX1_literal_111 : decode cX1_literal 111 = .ok (.aload_n 0, 1) := by decide +kernel
theorem dX1_literal_112 : decode cX1_literal 112 = .ok (.getfield 38, 3) := by decide +kernel
theorem dX1_literal_115 : decode cX1_literal 115 = .ok (.ireturn, 1) := by decide +kernel
theorem dX1_hint_0 : decode cX1_hint 0 = .ok (.aload_n 0, 1) := by decide +kernel
theorem dX1_hint_1 : decode cX1_hint 1 = .ok (.iload_n 1, 1) := by decide +kernel
theorem dX1_hint_2 : decode cX1_hint 2 = .ok (.ifCond .lt 10, 3) := by decide +kernel
theorem dX1_hint_5 : decode cX1_hint 5 = .ok (.iload_n 1, 1) := by decide +kernel
theorem dX1_hint_6 : decode cX1_hint 6 = .ok (.sipush 599, 3) := by decide +kernel
theorem dX1_hint_9 : decode cX1_hint 9 = .ok (.if_icmp .le 7, 3) := by decide +kernel
theorem dX1_hint_12 : decode cX1_hint 12 = .ok (.iconst 1, 1) := by decide +kernel
theorem dX1_hint_13 : decode cX1_hint 13 = .ok (.goto 17, 3) := by decide +kernel
theorem dX1_hint_16 : decode cX1_hint 16 = .ok (.aload_n 0, 1) := by decide +kernel
theorem dX1_hint_17 : decode cX1_hint 17 = .ok (.getfield 41, 3) := by decide +kernel
theorem dX1_hint_20 : decode cX1_hint 20 = .ok (.bipush 40, 2) := by decide +kernel
theorem dX1_hint_22 : decode cX1_hint 22 = .ok (.if_icmp .ne 7, 3) := by decide +kernel
theorem dX1_hint_25 : decode cX1_hint 25 = .ok (.iconst 2, 1) := by decide +kernel
theorem dX1_hint_26 : decode cX1_hint 26 = .ok (.goto 4, 3) := by decide +kernel
theorem dX1_hint_29 : decode cX1_hint 29 = .ok (.iconst 0, 1) := by decide +kernel
theorem dX1_hint_30 : decode cX1_hint 30 = .ok (.putfield 34, 3) := by decide +kernel
theorem dX1_hint_33 : decode cX1_hint 33 = .ok (.aload_n 0, 1) := by decide +kernel
theorem dX1_hint_34 : decode cX1_hint 34 = .ok (.getfield 34, 3) := by decide +kernel
theorem dX1_hint_37 : decode cX1_hint 37 = .ok (.ifCond .le 5, 3) := by decide +kernel
theorem dX1_hint_40 : decode cX1_hint 40 = .ok (.iconst 0, 1) := by decide +kernel
theorem dX1_hint_41 : decode cX1_hint 41 = .ok (.ireturn, 1) := by decide +kernel
theorem dX1_hint_42 : decode cX1_hint 42 = .ok (.aload_n 0, 1) := by decide +kernel
theorem dX1_hint_43 : decode cX1_hint 43 = .ok (.getfield 19, 3) := by decide +kernel
theorem dX1_hint_46 : decode cX1_hint 46 = .ok (.aload_n 0, 1) := by decide +kernel
theorem dX1_hint_47 : decode cX1_hint 47 = .ok (.getfield 41, 3) := by decide +kernel
theorem dX1_hint_50 : decode cX1_hint 50 = .ok (.iload_n 1, 1) := by decide +kernel
theorem dX1_hint_51 : decode cX1_hint 51 = .ok (.iastore, 1) := by decide +kernel
theorem dX1_hint_52 : decode cX1_hint 52 = .ok (.aload_n 0, 1) := by decide +kernel
theorem dX1_hint_53 : decode cX1_hint 53 = .ok (.dup, 1) := by decide +kernel
theorem dX1_hint_54 : decode cX1_hint 54 = .ok (.getfield 41, 3) := by decide +kernel
theorem dX1_hint_57 : decode cX1_hint 57 = .ok (.iconst 1, 1) := by decide +kernel
theorem dX1_hint_58 : decode cX1_hint 58 = .ok (.iadd, 1) := by decide +kernel
theorem dX1_hint_59 : decode cX1_hint 59 = .ok (.putfield 41, 3) := by decide +kernel
theorem dX1_hint_62 : decode cX1_hint 62 = .ok (.aload_n 0, 1) := by decide +kernel
theorem dX1_hint_63 : decode cX1_hint 63 = .ok (.getfield 41, 3) := by decide +kernel
theorem dX1_hint_66 : decode cX1_hint 66 = .ok (.ireturn, 1) := by decide +kernel
theorem dX1_clear_0 : decode cX1_clear 0 = .ok (.aload_n 0, 1) := by decide +kernel
theorem dX1_clear_1 : decode cX1_clear 1 = .ok (.iconst 0, 1) := by decide +kernel
theorem dX1_clear_2 : decode cX1_clear 2 = .ok (.putfield 34, 3) := by decide +kernel
theorem dX1_clear_5 : decode cX1_clear 5 = .ok (.aload_n 0, 1) := by decide +kernel
theorem dX1_clear_6 : decode cX1_clear 6 = .ok (.getfield 38, 3) := by decide +kernel
theorem dX1_clear_9 : decode cX1_clear 9 = .ok (.aload_n 0, 1) := by decide +kernel
theorem dX1_clear_10 : decode cX1_clear 10 = .ok (.getfield 41, 3) := by decide +kernel
theorem dX1_clear_13 : decode cX1_clear 13 = .ok (.iadd, 1) := by decide +kernel
theorem dX1_clear_14 : decode cX1_clear 14 = .ok (.istore_n 1, 1) := by decide +kernel
theorem dX1_clear_15 : decode cX1_clear 15 = .ok (.aload_n 0, 1) := by decide +kernel
theorem dX1_clear_16 : decode cX1_clear 16 = .ok (.iconst 0, 1) := by decide +kernel
theorem dX1_clear_17 : decode cX1_clear 17 = .ok (.putfield 38, 3) := by decide +kernel
theorem dX1_clear_20 : decode cX1_clear 20 = .ok (.aload_n 0, 1) := by decide +kernel
theorem dX1_clear_21 : decode cX1_clear 21 = .ok (.iconst 0, 1) := by decide +kernel
theorem dX1_clear_22 : decode cX1_clear 22 = .ok (.putfield 41, 3) := by decide +kernel
theorem dX1_clear_25 : decode cX1_clear 25 = .ok (.iload_n 1, 1) := by decide +kernel
theorem dX1_clear_26 : decode cX1_clear 26 = .ok (.ireturn, 1) := by decide +kernel
theorem dX1_isThere_0 : decode cX1_isThere 0 = .ok (.iload_n 1, 1) := by decide +kernel
theorem dX1_isThere_1 : decode cX1_isThere 1 = .ok (.ifCond .lt 24, 3) := by decide +kernel
theorem dX1_isThere_4 : decode cX1_isThere 4 = .ok (.iload_n 1, 1) := by decide +kernel
theorem dX1_isThere_5 : decode cX1_isThere 5 = .ok (.aload_n 0, 1) := by decide +kernel
theorem dX1_isThere_6 : decode cX1_isThere 6 = .ok (.getfield 44, 3) := by decide +kernel
theorem dX1_isThere_9 : decode cX1_isThere 9 = .ok (.if_icmp .ge 16, 3) := by decide +kernel
theorem dX1_isThere_12 : decode cX1_isThere 12 = .ok (.aload_n 0, 1) := by decide +kernel
theorem dX1_isThere_13 : decode cX1_isThere 13 = .ok (.getfield 13, 3) := by decide +kernel
theorem dX1_isThere_16 : decode cX1_isThere 16 = .ok (.iload_n 1, 1) := by decide +kernel
theorem dX1_isThere_17 : decode cX1_isThere 17 = .ok (.iaload, 1) := by decide +kernel
theorem dX1_isThere_18 : decode cX1_isThere 18 = .ok (.ifCond .lt 7, 3) := by decide +kernel
theorem dX1_isThere_21 : decode cX1_isThere 21 = .ok (.iconst 1, 1) := by decide +kernel
theorem dX1_isThere_22 : decode cX1_isThere 22 = .ok (.goto 4, 3) := by decide +kernel
theorem dX1_isThere_25 : decode cX1_isThere 25 = .ok (.iconst 0, 1) := by decide +kernel
theorem dX1_isThere_26 : decode cX1_isThere 26 = .ok (.ireturn, 1) := by decide +kernel
theorem dX1_add_0 : decode cX1_add 0 = .ok (.iconst 0, 1) := by decide +kernel
theorem dX1_add_1 : decode cX1_add 1 = .ok (.istore_n 1, 1) := by decide +kernel
theorem dX1_add_2 : decode cX1_add 2 = .ok (.iload_n 1, 1) := by decide +kernel
theorem dX1_add_3 : decode cX1_add 3 = .ok (.aload_n 0, 1) := by decide +kernel
theorem dX1_add_4 : decode cX1_add 4 = .ok (.getfield 38, 3) := by decide +kernel
theorem dX1_add_7 : decode cX1_add 7 = .ok (.if_icmp .ge 29, 3) := by decide +kernel
theorem dX1_add_10 : decode cX1_add 10 = .ok (.aload_n 0, 1) := by decide +kernel
theorem dX1_add_11 : decode cX1_add 11 = .ok (.getfield 7, 3) := by decide +kernel
theorem dX1_add_14 : decode cX1_add 14 = .ok (.bipush 16, 2) := by decide +kernel
theorem dX1_add_16 : decode cX1_add 16 = .ok (.aload_n 0, 1) := by decide +kernel
theorem dX1_add_17 : decode cX1_add 17 = .ok (.getfield 44, 3) := by decide +kernel
theorem dX1_add_20 : decode cX1_add 20 = .ok (.imul, 1) := by decide +kernel
theorem dX1_add_21 : decode cX1_add 21 = .ok (.iload_n 1, 1) := by decide +kernel
theorem dX1_add_22 : decode cX1_add 22 = .ok (.iadd, 1) := by decide +kernel
theorem dX1_add_23 : decode cX1_add 23 = .ok (.aload_n 0, 1) := by decide +kernel
theorem dX1_add_24 : decode cX1_add 24 = .ok (.getfield 16, 3) := by decide +kernel
theorem dX1_add_27 : decode cX1_add 27 = .ok (.iload_n 1, 1) := by decide +kernel
theorem dX1_add_28 : decode cX1_add 28 = .ok (.iaload, 1) := by decide +kernel
theorem dX1_add_29 : decode cX1_add 29 = .ok (.iastore, 1) := by decide +kernel
theorem dX1_add_30 : decode cX1_add 30 = .ok (.iinc 1 1, 3) := by decide +kernel
theorem dX1_add_33 : decode cX1_add 33 = .ok (.goto (-31), 3) := by decide +kernel
theorem dX1_add_36 : decode cX1_add 36 = .ok (.aload_n 0, 1) := by decide +kernel
theorem dX1_add_37 : decode cX1_add 37 = .ok (.getfield 13, 3) := by decide +kernel
theorem dX1_add_40 : decode cX1_add 40 = .ok (.aload_n 0, 1) := by decide +kernel
theorem dX1_add_41 : decode cX1_add 41 = .ok (.getfield 44, 3) := by decide +kernel
theorem dX1_add_44 : decode cX1_add 44 = .ok (.aload_n 0, 1) := by decide +kernel
theorem dX1_add_45 : decode cX1_add 45 = .ok (.getfield 38, 3) := by decide +kernel
theorem dX1_add_48 : decode cX1_add 48 = .ok (.iastore, 1) := by decide +kernel
theorem dX1_add_49 : decode cX1_add 49 = .ok (.aload_n 0, 1) := by decide +kernel
theorem dX1_add_50 : decode cX1_add 50 = .ok (.iconst 0, 1) := by decide +kernel
theorem dX1_add_51 : decode cX1_add 51 = .ok (.putfield 38, 3) := by decide +kernel
theorem dX1_add_54 : decode cX1_add 54 = .ok (.aload_n 0, 1) := by decide +kernel
theorem dX1_add_55 : decode cX1_add 55 = .ok (.dup, 1) := by decide +kernel
theorem dX1_add_56 : decode cX1_add 56 = .ok (.getfield 47, 3) := by decide +kernel
theorem dX1_add_59 : decode cX1_add 59 = .ok (.iconst 1, 1) := by decide +kernel
theorem dX1_add_60 : decode cX1_add 60 = .ok (.iadd, 1) := by decide +kernel
theorem dX1_add_61 : decode cX1_add 61 = .ok (.putfield 47, 3) := by decide +kernel
theorem dX1_add_64 : decode cX1_add 64 = .ok (.aload_n 0, 1) := by decide +kernel
theorem dX1_add_65 : decode cX1_add 65 = .ok (.dup, 1) := by decide +kernel
theorem dX1_add_66 : decode cX1_add 66 = .ok (.getfield 44, 3) := by decide +kernel
theorem dX1_add_69 : decode cX1_add 69 = .ok (.iconst 1, 1) := by decide +kernel
theorem dX1_add_70 : decode cX1_add 70 = .ok (.iadd, 1) := by decide +kernel
theorem dX1_add_71 : decode cX1_add 71 = .ok (.putfield 44, 3) := by decide +kernel
theorem dX1_add_74 : decode cX1_add 74 = .ok (.aload_n 0, 1) := by decide +kernel
theorem dX1_add_75 : decode cX1_add 75 = .ok (.getfield 44, 3) := by decide +kernel
theorem dX1_add_78 : decode cX1_add 78 = .ok (.iconst 1, 1) := by decide +kernel
theorem dX1_add_79 : decode cX1_add 79 = .ok (.isub, 1) := by decide +kernel
theorem dX1_add_80 : decode cX1_add 80 = .ok (.ireturn, 1) := by decide +kernel
theorem dX1_truths_0 : decode cX1_truths 0 = .ok (.iload_n 1, 1) := by decide +kernel
theorem dX1_truths_1 : decode cX1_truths 1 = .ok (.bipush 7, 2) := by decide +kernel
theorem dX1_truths_3 : decode cX1_truths 3 = .ok (.if_icmp .ge 12, 3) := by decide +kernel
theorem dX1_truths_6 : decode cX1_truths 6 = .ok (.aload_n 0, 1) := by decide +kernel
theorem dX1_truths_7 : decode cX1_truths 7 = .ok (.getfield 29, 3) := by decide +kernel
theorem dX1_truths_10 : decode cX1_truths 10 = .ok (.iload_n 1, 1) := by decide +kernel
theorem dX1_truths_11 : decode cX1_truths 11 = .ok (.laload, 1) := by decide +kernel
theorem dX1_truths_12 : decode cX1_truths 12 = .ok (.goto 22, 3) := by decide +kernel
theorem dX1_truths_15 : decode cX1_truths 15 = .ok (.iload_n 2, 1) := by decide +kernel
theorem dX1_truths_16 : decode cX1_truths 16 = .ok (.iload_n 1, 1) := by decide +kernel
theorem dX1_truths_17 : decode cX1_truths 17 = .ok (.bipush 7, 2) := by decide +kernel
theorem dX1_truths_19 : decode cX1_truths 19 = .ok (.isub, 1) := by decide +kernel
theorem dX1_truths_20 : decode cX1_truths 20 = .ok (.ishr, 1) := by decide +kernel
theorem dX1_truths_21 : decode cX1_truths 21 = .ok (.iconst 1, 1) := by decide +kernel
theorem dX1_truths_22 : decode cX1_truths 22 = .ok (.iand, 1) := by decide +kernel
theorem dX1_truths_23 : decode cX1_truths 23 = .ok (.iconst 1, 1) := by decide +kernel
theorem dX1_truths_24 : decode cX1_truths 24 = .ok (.if_icmp .ne 9, 3) := by decide +kernel
theorem dX1_truths_27 : decode cX1_truths 27 = .ok (.ldc2_w 32, 3) := by decide +kernel
theorem dX1_truths_30 : decode cX1_truths 30 = .ok (.goto 4, 3) := by decide +kernel
theorem dX1_truths_33 : decode cX1_truths 33 = .ok (.lconst 0, 1) := by decide +kernel
theorem dX1_truths_34 : decode cX1_truths 34 = .ok (.lreturn, 1) := by decide +kernel
theorem dX1_trueIn_0 : decode cX1_trueIn 0 = .ok (.lconst 0, 1) := by decide +kernel
theorem dX1_trueIn_1 : decode cX1_trueIn 1 = .ok (.lstore_n 2, 1) := by decide +kernel
theorem dX1_trueIn_2 : decode cX1_trueIn 2 = .ok (.iconst 0, 1) := by decide +kernel
theorem dX1_trueIn_3 : decode cX1_trueIn 3 = .ok (.istore 4, 2) := by decide +kernel
theorem dX1_trueIn_5 : decode cX1_trueIn 5 = .ok (.iload 4, 2) := by decide +kernel
theorem dX1_trueIn_7 : decode cX1_trueIn 7 = .ok (.aload_n 0, 1) := by decide +kernel
theorem dX1_trueIn_8 : decode cX1_trueIn 8 = .ok (.getfield 38, 3) := by decide +kernel
theorem dX1_trueIn_11 : decode cX1_trueIn 11 = .ok (.if_icmp .ge 48, 3) := by decide +kernel
theorem dX1_trueIn_14 : decode cX1_trueIn 14 = .ok (.aload_n 0, 1) := by decide +kernel
theorem dX1_trueIn_15 : decode cX1_trueIn 15 = .ok (.getfield 16, 3) := by decide +kernel
theorem dX1_trueIn_18 : decode cX1_trueIn 18 = .ok (.iload 4, 2) := by decide +kernel
theorem dX1_trueIn_20 : decode cX1_trueIn 20 = .ok (.iaload, 1) := by decide +kernel
theorem dX1_trueIn_21 : decode cX1_trueIn 21 = .ok (.istore 5, 2) := by decide +kernel
theorem dX1_trueIn_23 : decode cX1_trueIn 23 = .ok (.lload_n 2, 1) := by decide +kernel
theorem dX1_trueIn_24 : decode cX1_trueIn 24 = .ok (.iload 5, 2) := by decide +kernel
theorem dX1_trueIn_26 : decode cX1_trueIn 26 = .ok (.ifCond .le 13, 3) := by decide +kernel
theorem dX1_trueIn_29 : decode cX1_trueIn 29 = .ok (.aload_n 0, 1) := by decide +kernel
theorem dX1_trueIn_30 : decode cX1_trueIn 30 = .ok (.iload 5, 2) := by decide +kernel
theorem dX1_trueIn_32 : decode cX1_trueIn 32 = .ok (.iload_n 1, 1) := by decide +kernel
theorem dX1_trueIn_33 : decode cX1_trueIn 33 = .ok (.invokevirtual 50, 3) := by decide +kernel
theorem dX1_trueIn_36 : decode cX1_trueIn 36 = .ok (.goto 15, 3) := by decide +kernel
theorem dX1_trueIn_39 : decode cX1_trueIn 39 = .ok (.aload_n 0, 1) := by decide +kernel
theorem dX1_trueIn_40 : decode cX1_trueIn 40 = .ok (.iload 5, 2) := by decide +kernel
theorem dX1_trueIn_42 : decode cX1_trueIn 42 = .ok (.ineg, 1) := by decide +kernel
theorem dX1_trueIn_43 : decode cX1_trueIn 43 = .ok (.iload_n 1, 1) := by decide +kernel
theorem dX1_trueIn_44 : decode cX1_trueIn 44 = .ok (.invokevirtual 50, 3) := by decide +kernel
theorem dX1_trueIn_47 : decode cX1_trueIn 47 = .ok (.ldc2_w 32, 3) := by decide +kernel
theorem dX1_trueIn_50 : decode cX1_trueIn 50 = .ok (.lxor, 1) := by decide +kernel
theorem dX1_trueIn_51 : decode cX1_trueIn 51 = .ok (.lor, 1) := by decide +kernel
theorem dX1_trueIn_52 : decode cX1_trueIn 52 = .ok (.lstore_n 2, 1) := by decide +kernel
theorem dX1_trueIn_53 : decode cX1_trueIn 53 = .ok (.iinc 4 1, 3) := by decide +kernel
theorem dX1_trueIn_56 : decode cX1_trueIn 56 = .ok (.goto (-51), 3) := by decide +kernel
theorem dX1_trueIn_59 : decode cX1_trueIn 59 = .ok (.lload_n 2, 1) := by decide +kernel
theorem dX1_trueIn_60 : decode cX1_trueIn 60 = .ok (.lreturn, 1) := by decide +kernel
theorem dX1_give_0 : decode cX1_give 0 = .ok (.aload_n 0, 1) := by decide +kernel
theorem dX1_give_1 : decode cX1_give 1 = .ok (.aload_n 0, 1) := by decide +kernel
theorem dX1_give_2 : decode cX1_give 2 = .ok (.getfield 44, 3) := by decide +kernel
theorem dX1_give_5 : decode cX1_give 5 = .ok (.sipush 600, 3) := by decide +kernel
theorem dX1_give_8 : decode cX1_give 8 = .ok (.if_icmp .ne 7, 3) := by decide +kernel
theorem dX1_give_11 : decode cX1_give 11 = .ok (.iconst 1, 1) := by decide +kernel
theorem dX1_give_12 : decode cX1_give 12 = .ok (.goto 4, 3) := by decide +kernel
theorem dX1_give_15 : decode cX1_give 15 = .ok (.iconst 0, 1) := by decide +kernel
theorem dX1_give_16 : decode cX1_give 16 = .ok (.putfield 34, 3) := by decide +kernel
theorem dX1_give_19 : decode cX1_give 19 = .ok (.aload_n 0, 1) := by decide +kernel
theorem dX1_give_20 : decode cX1_give 20 = .ok (.getfield 34, 3) := by decide +kernel
theorem dX1_give_23 : decode cX1_give 23 = .ok (.ifCond .le 5, 3) := by decide +kernel
theorem dX1_give_26 : decode cX1_give 26 = .ok (.iconst 0, 1) := by decide +kernel
theorem dX1_give_27 : decode cX1_give 27 = .ok (.ireturn, 1) := by decide +kernel
theorem dX1_give_28 : decode cX1_give 28 = .ok (.iconst 0, 1) := by decide +kernel
theorem dX1_give_29 : decode cX1_give 29 = .ok (.istore_n 1, 1) := by decide +kernel
theorem dX1_give_30 : decode cX1_give 30 = .ok (.iload_n 1, 1) := by decide +kernel
theorem dX1_give_31 : decode cX1_give 31 = .ok (.sipush 1024, 3) := by decide +kernel
theorem dX1_give_34 : decode cX1_give 34 = .ok (.if_icmp .ge 38, 3) := by decide +kernel
theorem dX1_give_37 : decode cX1_give 37 = .ok (.aload_n 0, 1) := by decide +kernel
theorem dX1_give_38 : decode cX1_give 38 = .ok (.getfield 25, 3) := by decide +kernel
theorem dX1_give_41 : decode cX1_give 41 = .ok (.iload_n 1, 1) := by decide +kernel
theorem dX1_give_42 : decode cX1_give 42 = .ok (.dup2, 1) := by decide +kernel
theorem dX1_give_43 : decode cX1_give 43 = .ok (.laload, 1) := by decide +kernel
theorem dX1_give_44 : decode cX1_give 44 = .ok (.aload_n 0, 1) := by decide +kernel
theorem dX1_give_45 : decode cX1_give 45 = .ok (.getfield 25, 3) := by decide +kernel
theorem dX1_give_48 : decode cX1_give 48 = .ok (.iload_n 1, 1) := by decide +kernel
theorem dX1_give_49 : decode cX1_give 49 = .ok (.laload, 1) := by decide +kernel
theorem dX1_give_50 : decode cX1_give 50 = .ok (.lconst 0, 1) := by decide +kernel
theorem dX1_give_51 : decode cX1_give 51 = .ok (.lcmp, 1) := by decide +kernel
theorem dX1_give_52 : decode cX1_give 52 = .ok (.ifCond .ne 7, 3) := by decide +kernel
theorem dX1_give_55 : decode cX1_give 55 = .ok (.lconst 0, 1) := by decide +kernel
theorem dX1_give_56 : decode cX1_give 56 = .ok (.goto 8, 3) := by decide +kernel
theorem dX1_give_59 : decode cX1_give 59 = .ok (.aload_n 0, 1) := by decide +kernel
theorem dX1_give_60 : decode cX1_give 60 = .ok (.iload_n 1, 1) := by decide +kernel
theorem dX1_give_61 : decode cX1_give 61 = .ok (.invokevirtual 54, 3) := by decide +kernel
theorem dX1_give_64 : decode cX1_give 64 = .ok (.land, 1) := by decide +kernel
theorem dX1_give_65 : decode cX1_give 65 = .ok (.lastore, 1) := by decide +kernel
theorem dX1_give_66 : decode cX1_give 66 = .ok (.iinc 1 1, 3) := by decide +kernel
theorem dX1_give_69 : decode cX1_give 69 = .ok (.goto (-39), 3) := by decide +kernel
theorem dX1_give_72 : decode cX1_give 72 = .ok (.aload_n 0, 1) := by decide +kernel
theorem dX1_give_73 : decode cX1_give 73 = .ok (.invokevirtual 58, 3) := by decide +kernel
theorem dX1_give_76 : decode cX1_give 76 = .ok (.ireturn, 1) := by decide +kernel
theorem dX1_accept_0 : decode cX1_accept 0 = .ok (.iconst 1, 1) := by decide +kernel
theorem dX1_accept_1 : decode cX1_accept 1 = .ok (.istore_n 1, 1) := by decide +kernel
theorem dX1_accept_2 : decode cX1_accept 2 = .ok (.iconst 0, 1) := by decide +kernel
theorem dX1_accept_3 : decode cX1_accept 3 = .ok (.istore_n 2, 1) := by decide +kernel
theorem dX1_accept_4 : decode cX1_accept 4 = .ok (.iload_n 2, 1) := by decide +kernel
theorem dX1_accept_5 : decode cX1_accept 5 = .ok (.sipush 1024, 3) := by decide +kernel
theorem dX1_accept_8 : decode cX1_accept 8 = .ok (.if_icmp .ge 51, 3) := by decide +kernel
theorem dX1_accept_11 : decode cX1_accept 11 = .ok (.iload_n 1, 1) := by decide +kernel
theorem dX1_accept_12 : decode cX1_accept 12 = .ok (.ifCond .eq 47, 3) := by decide +kernel
theorem dX1_accept_15 : decode cX1_accept 15 = .ok (.aload_n 0, 1) := by decide +kernel
theorem dX1_accept_16 : decode cX1_accept 16 = .ok (.getfield 25, 3) := by decide +kernel
theorem dX1_accept_19 : decode cX1_accept 19 = .ok (.iload_n 2, 1) := by decide +kernel
theorem dX1_accept_20 : decode cX1_accept 20 = .ok (.laload, 1) := by decide +kernel
theorem dX1_accept_21 : decode cX1_accept 21 = .ok (.lconst 0, 1) := by decide +kernel
theorem dX1_accept_22 : decode cX1_accept 22 = .ok (.lcmp, 1) := by decide +kernel
theorem dX1_accept_23 : decode cX1_accept 23 = .ok (.ifCond .eq 24, 3) := by decide +kernel
theorem dX1_accept_26 : decode cX1_accept 26 = .ok (.aload_n 0, 1) := by decide +kernel
theorem dX1_accept_27 : decode cX1_accept 27 = .ok (.getfield 25, 3) := by decide +kernel
theorem dX1_accept_30 : decode cX1_accept 30 = .ok (.iload_n 2, 1) := by decide +kernel
theorem dX1_accept_31 : decode cX1_accept 31 = .ok (.laload, 1) := by decide +kernel
theorem dX1_accept_32 : decode cX1_accept 32 = .ok (.aload_n 0, 1) := by decide +kernel
theorem dX1_accept_33 : decode cX1_accept 33 = .ok (.iload_n 2, 1) := by decide +kernel
theorem dX1_accept_34 : decode cX1_accept 34 = .ok (.invokevirtual 54, 3) := by decide +kernel
theorem dX1_accept_37 : decode cX1_accept 37 = .ok (.ldc2_w 32, 3) := by decide +kernel
theorem dX1_accept_40 : decode cX1_accept 40 = .ok (.lxor, 1) := by decide +kernel
theorem dX1_accept_41 : decode cX1_accept 41 = .ok (.land, 1) := by decide +kernel
theorem dX1_accept_42 : decode cX1_accept 42 = .ok (.lconst 0, 1) := by decide +kernel
theorem dX1_accept_43 : decode cX1_accept 43 = .ok (.lcmp, 1) := by decide +kernel
theorem dX1_accept_44 : decode cX1_accept 44 = .ok (.ifCond .ne 7, 3) := by decide +kernel
theorem dX1_accept_47 : decode cX1_accept 47 = .ok (.iconst 1, 1) := by decide +kernel
theorem dX1_accept_48 : decode cX1_accept 48 = .ok (.goto 4, 3) := by decide +kernel
theorem dX1_accept_51 : decode cX1_accept 51 = .ok (.iconst 0, 1) := by decide +kernel
theorem dX1_accept_52 : decode cX1_accept 52 = .ok (.istore_n 1, 1) := by decide +kernel
theorem dX1_accept_53 : decode cX1_accept 53 = .ok (.iinc 2 1, 3) := by decide +kernel
theorem dX1_accept_56 : decode cX1_accept 56 = .ok (.goto (-52), 3) := by decide +kernel
theorem dX1_accept_59 : decode cX1_accept 59 = .ok (.aload_n 0, 1) := by decide +kernel
theorem dX1_accept_60 : decode cX1_accept 60 = .ok (.dup, 1) := by decide +kernel
theorem dX1_accept_61 : decode cX1_accept 61 = .ok (.getfield 62, 3) := by decide +kernel
theorem dX1_accept_64 : decode cX1_accept 64 = .ok (.iload_n 1, 1) := by decide +kernel
theorem dX1_accept_65 : decode cX1_accept 65 = .ok (.ifCond .eq 7, 3) := by decide +kernel
theorem dX1_accept_68 : decode cX1_accept 68 = .ok (.iconst 0, 1) := by decide +kernel
theorem dX1_accept_69 : decode cX1_accept 69 = .ok (.goto 4, 3) := by decide +kernel
theorem dX1_accept_72 : decode cX1_accept 72 = .ok (.iconst 1, 1) := by decide +kernel
theorem dX1_accept_73 : decode cX1_accept 73 = .ok (.iadd, 1) := by decide +kernel
theorem dX1_accept_74 : decode cX1_accept 74 = .ok (.putfield 62, 3) := by decide +kernel
theorem dX1_accept_77 : decode cX1_accept 77 = .ok (.aload_n 0, 1) := by decide +kernel
theorem dX1_accept_78 : decode cX1_accept 78 = .ok (.dup, 1) := by decide +kernel
theorem dX1_accept_79 : decode cX1_accept 79 = .ok (.getfield 65, 3) := by decide +kernel
theorem dX1_accept_82 : decode cX1_accept 82 = .ok (.iconst 1, 1) := by decide +kernel
theorem dX1_accept_83 : decode cX1_accept 83 = .ok (.iadd, 1) := by decide +kernel
theorem dX1_accept_84 : decode cX1_accept 84 = .ok (.putfield 65, 3) := by decide +kernel
theorem dX1_accept_87 : decode cX1_accept 87 = .ok (.aload_n 0, 1) := by decide +kernel
theorem dX1_accept_88 : decode cX1_accept 88 = .ok (.invokevirtual 58, 3) := by decide +kernel
theorem dX1_accept_91 : decode cX1_accept 91 = .ok (.ireturn, 1) := by decide +kernel
theorem dX1_of_0 : decode cX1_of 0 = .ok (.aload_n 0, 1) := by decide +kernel
theorem dX1_of_1 : decode cX1_of 1 = .ok (.getfield 22, 3) := by decide +kernel
theorem dX1_of_4 : decode cX1_of 4 = .ok (.iload_n 1, 1) := by decide +kernel
theorem dX1_of_5 : decode cX1_of 5 = .ok (.ifCond .le 7, 3) := by decide +kernel
theorem dX1_of_8 : decode cX1_of 8 = .ok (.iload_n 1, 1) := by decide +kernel
theorem dX1_of_9 : decode cX1_of 9 = .ok (.goto 5, 3) := by decide +kernel
theorem dX1_of_12 : decode cX1_of 12 = .ok (.iload_n 1, 1) := by decide +kernel
theorem dX1_of_13 : decode cX1_of 13 = .ok (.ineg, 1) := by decide +kernel
theorem dX1_of_14 : decode cX1_of 14 = .ok (.iaload, 1) := by decide +kernel
theorem dX1_of_15 : decode cX1_of 15 = .ok (.istore_n 2, 1) := by decide +kernel
theorem dX1_of_16 : decode cX1_of 16 = .ok (.iload_n 2, 1) := by decide +kernel
theorem dX1_of_17 : decode cX1_of 17 = .ok (.ifCond .eq 7, 3) := by decide +kernel
theorem dX1_of_20 : decode cX1_of 20 = .ok (.iload_n 1, 1) := by decide +kernel
theorem dX1_of_21 : decode cX1_of 21 = .ok (.ifCond .le 7, 3) := by decide +kernel
theorem dX1_of_24 : decode cX1_of 24 = .ok (.iload_n 2, 1) := by decide +kernel
theorem dX1_of_25 : decode cX1_of 25 = .ok (.goto 6, 3) := by decide +kernel
theorem dX1_of_28 : decode cX1_of 28 = .ok (.iconst 3, 1) := by decide +kernel
theorem dX1_of_29 : decode cX1_of 29 = .ok (.iload_n 2, 1) := by decide +kernel
theorem dX1_of_30 : decode cX1_of 30 = .ok (.isub, 1) := by decide +kernel
theorem dX1_of_31 : decode cX1_of 31 = .ok (.ireturn, 1) := by decide +kernel
theorem dX1_tell_0 : decode cX1_tell 0 = .ok (.aload_n 0, 1) := by decide +kernel
theorem dX1_tell_1 : decode cX1_tell 1 = .ok (.getfield 22, 3) := by decide +kernel
theorem dX1_tell_4 : decode cX1_tell 4 = .ok (.iload_n 1, 1) := by decide +kernel
theorem dX1_tell_5 : decode cX1_tell 5 = .ok (.ifCond .le 7, 3) := by decide +kernel
theorem dX1_tell_8 : decode cX1_tell 8 = .ok (.iload_n 1, 1) := by decide +kernel
theorem dX1_tell_9 : decode cX1_tell 9 = .ok (.goto 5, 3) := by decide +kernel
theorem dX1_tell_12 : decode cX1_tell 12 = .ok (.iload_n 1, 1) := by decide +kernel
theorem dX1_tell_13 : decode cX1_tell 13 = .ok (.ineg, 1) := by decide +kernel
theorem dX1_tell_14 : decode cX1_tell 14 = .ok (.iload_n 1, 1) := by decide +kernel
theorem dX1_tell_15 : decode cX1_tell 15 = .ok (.ifCond .le 7, 3) := by decide +kernel
theorem dX1_tell_18 : decode cX1_tell 18 = .ok (.iconst 1, 1) := by decide +kernel
theorem dX1_tell_19 : decode cX1_tell 19 = .ok (.goto 4, 3) := by decide +kernel
theorem dX1_tell_22 : decode cX1_tell 22 = .ok (.iconst 2, 1) := by decide +kernel
theorem dX1_tell_23 : decode cX1_tell 23 = .ok (.iastore, 1) := by decide +kernel
theorem dX1_tell_24 : decode cX1_tell 24 = .ok (.return_, 1) := by decide +kernel
theorem dX1_setOut_0 : decode cX1_setOut 0 = .ok (.iconst 0, 1) := by decide +kernel
theorem dX1_setOut_1 : decode cX1_setOut 1 = .ok (.istore_n 1, 1) := by decide +kernel
theorem dX1_setOut_2 : decode cX1_setOut 2 = .ok (.iload_n 1, 1) := by decide +kernel
theorem dX1_setOut_3 : decode cX1_setOut 3 = .ok (.bipush 16, 2) := by decide +kernel
theorem dX1_setOut_5 : decode cX1_setOut 5 = .ok (.if_icmp .gt 16, 3) := by decide +kernel
theorem dX1_setOut_8 : decode cX1_setOut 8 = .ok (.aload_n 0, 1) := by decide +kernel
theorem dX1_setOut_9 : decode cX1_setOut 9 = .ok (.getfield 22, 3) := by decide +kernel
theorem dX1_setOut_12 : decode cX1_setOut 12 = .ok (.iload_n 1, 1) := by decide +kernel
theorem dX1_setOut_13 : decode cX1_setOut 13 = .ok (.iconst 0, 1) := by decide +kernel
theorem dX1_setOut_14 : decode cX1_setOut 14 = .ok (.iastore, 1) := by decide +kernel
theorem dX1_setOut_15 : decode cX1_setOut 15 = .ok (.iinc 1 1, 3) := by decide +kernel
theorem dX1_setOut_18 : decode cX1_setOut 18 = .ok (.goto (-16), 3) := by decide +kernel
theorem dX1_setOut_21 : decode cX1_setOut 21 = .ok (.iconst 0, 1) := by decide +kernel
theorem dX1_setOut_22 : decode cX1_setOut 22 = .ok (.istore_n 1, 1) := by decide +kernel
theorem dX1_setOut_23 : decode cX1_setOut 23 = .ok (.iload_n 1, 1) := by decide +kernel
theorem dX1_setOut_24 : decode cX1_setOut 24 = .ok (.aload_n 0, 1) := by decide +kernel
theorem dX1_setOut_25 : decode cX1_setOut 25 = .ok (.getfield 38, 3) := by decide +kernel
theorem dX1_setOut_28 : decode cX1_setOut 28 = .ok (.if_icmp .ge 20, 3) := by decide +kernel
theorem dX1_setOut_31 : decode cX1_setOut 31 = .ok (.aload_n 0, 1) := by decide +kernel
theorem dX1_setOut_32 : decode cX1_setOut 32 = .ok (.aload_n 0, 1) := by decide +kernel
theorem dX1_setOut_33 : decode cX1_setOut 33 = .ok (.getfield 16, 3) := by decide +kernel
theorem dX1_setOut_36 : decode cX1_setOut 36 = .ok (.iload_n 1, 1) := by decide +kernel
theorem dX1_setOut_37 : decode cX1_setOut 37 = .ok (.iaload, 1) := by decide +kernel
theorem dX1_setOut_38 : decode cX1_setOut 38 = .ok (.ineg, 1) := by decide +kernel
theorem dX1_setOut_39 : decode cX1_setOut 39 = .ok (.invokevirtual 68, 3) := by decide +kernel
theorem dX1_setOut_42 : decode cX1_setOut 42 = .ok (.iinc 1 1, 3) := by decide +kernel
theorem dX1_setOut_45 : decode cX1_setOut 45 = .ok (.goto (-22), 3) := by decide +kernel
theorem dX1_setOut_48 : decode cX1_setOut 48 = .ok (.return_, 1) := by decide +kernel
theorem dX1_says_0 : decode cX1_says 0 = .ok (.iconst 0, 1) := by decide +kernel
theorem dX1_says_1 : decode cX1_says 1 = .ok (.istore_n 2, 1) := by decide +kernel
theorem dX1_says_2 : decode cX1_says 2 = .ok (.iconst 0, 1) := by decide +kernel
theorem dX1_says_3 : decode cX1_says 3 = .ok (.istore_n 3, 1) := by decide +kernel
theorem dX1_says_4 : decode cX1_says 4 = .ok (.bipush 16, 2) := by decide +kernel
theorem dX1_says_6 : decode cX1_says 6 = .ok (.iload_n 1, 1) := by decide +kernel
theorem dX1_says_7 : decode cX1_says 7 = .ok (.imul, 1) := by decide +kernel
theorem dX1_says_8 : decode cX1_says 8 = .ok (.istore 4, 2) := by decide +kernel
theorem dX1_says_10 : decode cX1_says 10 = .ok (.iload 4, 2) := by decide +kernel
theorem dX1_says_12 : decode cX1_says 12 = .ok (.bipush 16, 2) := by decide +kernel
theorem dX1_says_14 : decode cX1_says 14 = .ok (.iload_n 1, 1) := by decide +kernel
theorem dX1_says_15 : decode cX1_says 15 = .ok (.imul, 1) := by decide +kernel
theorem dX1_says_16 : decode cX1_says 16 = .ok (.aload_n 0, 1) := by decide +kernel
theorem dX1_says_17 : decode cX1_says 17 = .ok (.getfield 13, 3) := by decide +kernel
theorem dX1_says_20 : decode cX1_says 20 = .ok (.iload_n 1, 1) := by decide +kernel
theorem dX1_says_21 : decode cX1_says 21 = .ok (.iaload, 1) := by decide +kernel
theorem dX1_says_22 : decode cX1_says 22 = .ok (.iadd, 1) := by decide +kernel
theorem dX1_says_23 : decode cX1_says 23 = .ok (.if_icmp .ge 74, 3) := by decide +kernel
theorem dX1_says_26 : decode cX1_says 26 = .ok (.aload_n 0, 1) := by decide +kernel
theorem dX1_says_27 : decode cX1_says 27 = .ok (.aload_n 0, 1) := by decide +kernel
theorem dX1_says_28 : decode cX1_says 28 = .ok (.getfield 7, 3) := by decide +kernel
theorem dX1_says_31 : decode cX1_says 31 = .ok (.iload 4, 2) := by decide +kernel
theorem dX1_says_33 : decode cX1_says 33 = .ok (.iaload, 1) := by decide +kernel
theorem dX1_says_34 : decode cX1_says 34 = .ok (.invokevirtual 72, 3) := by decide +kernel
theorem dX1_says_37 : decode cX1_says 37 = .ok (.iconst 1, 1) := by decide +kernel
theorem dX1_says_38 : decode cX1_says 38 = .ok (.if_icmp .ne 5, 3) := by decide +kernel
theorem dX1_says_41 : decode cX1_says 41 = .ok (.iconst 0, 1) := by decide +kernel
theorem dX1_says_42 : decode cX1_says 42 = .ok (.ireturn, 1) := by decide +kernel
theorem dX1_says_43 : decode cX1_says 43 = .ok (.iload_n 2, 1) := by decide +kernel
theorem dX1_says_44 : decode cX1_says 44 = .ok (.aload_n 0, 1) := by decide +kernel
theorem dX1_says_45 : decode cX1_says 45 = .ok (.aload_n 0, 1) := by decide +kernel
theorem dX1_says_46 : decode cX1_says 46 = .ok (.getfield 7, 3) := by decide +kernel
theorem dX1_says_49 : decode cX1_says 49 = .ok (.iload 4, 2) := by decide +kernel
theorem dX1_says_51 : decode cX1_says 51 = .ok (.iaload, 1) := by decide +kernel
theorem dX1_says_52 : decode cX1_says 52 = .ok (.invokevirtual 72, 3) := by decide +kernel
theorem dX1_says_55 : decode cX1_says 55 = .ok (.ifCond .ne 7, 3) := by decide +kernel
theorem dX1_says_58 : decode cX1_says 58 = .ok (.iconst 1, 1) := by decide +kernel
theorem dX1_says_59 : decode cX1_says 59 = .ok (.goto 4, 3) := by decide +kernel
theorem dX1_says_62 : decode cX1_says 62 = .ok (.iconst 0, 1) := by decide +kernel
theorem dX1_says_63 : decode cX1_says 63 = .ok (.iadd, 1) := by decide +kernel
theorem dX1_says_64 : decode cX1_says 64 = .ok (.istore_n 2, 1) := by decide +kernel
theorem dX1_says_65 : decode cX1_says 65 = .ok (.aload_n 0, 1) := by decide +kernel
theorem dX1_says_66 : decode cX1_says 66 = .ok (.aload_n 0, 1) := by decide +kernel
theorem dX1_says_67 : decode cX1_says 67 = .ok (.getfield 7, 3) := by decide +kernel
theorem dX1_says_70 : decode cX1_says 70 = .ok (.iload 4, 2) := by decide +kernel
theorem dX1_says_72 : decode cX1_says 72 = .ok (.iaload, 1) := by decide +kernel
theorem dX1_says_73 : decode cX1_says 73 = .ok (.invokevirtual 72, 3) := by decide +kernel
theorem dX1_says_76 : decode cX1_says 76 = .ok (.ifCond .ne 13, 3) := by decide +kernel
theorem dX1_says_79 : decode cX1_says 79 = .ok (.aload_n 0, 1) := by decide +kernel
theorem dX1_says_80 : decode cX1_says 80 = .ok (.getfield 7, 3) := by decide +kernel
theorem dX1_says_83 : decode cX1_says 83 = .ok (.iload 4, 2) := by decide +kernel
theorem dX1_says_85 : decode cX1_says 85 = .ok (.iaload, 1) := by decide +kernel
theorem dX1_says_86 : decode cX1_says 86 = .ok (.goto 4, 3) := by decide +kernel
theorem dX1_says_89 : decode cX1_says 89 = .ok (.iload_n 3, 1) := by decide +kernel
theorem dX1_says_90 : decode cX1_says 90 = .ok (.istore_n 3, 1) := by decide +kernel
theorem dX1_says_91 : decode cX1_says 91 = .ok (.iinc 4 1, 3) := by decide +kernel
theorem dX1_says_94 : decode cX1_says 94 = .ok (.goto (-84), 3) := by decide +kernel
theorem dX1_says_97 : decode cX1_says 97 = .ok (.iload_n 2, 1) := by decide +kernel
theorem dX1_says_98 : decode cX1_says 98 = .ok (.ifCond .ne 8, 3) := by decide +kernel
theorem dX1_says_101 : decode cX1_says 101 = .ok (.bipush 17, 2) := by decide +kernel
theorem dX1_says_103 : decode cX1_says 103 = .ok (.goto 13, 3) := by decide +kernel
theorem dX1_says_106 : decode cX1_says 106 = .ok (.iload_n 2, 1) := by decide +kernel
theorem dX1_says_107 : decode cX1_says 107 = .ok (.iconst 1, 1) := by decide +kernel
theorem dX1_says_108 : decode cX1_says 108 = .ok (.if_icmp .ne 7, 3) := by decide +kernel
theorem dX1_says_111 : decode cX1_says 111 = .ok (.iload_n 3, 1) := by decide +kernel
theorem dX1_says_112 : decode cX1_says 112 = .ok (.goto 4, 3) := by decide +kernel
theorem dX1_says_115 : decode cX1_says 115 = .ok (.iconst 0, 1) := by decide +kernel
theorem dX1_says_116 : decode cX1_says 116 = .ok (.ireturn, 1) := by decide +kernel
theorem dX1_follow_0 : decode cX1_follow 0 = .ok (.aload_n 0, 1) := by decide +kernel
theorem dX1_follow_1 : decode cX1_follow 1 = .ok (.invokevirtual 76, 3) := by decide +kernel
theorem dX1_follow_4 : decode cX1_follow 4 = .ok (.iconst 0, 1) := by decide +kernel
theorem dX1_follow_5 : decode cX1_follow 5 = .ok (.istore_n 1, 1) := by decide +kernel
theorem dX1_follow_6 : decode cX1_follow 6 = .ok (.iconst 1, 1) := by decide +kernel
theorem dX1_follow_7 : decode cX1_follow 7 = .ok (.istore_n 2, 1) := by decide +kernel
theorem dX1_follow_8 : decode cX1_follow 8 = .ok (.iload_n 2, 1) := by decide +kernel
theorem dX1_follow_9 : decode cX1_follow 9 = .ok (.ifCond .eq 70, 3) := by decide +kernel
theorem dX1_follow_12 : decode cX1_follow 12 = .ok (.iconst 0, 1) := by decide +kernel
theorem dX1_follow_13 : decode cX1_follow 13 = .ok (.istore_n 2, 1) := by decide +kernel
theorem dX1_follow_14 : decode cX1_follow 14 = .ok (.iconst 0, 1) := by decide +kernel
theorem dX1_follow_15 : decode cX1_follow 15 = .ok (.istore_n 3, 1) := by decide +kernel
theorem dX1_follow_16 : decode cX1_follow 16 = .ok (.iload_n 3, 1) := by decide +kernel
theorem dX1_follow_17 : decode cX1_follow 17 = .ok (.aload_n 0, 1) := by decide +kernel
theorem dX1_follow_18 : decode cX1_follow 18 = .ok (.getfield 44, 3) := by decide +kernel
theorem dX1_follow_21 : decode cX1_follow 21 = .ok (.if_icmp .ge 55, 3) := by decide +kernel
theorem dX1_follow_24 : decode cX1_follow 24 = .ok (.aload_n 0, 1) := by decide +kernel
theorem dX1_follow_25 : decode cX1_follow 25 = .ok (.getfield 13, 3) := by decide +kernel
theorem dX1_follow_28 : decode cX1_follow 28 = .ok (.iload_n 3, 1) := by decide +kernel
theorem dX1_follow_29 : decode cX1_follow 29 = .ok (.iaload, 1) := by decide +kernel
theorem dX1_follow_30 : decode cX1_follow 30 = .ok (.ifCond .ge 7, 3) := by decide +kernel
theorem dX1_follow_33 : decode cX1_follow 33 = .ok (.iconst 0, 1) := by decide +kernel
theorem dX1_follow_34 : decode cX1_follow 34 = .ok (.goto 8, 3) := by decide +kernel
theorem dX1_follow_37 : decode cX1_follow 37 = .ok (.aload_n 0, 1) := by decide +kernel
theorem dX1_follow_38 : decode cX1_follow 38 = .ok (.iload_n 3, 1) := by decide +kernel
theorem dX1_follow_39 : decode cX1_follow 39 = .ok (.invokevirtual 79, 3) := by decide +kernel
theorem dX1_follow_42 : decode cX1_follow 42 = .ok (.istore 4, 2) := by decide +kernel
theorem dX1_follow_44 : decode cX1_follow 44 = .ok (.iload 4, 2) := by decide +kernel
theorem dX1_follow_46 : decode cX1_follow 46 = .ok (.bipush 17, 2) := by decide +kernel
theorem dX1_follow_48 : decode cX1_follow 48 = .ok (.if_icmp .ne 6, 3) := by decide +kernel
theorem dX1_follow_51 : decode cX1_follow 51 = .ok (.bipush 17, 2) := by decide +kernel
theorem dX1_follow_53 : decode cX1_follow 53 = .ok (.ireturn, 1) := by decide +kernel
theorem dX1_follow_54 : decode cX1_follow 54 = .ok (.iload 4, 2) := by decide +kernel
theorem dX1_follow_56 : decode cX1_follow 56 = .ok (.ifCond .eq 14, 3) := by decide +kernel
theorem dX1_follow_59 : decode cX1_follow 59 = .ok (.aload_n 0, 1) := by decide +kernel
theorem dX1_follow_60 : decode cX1_follow 60 = .ok (.iload 4, 2) := by decide +kernel
theorem dX1_follow_62 : decode cX1_follow 62 = .ok (.invokevirtual 68, 3) := by decide +kernel
theorem dX1_follow_65 : decode cX1_follow 65 = .ok (.iinc 1 1, 3) := by decide +kernel
theorem dX1_follow_68 : decode cX1_follow 68 = .ok (.iconst 1, 1) := by decide +kernel
theorem dX1_follow_69 : decode cX1_follow 69 = .ok (.istore_n 2, 1) := by decide +kernel
theorem dX1_follow_70 : decode cX1_follow 70 = .ok (.iinc 3 1, 3) := by decide +kernel
theorem dX1_follow_73 : decode cX1_follow 73 = .ok (.goto (-57), 3) := by decide +kernel
theorem dX1_follow_76 : decode cX1_follow 76 = .ok (.goto (-68), 3) := by decide +kernel
theorem dX1_follow_79 : decode cX1_follow 79 = .ok (.iload_n 1, 1) := by decide +kernel
theorem dX1_follow_80 : decode cX1_follow 80 = .ok (.ireturn, 1) := by decide +kernel
theorem dX1_step_0 : decode cX1_step 0 = .ok (.aload_n 0, 1) := by decide +kernel
theorem dX1_step_1 : decode cX1_step 1 = .ok (.aload_n 0, 1) := by decide +kernel
theorem dX1_step_2 : decode cX1_step 2 = .ok (.getfield 44, 3) := by decide +kernel
theorem dX1_step_5 : decode cX1_step 5 = .ok (.sipush 600, 3) := by decide +kernel
theorem dX1_step_8 : decode cX1_step 8 = .ok (.if_icmp .ne 7, 3) := by decide +kernel
theorem dX1_step_11 : decode cX1_step 11 = .ok (.iconst 1, 1) := by decide +kernel
theorem dX1_step_12 : decode cX1_step 12 = .ok (.goto 4, 3) := by decide +kernel
theorem dX1_step_15 : decode cX1_step 15 = .ok (.iconst 0, 1) := by decide +kernel
theorem dX1_step_16 : decode cX1_step 16 = .ok (.putfield 34, 3) := by decide +kernel
theorem dX1_step_19 : decode cX1_step 19 = .ok (.aload_n 0, 1) := by decide +kernel
theorem dX1_step_20 : decode cX1_step 20 = .ok (.getfield 34, 3) := by decide +kernel
theorem dX1_step_23 : decode cX1_step 23 = .ok (.ifCond .le 5, 3) := by decide +kernel
theorem dX1_step_26 : decode cX1_step 26 = .ok (.iconst 0, 1) := by decide +kernel
theorem dX1_step_27 : decode cX1_step 27 = .ok (.ireturn, 1) := by decide +kernel
theorem dX1_step_28 : decode cX1_step 28 = .ok (.aload_n 0, 1) := by decide +kernel
theorem dX1_step_29 : decode cX1_step 29 = .ok (.invokevirtual 82, 3) := by decide +kernel
theorem dX1_step_32 : decode cX1_step 32 = .ok (.bipush 17, 2) := by decide +kernel
theorem dX1_step_34 : decode cX1_step 34 = .ok (.if_icmp .ne 10, 3) := by decide +kernel
theorem dX1_step_37 : decode cX1_step 37 = .ok (.aload_n 0, 1) := by decide +kernel
theorem dX1_step_38 : decode cX1_step 38 = .ok (.invokevirtual 85, 3) := by decide +kernel
theorem dX1_step_41 : decode cX1_step 41 = .ok (.goto 4, 3) := by decide +kernel
theorem dX1_step_44 : decode cX1_step 44 = .ok (.iconst (-1), 1) := by decide +kernel
theorem dX1_step_45 : decode cX1_step 45 = .ok (.ireturn, 1) := by decide +kernel
theorem dX1_along_0 : decode cX1_along 0 = .ok (.aload_n 0, 1) := by decide +kernel
theorem dX1_along_1 : decode cX1_along 1 = .ok (.aload_n 0, 1) := by decide +kernel
theorem dX1_along_2 : decode cX1_along 2 = .ok (.getfield 44, 3) := by decide +kernel
theorem dX1_along_5 : decode cX1_along 5 = .ok (.sipush 600, 3) := by decide +kernel
theorem dX1_along_8 : decode cX1_along 8 = .ok (.if_icmp .ne 7, 3) := by decide +kernel
theorem dX1_along_11 : decode cX1_along 11 = .ok (.iconst 1, 1) := by decide +kernel
theorem dX1_along_12 : decode cX1_along 12 = .ok (.goto 4, 3) := by decide +kernel
theorem dX1_along_15 : decode cX1_along 15 = .ok (.iconst 0, 1) := by decide +kernel
theorem dX1_along_16 : decode cX1_along 16 = .ok (.putfield 34, 3) := by decide +kernel
theorem dX1_along_19 : decode cX1_along 19 = .ok (.aload_n 0, 1) := by decide +kernel
theorem dX1_along_20 : decode cX1_along 20 = .ok (.getfield 34, 3) := by decide +kernel
theorem dX1_along_23 : decode cX1_along 23 = .ok (.ifCond .le 5, 3) := by decide +kernel
theorem dX1_along_26 : decode cX1_along 26 = .ok (.iconst 0, 1) := by decide +kernel
theorem dX1_along_27 : decode cX1_along 27 = .ok (.ireturn, 1) := by decide +kernel
theorem dX1_along_28 : decode cX1_along 28 = .ok (.aload_n 0, 1) := by decide +kernel
theorem dX1_along_29 : decode cX1_along 29 = .ok (.invokevirtual 76, 3) := by decide +kernel
theorem dX1_along_32 : decode cX1_along 32 = .ok (.iconst 0, 1) := by decide +kernel
theorem dX1_along_33 : decode cX1_along 33 = .ok (.istore_n 1, 1) := by decide +kernel
theorem dX1_along_34 : decode cX1_along 34 = .ok (.iload_n 1, 1) := by decide +kernel
theorem dX1_along_35 : decode cX1_along 35 = .ok (.aload_n 0, 1) := by decide +kernel
theorem dX1_along_36 : decode cX1_along 36 = .ok (.getfield 41, 3) := by decide +kernel
theorem dX1_along_39 : decode cX1_along 39 = .ok (.if_icmp .ge 82, 3) := by decide +kernel
theorem dX1_along_42 : decode cX1_along 42 = .ok (.aload_n 0, 1) := by decide +kernel
theorem dX1_along_43 : decode cX1_along 43 = .ok (.aload_n 0, 1) := by decide +kernel
theorem dX1_along_44 : decode cX1_along 44 = .ok (.getfield 19, 3) := by decide +kernel
theorem dX1_along_47 : decode cX1_along 47 = .ok (.iload_n 1, 1) := by decide +kernel
theorem dX1_along_48 : decode cX1_along 48 = .ok (.iaload, 1) := by decide +kernel
theorem dX1_along_49 : decode cX1_along 49 = .ok (.invokevirtual 88, 3) := by decide +kernel
theorem dX1_along_52 : decode cX1_along 52 = .ok (.ifCond .eq 16, 3) := by decide +kernel
theorem dX1_along_55 : decode cX1_along 55 = .ok (.aload_n 0, 1) := by decide +kernel
theorem dX1_along_56 : decode cX1_along 56 = .ok (.aload_n 0, 1) := by decide +kernel
theorem dX1_along_57 : decode cX1_along 57 = .ok (.getfield 19, 3) := by decide +kernel
theorem dX1_along_60 : decode cX1_along 60 = .ok (.iload_n 1, 1) := by decide +kernel
theorem dX1_along_61 : decode cX1_along 61 = .ok (.iaload, 1) := by decide +kernel
theorem dX1_along_62 : decode cX1_along 62 = .ok (.invokevirtual 79, 3) := by decide +kernel
theorem dX1_along_65 : decode cX1_along 65 = .ok (.goto 4, 3) := by decide +kernel
theorem dX1_along_68 : decode cX1_along 68 = .ok (.iconst 0, 1) := by decide +kernel
theorem dX1_along_69 : decode cX1_along 69 = .ok (.istore_n 2, 1) := by decide +kernel
theorem dX1_along_70 : decode cX1_along 70 = .ok (.iload_n 2, 1) := by decide +kernel
theorem dX1_along_71 : decode cX1_along 71 = .ok (.bipush 17, 2) := by decide +kernel
theorem dX1_along_73 : decode cX1_along 73 = .ok (.if_icmp .ne 23, 3) := by decide +kernel
theorem dX1_along_76 : decode cX1_along 76 = .ok (.iload_n 1, 1) := by decide +kernel
theorem dX1_along_77 : decode cX1_along 77 = .ok (.aload_n 0, 1) := by decide +kernel
theorem dX1_along_78 : decode cX1_along 78 = .ok (.getfield 41, 3) := by decide +kernel
theorem dX1_along_81 : decode cX1_along 81 = .ok (.iconst 1, 1) := by decide +kernel
theorem dX1_along_82 : decode cX1_along 82 = .ok (.isub, 1) := by decide +kernel
theorem dX1_along_83 : decode cX1_along 83 = .ok (.if_icmp .ne 13, 3) := by decide +kernel
theorem dX1_along_86 : decode cX1_along 86 = .ok (.aload_n 0, 1) := by decide +kernel
theorem dX1_along_87 : decode cX1_along 87 = .ok (.iconst 0, 1) := by decide +kernel
theorem dX1_along_88 : decode cX1_along 88 = .ok (.putfield 41, 3) := by decide +kernel
theorem dX1_along_91 : decode cX1_along 91 = .ok (.aload_n 0, 1) := by decide +kernel
theorem dX1_along_92 : decode cX1_along 92 = .ok (.invokevirtual 85, 3) := by decide +kernel
theorem dX1_along_95 : decode cX1_along 95 = .ok (.ireturn, 1) := by decide +kernel
theorem dX1_along_96 : decode cX1_along 96 = .ok (.iload_n 2, 1) := by decide +kernel
theorem dX1_along_97 : decode cX1_along 97 = .ok (.ifCond .eq 9, 3) := by decide +kernel
theorem dX1_along_100 : decode cX1_along 100 = .ok (.iload_n 2, 1) := by decide +kernel
theorem dX1_along_101 : decode cX1_along 101 = .ok (.bipush 17, 2) := by decide +kernel
theorem dX1_along_103 : decode cX1_along 103 = .ok (.if_icmp .ne 7, 3) := by decide +kernel
theorem dX1_along_106 : decode cX1_along 106 = .ok (.iconst (-1), 1) := by decide +kernel
theorem dX1_along_107 : decode cX1_along 107 = .ok (.iload_n 1, 1) := by decide +kernel
theorem dX1_along_108 : decode cX1_along 108 = .ok (.isub, 1) := by decide +kernel
theorem dX1_along_109 : decode cX1_along 109 = .ok (.ireturn, 1) := by decide +kernel
theorem dX1_along_110 : decode cX1_along 110 = .ok (.aload_n 0, 1) := by decide +kernel
theorem dX1_along_111 : decode cX1_along 111 = .ok (.iload_n 2, 1) := by decide +kernel
theorem dX1_along_112 : decode cX1_along 112 = .ok (.invokevirtual 68, 3) := by decide +kernel
theorem dX1_along_115 : decode cX1_along 115 = .ok (.iinc 1 1, 3) := by decide +kernel
theorem dX1_along_118 : decode cX1_along 118 = .ok (.goto (-84), 3) := by decide +kernel
theorem dX1_along_121 : decode cX1_along 121 = .ok (.iconst (-1), 1) := by decide +kernel
theorem dX1_along_122 : decode cX1_along 122 = .ok (.aload_n 0, 1) := by decide +kernel
theorem dX1_along_123 : decode cX1_along 123 = .ok (.getfield 41, 3) := by decide +kernel
theorem dX1_along_126 : decode cX1_along 126 = .ok (.isub, 1) := by decide +kernel
theorem dX1_along_127 : decode cX1_along 127 = .ok (.ireturn, 1) := by decide +kernel
theorem dX1_drop_0 : decode cX1_drop 0 = .ok (.aload_n 0, 1) := by decide +kernel
theorem dX1_drop_1 : decode cX1_drop 1 = .ok (.aload_n 0, 1) := by decide +kernel
theorem dX1_drop_2 : decode cX1_drop 2 = .ok (.iload_n 1, 1) := by decide +kernel
theorem dX1_drop_3 : decode cX1_drop 3 = .ok (.invokevirtual 88, 3) := by decide +kernel
theorem dX1_drop_6 : decode cX1_drop 6 = .ok (.ifCond .eq 7, 3) := by decide +kernel
theorem dX1_drop_9 : decode cX1_drop 9 = .ok (.iconst 0, 1) := by decide +kernel
theorem dX1_drop_10 : decode cX1_drop 10 = .ok (.goto 4, 3) := by decide +kernel
theorem dX1_drop_13 : decode cX1_drop 13 = .ok (.iconst 1, 1) := by decide +kernel
theorem dX1_drop_14 : decode cX1_drop 14 = .ok (.putfield 34, 3) := by decide +kernel
theorem dX1_drop_17 : decode cX1_drop 17 = .ok (.aload_n 0, 1) := by decide +kernel
theorem dX1_drop_18 : decode cX1_drop 18 = .ok (.getfield 34, 3) := by decide +kernel
theorem dX1_drop_21 : decode cX1_drop 21 = .ok (.ifCond .le 5, 3) := by decide +kernel
theorem dX1_drop_24 : decode cX1_drop 24 = .ok (.iconst 0, 1) := by decide +kernel
theorem dX1_drop_25 : decode cX1_drop 25 = .ok (.ireturn, 1) := by decide +kernel
theorem dX1_drop_26 : decode cX1_drop 26 = .ok (.aload_n 0, 1) := by decide +kernel
theorem dX1_drop_27 : decode cX1_drop 27 = .ok (.getfield 13, 3) := by decide +kernel
theorem dX1_drop_30 : decode cX1_drop 30 = .ok (.iload_n 1, 1) := by decide +kernel
theorem dX1_drop_31 : decode cX1_drop 31 = .ok (.iaload, 1) := by decide +kernel
theorem dX1_drop_32 : decode cX1_drop 32 = .ok (.istore_n 2, 1) := by decide +kernel
theorem dX1_drop_33 : decode cX1_drop 33 = .ok (.aload_n 0, 1) := by decide +kernel
theorem dX1_drop_34 : decode cX1_drop 34 = .ok (.getfield 13, 3) := by decide +kernel
theorem dX1_drop_37 : decode cX1_drop 37 = .ok (.iload_n 1, 1) := by decide +kernel
theorem dX1_drop_38 : decode cX1_drop 38 = .ok (.iconst (-1), 1) := by decide +kernel
theorem dX1_drop_39 : decode cX1_drop 39 = .ok (.iastore, 1) := by decide +kernel
theorem dX1_drop_40 : decode cX1_drop 40 = .ok (.aload_n 0, 1) := by decide +kernel
theorem dX1_drop_41 : decode cX1_drop 41 = .ok (.dup, 1) := by decide +kernel
theorem dX1_drop_42 : decode cX1_drop 42 = .ok (.getfield 47, 3) := by decide +kernel
theorem dX1_drop_45 : decode cX1_drop 45 = .ok (.iconst 1, 1) := by decide +kernel
theorem dX1_drop_46 : decode cX1_drop 46 = .ok (.isub, 1) := by decide +kernel
theorem dX1_drop_47 : decode cX1_drop 47 = .ok (.putfield 47, 3) := by decide +kernel
theorem dX1_drop_50 : decode cX1_drop 50 = .ok (.iload_n 2, 1) := by decide +kernel
theorem dX1_drop_51 : decode cX1_drop 51 = .ok (.ireturn, 1) := by decide +kernel
theorem dX1_at_0 : decode cX1_at 0 = .ok (.aload_n 0, 1) := by decide +kernel
theorem dX1_at_1 : decode cX1_at 1 = .ok (.aload_n 0, 1) := by decide +kernel
theorem dX1_at_2 : decode cX1_at 2 = .ok (.iload_n 1, 1) := by decide +kernel
theorem dX1_at_3 : decode cX1_at 3 = .ok (.invokevirtual 88, 3) := by decide +kernel
theorem dX1_at_6 : decode cX1_at 6 = .ok (.ifCond .eq 11, 3) := by decide +kernel
theorem dX1_at_9 : decode cX1_at 9 = .ok (.iload_n 2, 1) := by decide +kernel
theorem dX1_at_10 : decode cX1_at 10 = .ok (.ifCond .lt 7, 3) := by decide +kernel
theorem dX1_at_13 : decode cX1_at 13 = .ok (.iconst 0, 1) := by decide +kernel
theorem dX1_at_14 : decode cX1_at 14 = .ok (.goto 4, 3) := by decide +kernel
theorem dX1_at_17 : decode cX1_at 17 = .ok (.iconst 1, 1) := by decide +kernel
theorem dX1_at_18 : decode cX1_at 18 = .ok (.putfield 34, 3) := by decide +kernel
theorem dX1_at_21 : decode cX1_at 21 = .ok (.aload_n 0, 1) := by decide +kernel
theorem dX1_at_22 : decode cX1_at 22 = .ok (.getfield 34, 3) := by decide +kernel
theorem dX1_at_25 : decode cX1_at 25 = .ok (.ifCond .gt 13, 3) := by decide +kernel
theorem dX1_at_28 : decode cX1_at 28 = .ok (.iload_n 2, 1) := by decide +kernel
theorem dX1_at_29 : decode cX1_at 29 = .ok (.aload_n 0, 1) := by decide +kernel
theorem dX1_at_30 : decode cX1_at 30 = .ok (.getfield 13, 3) := by decide +kernel
theorem dX1_at_33 : decode cX1_at 33 = .ok (.iload_n 1, 1) := by decide +kernel
theorem dX1_at_34 : decode cX1_at 34 = .ok (.iaload, 1) := by decide +kernel
theorem dX1_at_35 : decode cX1_at 35 = .ok (.if_icmp .lt 7, 3) := by decide +kernel
theorem dX1_at_38 : decode cX1_at 38 = .ok (.iconst 0, 1) := by decide +kernel
theorem dX1_at_39 : decode cX1_at 39 = .ok (.goto 14, 3) := by decide +kernel
theorem dX1_at_42 : decode cX1_at 42 = .ok (.aload_n 0, 1) := by decide +kernel
theorem dX1_at_43 : decode cX1_at 43 = .ok (.getfield 7, 3) := by decide +kernel
theorem dX1_at_46 : decode cX1_at 46 = .ok (.bipush 16, 2) := by decide +kernel
theorem dX1_at_48 : decode cX1_at 48 = .ok (.iload_n 1, 1) := by decide +kernel
theorem dX1_at_49 : decode cX1_at 49 = .ok (.imul, 1) := by decide +kernel
theorem dX1_at_50 : decode cX1_at 50 = .ok (.iload_n 2, 1) := by decide +kernel
theorem dX1_at_51 : decode cX1_at 51 = .ok (.iadd, 1) := by decide +kernel
theorem dX1_at_52 : decode cX1_at 52 = .ok (.iaload, 1) := by decide +kernel
theorem dX1_at_53 : decode cX1_at 53 = .ok (.ireturn, 1) := by decide +kernel
theorem dX1_told_0 : decode cX1_told 0 = .ok (.aload_n 0, 1) := by decide +kernel
theorem dX1_told_1 : decode cX1_told 1 = .ok (.iconst 0, 1) := by decide +kernel
theorem dX1_told_2 : decode cX1_told 2 = .ok (.putfield 34, 3) := by decide +kernel
theorem dX1_told_5 : decode cX1_told 5 = .ok (.aload_n 0, 1) := by decide +kernel
theorem dX1_told_6 : decode cX1_told 6 = .ok (.invokevirtual 82, 3) := by decide +kernel
theorem dX1_told_9 : decode cX1_told 9 = .ok (.ireturn, 1) := by decide +kernel
theorem dX1_isOver_0 : decode cX1_isOver 0 = .ok (.aload_n 0, 1) := by decide +kernel
theorem dX1_isOver_1 : decode cX1_isOver 1 = .ok (.iconst 0, 1) := by decide +kernel
theorem dX1_isOver_2 : decode cX1_isOver 2 = .ok (.putfield 34, 3) := by decide +kernel
theorem dX1_isOver_5 : decode cX1_isOver 5 = .ok (.iconst 0, 1) := by decide +kernel
theorem dX1_isOver_6 : decode cX1_isOver 6 = .ok (.istore_n 1, 1) := by decide +kernel
theorem dX1_isOver_7 : decode cX1_isOver 7 = .ok (.iconst 0, 1) := by decide +kernel
theorem dX1_isOver_8 : decode cX1_isOver 8 = .ok (.istore_n 2, 1) := by decide +kernel
theorem dX1_isOver_9 : decode cX1_isOver 9 = .ok (.iload_n 2, 1) := by decide +kernel
theorem dX1_isOver_10 : decode cX1_isOver 10 = .ok (.aload_n 0, 1) := by decide +kernel
theorem dX1_isOver_11 : decode cX1_isOver 11 = .ok (.getfield 44, 3) := by decide +kernel
theorem dX1_isOver_14 : decode cX1_isOver 14 = .ok (.if_icmp .ge 28, 3) := by decide +kernel
theorem dX1_isOver_17 : decode cX1_isOver 17 = .ok (.iload_n 1, 1) := by decide +kernel
theorem dX1_isOver_18 : decode cX1_isOver 18 = .ok (.ifCond .ne 12, 3) := by decide +kernel
theorem dX1_isOver_21 : decode cX1_isOver 21 = .ok (.aload_n 0, 1) := by decide +kernel
theorem dX1_isOver_22 : decode cX1_isOver 22 = .ok (.getfield 13, 3) := by decide +kernel
theorem dX1_isOver_25 : decode cX1_isOver 25 = .ok (.iload_n 2, 1) := by decide +kernel
theorem dX1_isOver_26 : decode cX1_isOver 26 = .ok (.iaload, 1) := by decide +kernel
theorem dX1_isOver_27 : decode cX1_isOver 27 = .ok (.ifCond .ne 7, 3) := by decide +kernel
theorem dX1_isOver_30 : decode cX1_isOver 30 = .ok (.iconst 1, 1) := by decide +kernel
theorem dX1_isOver_31 : decode cX1_isOver 31 = .ok (.goto 4, 3) := by decide +kernel
theorem dX1_isOver_34 : decode cX1_isOver 34 = .ok (.iconst 0, 1) := by decide +kernel
theorem dX1_isOver_35 : decode cX1_isOver 35 = .ok (.istore_n 1, 1) := by decide +kernel
theorem dX1_isOver_36 : decode cX1_isOver 36 = .ok (.iinc 2 1, 3) := by decide +kernel
theorem dX1_isOver_39 : decode cX1_isOver 39 = .ok (.goto (-30), 3) := by decide +kernel
theorem dX1_isOver_42 : decode cX1_isOver 42 = .ok (.iload_n 1, 1) := by decide +kernel
theorem dX1_isOver_43 : decode cX1_isOver 43 = .ok (.ireturn, 1) := by decide +kernel
theorem dX1_wrong_0 : decode cX1_wrong 0 = .ok (.aload_n 0, 1) := by decide +kernel
theorem dX1_wrong_1 : decode cX1_wrong 1 = .ok (.iconst 0, 1) := by decide +kernel
theorem dX1_wrong_2 : decode cX1_wrong 2 = .ok (.putfield 34, 3) := by decide +kernel
theorem dX1_wrong_5 : decode cX1_wrong 5 = .ok (.aload_n 0, 1) := by decide +kernel
theorem dX1_wrong_6 : decode cX1_wrong 6 = .ok (.getfield 62, 3) := by decide +kernel
theorem dX1_wrong_9 : decode cX1_wrong 9 = .ok (.ireturn, 1) := by decide +kernel
theorem dX1_count_0 : decode cX1_count 0 = .ok (.aload_n 0, 1) := by decide +kernel
theorem dX1_count_1 : decode cX1_count 1 = .ok (.iload_n 1, 1) := by decide +kernel
theorem dX1_count_2 : decode cX1_count 2 = .ok (.ifCond .lt 12, 3) := by decide +kernel
theorem dX1_count_5 : decode cX1_count 5 = .ok (.iload_n 1, 1) := by decide +kernel
theorem dX1_count_6 : decode cX1_count 6 = .ok (.iconst 4, 1) := by decide +kernel
theorem dX1_count_7 : decode cX1_count 7 = .ok (.if_icmp .gt 7, 3) := by decide +kernel
theorem dX1_count_10 : decode cX1_count 10 = .ok (.iconst 0, 1) := by decide +kernel
theorem dX1_count_11 : decode cX1_count 11 = .ok (.goto 4, 3) := by decide +kernel
theorem dX1_count_14 : decode cX1_count 14 = .ok (.iconst 1, 1) := by decide +kernel
theorem dX1_count_15 : decode cX1_count 15 = .ok (.putfield 34, 3) := by decide +kernel
theorem dX1_count_18 : decode cX1_count 18 = .ok (.aload_n 0, 1) := by decide +kernel
theorem dX1_count_19 : decode cX1_count 19 = .ok (.getfield 34, 3) := by decide +kernel
theorem dX1_count_22 : decode cX1_count 22 = .ok (.ifCond .le 7, 3) := by decide +kernel
theorem dX1_count_25 : decode cX1_count 25 = .ok (.iconst 0, 1) := by decide +kernel
theorem dX1_count_26 : decode cX1_count 26 = .ok (.goto 54, 3) := by decide +kernel
theorem dX1_count_29 : decode cX1_count 29 = .ok (.iload_n 1, 1) := by decide +kernel
theorem dX1_count_30 : decode cX1_count 30 = .ok (.ifCond .ne 10, 3) := by decide +kernel
theorem dX1_count_33 : decode cX1_count 33 = .ok (.aload_n 0, 1) := by decide +kernel
theorem dX1_count_34 : decode cX1_count 34 = .ok (.getfield 44, 3) := by decide +kernel
theorem dX1_count_37 : decode cX1_count 37 = .ok (.goto 43, 3) := by decide +kernel
theorem dX1_count_40 : decode cX1_count 40 = .ok (.iload_n 1, 1) := by decide +kernel
theorem dX1_count_41 : decode cX1_count 41 = .ok (.iconst 1, 1) := by decide +kernel
theorem dX1_count_42 : decode cX1_count 42 = .ok (.if_icmp .ne 10, 3) := by decide +kernel
theorem dX1_count_45 : decode cX1_count 45 = .ok (.aload_n 0, 1) := by decide +kernel
theorem dX1_count_46 : decode cX1_count 46 = .ok (.getfield 47, 3) := by decide +kernel
theorem dX1_count_49 : decode cX1_count 49 = .ok (.goto 31, 3) := by decide +kernel
theorem dX1_count_52 : decode cX1_count 52 = .ok (.iload_n 1, 1) := by decide +kernel
theorem dX1_count_53 : decode cX1_count 53 = .ok (.iconst 2, 1) := by decide +kernel
theorem dX1_count_54 : decode cX1_count 54 = .ok (.if_icmp .ne 10, 3) := by decide +kernel
theorem dX1_count_57 : decode cX1_count 57 = .ok (.aload_n 0, 1) := by decide +kernel
theorem dX1_count_58 : decode cX1_count 58 = .ok (.getfield 65, 3) := by decide +kernel
theorem dX1_count_61 : decode cX1_count 61 = .ok (.goto 19, 3) := by decide +kernel
theorem dX1_count_64 : decode cX1_count 64 = .ok (.iload_n 1, 1) := by decide +kernel
theorem dX1_count_65 : decode cX1_count 65 = .ok (.iconst 3, 1) := by decide +kernel
theorem dX1_count_66 : decode cX1_count 66 = .ok (.if_icmp .ne 10, 3) := by decide +kernel
theorem dX1_count_69 : decode cX1_count 69 = .ok (.aload_n 0, 1) := by decide +kernel
theorem dX1_count_70 : decode cX1_count 70 = .ok (.getfield 38, 3) := by decide +kernel
theorem dX1_count_73 : decode cX1_count 73 = .ok (.goto 7, 3) := by decide +kernel
theorem dX1_count_76 : decode cX1_count 76 = .ok (.aload_n 0, 1) := by decide +kernel
theorem dX1_count_77 : decode cX1_count 77 = .ok (.getfield 41, 3) := by decide +kernel
theorem dX1_count_80 : decode cX1_count 80 = .ok (.ireturn, 1) := by decide +kernel
end
section
theorem dL_literal_0 : decode cL_literal 0 = .ok (.aload_n 2, 1) := by decide +kernel
theorem dL_literal_1 : decode cL_literal 1 = .ok (.iconst 0, 1) := by decide +kernel
theorem dL_literal_2 : decode cL_literal 2 = .ok (.aload_n 0, 1) := by decide +kernel
theorem dL_literal_3 : decode cL_literal 3 = .ok (.iload_n 1, 1) := by decide +kernel
theorem dL_literal_4 : decode cL_literal 4 = .ok (.invokevirtual 7, 3) := by decide +kernel
theorem dL_literal_7 : decode cL_literal 7 = .ok (.i2l, 1) := by decide +kernel
theorem dL_literal_8 : decode cL_literal 8 = .ok (.lastore, 1) := by decide +kernel
theorem dL_literal_9 : decode cL_literal 9 = .ok (.goto 6, 3) := by decide +kernel
theorem dL_literal_12 : decode cL_literal 12 = .ok (.astore_n 3, 1) := by decide +kernel
theorem dL_literal_13 : decode cL_literal 13 = .ok (.iconst 1, 1) := by decide +kernel
theorem dL_literal_14 : decode cL_literal 14 = .ok (.ireturn, 1) := by decide +kernel
theorem dL_literal_15 : decode cL_literal 15 = .ok (.iconst 0, 1) := by decide +kernel
theorem dL_literal_16 : decode cL_literal 16 = .ok (.ireturn, 1) := by decide +kernel
theorem dL_hint_0 : decode cL_hint 0 = .ok (.aload_n 2, 1) := by decide +kernel
theorem dL_hint_1 : decode cL_hint 1 = .ok (.iconst 0, 1) := by decide +kernel
theorem dL_hint_2 : decode cL_hint 2 = .ok (.aload_n 0, 1) := by decide +kernel
theorem dL_hint_3 : decode cL_hint 3 = .ok (.iload_n 1, 1) := by decide +kernel
theorem dL_hint_4 : decode cL_hint 4 = .ok (.invokevirtual 15, 3) := by decide +kernel
theorem dL_hint_7 : decode cL_hint 7 = .ok (.i2l, 1) := by decide +kernel
theorem dL_hint_8 : decode cL_hint 8 = .ok (.lastore, 1) := by decide +kernel
theorem dL_hint_9 : decode cL_hint 9 = .ok (.goto 9, 3) := by decide +kernel
theorem dL_hint_12 : decode cL_hint 12 = .ok (.astore_n 3, 1) := by decide +kernel
theorem dL_hint_13 : decode cL_hint 13 = .ok (.iconst 1, 1) := by decide +kernel
theorem dL_hint_14 : decode cL_hint 14 = .ok (.ireturn, 1) := by decide +kernel
theorem dL_hint_15 : decode cL_hint 15 = .ok (.astore_n 3, 1) := by decide +kernel
theorem dL_hint_16 : decode cL_hint 16 = .ok (.iconst 2, 1) := by decide +kernel
theorem dL_hint_17 : decode cL_hint 17 = .ok (.ireturn, 1) := by decide +kernel
theorem dL_hint_18 : decode cL_hint 18 = .ok (.iconst 0, 1) := by decide +kernel
theorem dL_hint_19 : decode cL_hint 19 = .ok (.ireturn, 1) := by decide +kernel
theorem dL_give_0 : decode cL_give 0 = .ok (.aload_n 1, 1) := by decide +kernel
theorem dL_give_1 : decode cL_give 1 = .ok (.iconst 0, 1) := by decide +kernel
theorem dL_give_2 : decode cL_give 2 = .ok (.aload_n 0, 1) := by decide +kernel
theorem dL_give_3 : decode cL_give 3 = .ok (.invokevirtual 20, 3) := by decide +kernel
theorem dL_give_6 : decode cL_give 6 = .ok (.i2l, 1) := by decide +kernel
theorem dL_give_7 : decode cL_give 7 = .ok (.lastore, 1) := by decide +kernel
theorem dL_give_8 : decode cL_give 8 = .ok (.goto 6, 3) := by decide +kernel
theorem dL_give_11 : decode cL_give 11 = .ok (.astore_n 2, 1) := by decide +kernel
theorem dL_give_12 : decode cL_give 12 = .ok (.iconst 1, 1) := by decide +kernel
theorem dL_give_13 : decode cL_give 13 = .ok (.ireturn, 1) := by decide +kernel
theorem dL_give_14 : decode cL_give 14 = .ok (.iconst 0, 1) := by decide +kernel
theorem dL_give_15 : decode cL_give 15 = .ok (.ireturn, 1) := by decide +kernel
theorem dL_step_0 : decode cL_step 0 = .ok (.aload_n 1, 1) := by decide +kernel
theorem dL_step_1 : decode cL_step 1 = .ok (.iconst 0, 1) := by decide +kernel
theorem dL_step_2 : decode cL_step 2 = .ok (.aload_n 0, 1) := by decide +kernel
theorem dL_step_3 : decode cL_step 3 = .ok (.invokevirtual 24, 3) := by decide +kernel
theorem dL_step_6 : decode cL_step 6 = .ok (.i2l, 1) := by decide +kernel
theorem dL_step_7 : decode cL_step 7 = .ok (.lastore, 1) := by decide +kernel
theorem dL_step_8 : decode cL_step 8 = .ok (.goto 6, 3) := by decide +kernel
theorem dL_step_11 : decode cL_step 11 = .ok (.astore_n 2, 1) := by decide +kernel
theorem dL_step_12 : decode cL_step 12 = .ok (.iconst 1, 1) := by decide +kernel
theorem dL_step_13 : decode cL_step 13 = .ok (.ireturn, 1) := by decide +kernel
theorem dL_step_14 : decode cL_step 14 = .ok (.iconst 0, 1) := by decide +kernel
theorem dL_step_15 : decode cL_step 15 = .ok (.ireturn, 1) := by decide +kernel
theorem dL_along_0 : decode cL_along 0 = .ok (.aload_n 1, 1) := by decide +kernel
theorem dL_along_1 : decode cL_along 1 = .ok (.iconst 0, 1) := by decide +kernel
theorem dL_along_2 : decode cL_along 2 = .ok (.aload_n 0, 1) := by decide +kernel
theorem dL_along_3 : decode cL_along 3 = .ok (.invokevirtual 27, 3) := by decide +kernel
theorem dL_along_6 : decode cL_along 6 = .ok (.i2l, 1) := by decide +kernel
theorem dL_along_7 : decode cL_along 7 = .ok (.lastore, 1) := by decide +kernel
theorem dL_along_8 : decode cL_along 8 = .ok (.goto 6, 3) := by decide +kernel
theorem dL_along_11 : decode cL_along 11 = .ok (.astore_n 2, 1) := by decide +kernel
theorem dL_along_12 : decode cL_along 12 = .ok (.iconst 1, 1) := by decide +kernel
theorem dL_along_13 : decode cL_along 13 = .ok (.ireturn, 1) := by decide +kernel
theorem dL_along_14 : decode cL_along 14 = .ok (.iconst 0, 1) := by decide +kernel
theorem dL_along_15 : decode cL_along 15 = .ok (.ireturn, 1) := by decide +kernel
theorem dL_drop_0 : decode cL_drop 0 = .ok (.aload_n 2, 1) := by decide +kernel
theorem dL_drop_1 : decode cL_drop 1 = .ok (.iconst 0, 1) := by decide +kernel
theorem dL_drop_2 : decode cL_drop 2 = .ok (.aload_n 0, 1) := by decide +kernel
theorem dL_drop_3 : decode cL_drop 3 = .ok (.iload_n 1, 1) := by decide +kernel
theorem dL_drop_4 : decode cL_drop 4 = .ok (.invokevirtual 30, 3) := by decide +kernel
theorem dL_drop_7 : decode cL_drop 7 = .ok (.i2l, 1) := by decide +kernel
theorem dL_drop_8 : decode cL_drop 8 = .ok (.lastore, 1) := by decide +kernel
theorem dL_drop_9 : decode cL_drop 9 = .ok (.goto 6, 3) := by decide +kernel
theorem dL_drop_12 : decode cL_drop 12 = .ok (.astore_n 3, 1) := by decide +kernel
theorem dL_drop_13 : decode cL_drop 13 = .ok (.iconst 1, 1) := by decide +kernel
theorem dL_drop_14 : decode cL_drop 14 = .ok (.ireturn, 1) := by decide +kernel
theorem dL_drop_15 : decode cL_drop 15 = .ok (.iconst 0, 1) := by decide +kernel
theorem dL_drop_16 : decode cL_drop 16 = .ok (.ireturn, 1) := by decide +kernel
theorem dL_at_0 : decode cL_at 0 = .ok (.aload_n 3, 1) := by decide +kernel
theorem dL_at_1 : decode cL_at 1 = .ok (.iconst 0, 1) := by decide +kernel
theorem dL_at_2 : decode cL_at 2 = .ok (.aload_n 0, 1) := by decide +kernel
theorem dL_at_3 : decode cL_at 3 = .ok (.iload_n 1, 1) := by decide +kernel
theorem dL_at_4 : decode cL_at 4 = .ok (.iload_n 2, 1) := by decide +kernel
theorem dL_at_5 : decode cL_at 5 = .ok (.invokevirtual 33, 3) := by decide +kernel
theorem dL_at_8 : decode cL_at 8 = .ok (.i2l, 1) := by decide +kernel
theorem dL_at_9 : decode cL_at 9 = .ok (.lastore, 1) := by decide +kernel
theorem dL_at_10 : decode cL_at 10 = .ok (.goto 7, 3) := by decide +kernel
theorem dL_at_13 : decode cL_at 13 = .ok (.astore 4, 2) := by decide +kernel
theorem dL_at_15 : decode cL_at 15 = .ok (.iconst 1, 1) := by decide +kernel
theorem dL_at_16 : decode cL_at 16 = .ok (.ireturn, 1) := by decide +kernel
theorem dL_at_17 : decode cL_at 17 = .ok (.iconst 0, 1) := by decide +kernel
theorem dL_at_18 : decode cL_at 18 = .ok (.ireturn, 1) := by decide +kernel
theorem dL_count_0 : decode cL_count 0 = .ok (.aload_n 2, 1) := by decide +kernel
theorem dL_count_1 : decode cL_count 1 = .ok (.iconst 0, 1) := by decide +kernel
theorem dL_count_2 : decode cL_count 2 = .ok (.aload_n 0, 1) := by decide +kernel
theorem dL_count_3 : decode cL_count 3 = .ok (.iload_n 1, 1) := by decide +kernel
theorem dL_count_4 : decode cL_count 4 = .ok (.invokevirtual 37, 3) := by decide +kernel
theorem dL_count_7 : decode cL_count 7 = .ok (.i2l, 1) := by decide +kernel
theorem dL_count_8 : decode cL_count 8 = .ok (.lastore, 1) := by decide +kernel
theorem dL_count_9 : decode cL_count 9 = .ok (.goto 6, 3) := by decide +kernel
theorem dL_count_12 : decode cL_count 12 = .ok (.astore_n 3, 1) := by decide +kernel
theorem dL_count_13 : decode cL_count 13 = .ok (.iconst 1, 1) := by decide +kernel
theorem dL_count_14 : decode cL_count 14 = .ok (.ireturn, 1) := by decide +kernel
theorem dL_count_15 : decode cL_count 15 = .ok (.iconst 0, 1) := by decide +kernel
theorem dL_count_16 : decode cL_count 16 = .ok (.ireturn, 1) := by decide +kernel
theorem dL_law_0 : decode cL_law 0 = .ok (.new 8, 3) := by decide +kernel
theorem dL_law_3 : decode cL_law 3 = .ok (.dup, 1) := by decide +kernel
theorem dL_law_4 : decode cL_law 4 = .ok (.invokespecial 40, 3) := by decide +kernel
theorem dL_law_7 : decode cL_law 7 = .ok (.astore_n 1, 1) := by decide +kernel
theorem dL_law_8 : decode cL_law 8 = .ok (.new 41, 3) := by decide +kernel
theorem dL_law_11 : decode cL_law 11 = .ok (.dup, 1) := by decide +kernel
theorem dL_law_12 : decode cL_law 12 = .ok (.invokespecial 43, 3) := by decide +kernel
theorem dL_law_15 : decode cL_law 15 = .ok (.astore_n 2, 1) := by decide +kernel
theorem dL_law_16 : decode cL_law 16 = .ok (.iconst 1, 1) := by decide +kernel
theorem dL_law_17 : decode cL_law 17 = .ok (.newarray .long, 2) := by decide +kernel
theorem dL_law_19 : decode cL_law 19 = .ok (.astore_n 3, 1) := by decide +kernel
theorem dL_law_20 : decode cL_law 20 = .ok (.iconst 0, 1) := by decide +kernel
theorem dL_law_21 : decode cL_law 21 = .ok (.istore 4, 2) := by decide +kernel
theorem dL_law_23 : decode cL_law 23 = .ok (.iload 4, 2) := by decide +kernel
theorem dL_law_25 : decode cL_law 25 = .ok (.aload_n 0, 1) := by decide +kernel
theorem dL_law_26 : decode cL_law 26 = .ok (.arraylength, 1) := by decide +kernel
theorem dL_law_27 : decode cL_law 27 = .ok (.iconst 3, 1) := by decide +kernel
theorem dL_law_28 : decode cL_law 28 = .ok (.isub, 1) := by decide +kernel
theorem dL_law_29 : decode cL_law 29 = .ok (.if_icmp .gt 553, 3) := by decide +kernel
theorem dL_law_32 : decode cL_law 32 = .ok (.aload_n 0, 1) := by decide +kernel
theorem dL_law_33 : decode cL_law 33 = .ok (.iload 4, 2) := by decide +kernel
theorem dL_law_35 : decode cL_law 35 = .ok (.iaload, 1) := by decide +kernel
theorem dL_law_36 : decode cL_law 36 = .ok (.bipush 15, 2) := by decide +kernel
theorem dL_law_38 : decode cL_law 38 = .ok (.iand, 1) := by decide +kernel
theorem dL_law_39 : decode cL_law 39 = .ok (.tableswitch 537 0 11 #[61, 117, 173, 186, 230, 274, 318, 374, 442, 455, 468, 481], 61) := by decide +kernel
theorem dL_law_100 : decode cL_law 100 = .ok (.aload_n 1, 1) := by decide +kernel
theorem dL_law_101 : decode cL_law 101 = .ok (.aload_n 0, 1) := by decide +kernel
theorem dL_law_102 : decode cL_law 102 = .ok (.iload 4, 2) := by decide +kernel
theorem dL_law_104 : decode cL_law 104 = .ok (.iconst 1, 1) := by decide +kernel
theorem dL_law_105 : decode cL_law 105 = .ok (.iadd, 1) := by decide +kernel
theorem dL_law_106 : decode cL_law 106 = .ok (.iaload, 1) := by decide +kernel
theorem dL_law_107 : decode cL_law 107 = .ok (.aload_n 3, 1) := by decide +kernel
theorem dL_law_108 : decode cL_law 108 = .ok (.invokestatic 44, 3) := by decide +kernel
theorem dL_law_111 : decode cL_law 111 = .ok (.istore 5, 2) := by decide +kernel
theorem dL_law_113 : decode cL_law 113 = .ok (.aload_n 2, 1) := by decide +kernel
theorem dL_law_114 : decode cL_law 114 = .ok (.aload_n 0, 1) := by decide +kernel
theorem dL_law_115 : decode cL_law 115 = .ok (.iload 4, 2) := by decide +kernel
theorem dL_law_117 : decode cL_law 117 = .ok (.iconst 1, 1) := by decide +kernel
theorem dL_law_118 : decode cL_law 118 = .ok (.iadd, 1) := by decide +kernel
theorem dL_law_119 : decode cL_law 119 = .ok (.iaload, 1) := by decide +kernel
theorem dL_law_120 : decode cL_law 120 = .ok (.invokevirtual 49, 3) := by decide +kernel
theorem dL_law_123 : decode cL_law 123 = .ok (.istore 6, 2) := by decide +kernel
theorem dL_law_125 : decode cL_law 125 = .ok (.aload_n 2, 1) := by decide +kernel
theorem dL_law_126 : decode cL_law 126 = .ok (.invokevirtual 50, 3) := by decide +kernel
theorem dL_law_129 : decode cL_law 129 = .ok (.iload 5, 2) := by decide +kernel
theorem dL_law_131 : decode cL_law 131 = .ok (.if_icmp .eq 5, 3) := by decide +kernel
theorem dL_law_134 : decode cL_law 134 = .ok (.iconst 0, 1) := by decide +kernel
theorem dL_law_135 : decode cL_law 135 = .ok (.ireturn, 1) := by decide +kernel
theorem dL_law_136 : decode cL_law 136 = .ok (.iload 5, 2) := by decide +kernel
theorem dL_law_138 : decode cL_law 138 = .ok (.ifCond .ne 15, 3) := by decide +kernel
theorem dL_law_141 : decode cL_law 141 = .ok (.aload_n 3, 1) := by decide +kernel
theorem dL_law_142 : decode cL_law 142 = .ok (.iconst 0, 1) := by decide +kernel
theorem dL_law_143 : decode cL_law 143 = .ok (.laload, 1) := by decide +kernel
theorem dL_law_144 : decode cL_law 144 = .ok (.iload 6, 2) := by decide +kernel
theorem dL_law_146 : decode cL_law 146 = .ok (.i2l, 1) := by decide +kernel
theorem dL_law_147 : decode cL_law 147 = .ok (.lcmp, 1) := by decide +kernel
theorem dL_law_148 : decode cL_law 148 = .ok (.ifCond .eq 5, 3) := by decide +kernel
theorem dL_law_151 : decode cL_law 151 = .ok (.iconst 0, 1) := by decide +kernel
theorem dL_law_152 : decode cL_law 152 = .ok (.ireturn, 1) := by decide +kernel
theorem dL_law_153 : decode cL_law 153 = .ok (.goto 423, 3) := by decide +kernel
theorem dL_law_156 : decode cL_law 156 = .ok (.aload_n 1, 1) := by decide +kernel
theorem dL_law_157 : decode cL_law 157 = .ok (.aload_n 0, 1) := by decide +kernel
theorem dL_law_158 : decode cL_law 158 = .ok (.iload 4, 2) := by decide +kernel
theorem dL_law_160 : decode cL_law 160 = .ok (.iconst 1, 1) := by decide +kernel
theorem dL_law_161 : decode cL_law 161 = .ok (.iadd, 1) := by decide +kernel
theorem dL_law_162 : decode cL_law 162 = .ok (.iaload, 1) := by decide +kernel
theorem dL_law_163 : decode cL_law 163 = .ok (.aload_n 3, 1) := by decide +kernel
theorem dL_law_164 : decode cL_law 164 = .ok (.invokestatic 53, 3) := by decide +kernel
theorem dL_law_167 : decode cL_law 167 = .ok (.istore 5, 2) := by decide +kernel
theorem dL_law_169 : decode cL_law 169 = .ok (.aload_n 2, 1) := by decide +kernel
theorem dL_law_170 : decode cL_law 170 = .ok (.aload_n 0, 1) := by decide +kernel
theorem dL_law_171 : decode cL_law 171 = .ok (.iload 4, 2) := by decide +kernel
theorem dL_law_173 : decode cL_law 173 = .ok (.iconst 1, 1) := by decide +kernel
theorem dL_law_174 : decode cL_law 174 = .ok (.iadd, 1) := by decide +kernel
theorem dL_law_175 : decode cL_law 175 = .ok (.iaload, 1) := by decide +kernel
theorem dL_law_176 : decode cL_law 176 = .ok (.invokevirtual 55, 3) := by decide +kernel
theorem dL_law_179 : decode cL_law 179 = .ok (.istore 6, 2) := by decide +kernel
theorem dL_law_181 : decode cL_law 181 = .ok (.aload_n 2, 1) := by decide +kernel
theorem dL_law_182 : decode cL_law 182 = .ok (.invokevirtual 50, 3) := by decide +kernel
theorem dL_law_185 : decode cL_law 185 = .ok (.iload 5, 2) := by decide +kernel
theorem dL_law_187 : decode cL_law 187 = .ok (.if_icmp .eq 5, 3) := by decide +kernel
theorem dL_law_190 : decode cL_law 190 = .ok (.iconst 0, 1) := by decide +kernel
theorem dL_law_191 : decode cL_law 191 = .ok (.ireturn, 1) := by decide +kernel
theorem dL_law_192 : decode cL_law 192 = .ok (.iload 5, 2) := by decide +kernel
theorem dL_law_194 : decode cL_law 194 = .ok (.ifCond .ne 15, 3) := by decide +kernel
theorem dL_law_197 : decode cL_law 197 = .ok (.aload_n 3, 1) := by decide +kernel
theorem dL_law_198 : decode cL_law 198 = .ok (.iconst 0, 1) := by decide +kernel
theorem dL_law_199 : decode cL_law 199 = .ok (.laload, 1) := by decide +kernel
theorem dL_law_200 : decode cL_law 200 = .ok (.iload 6, 2) := by decide +kernel
theorem dL_law_202 : decode cL_law 202 = .ok (.i2l, 1) := by decide +kernel
theorem dL_law_203 : decode cL_law 203 = .ok (.lcmp, 1) := by decide +kernel
theorem dL_law_204 : decode cL_law 204 = .ok (.ifCond .eq 5, 3) := by decide +kernel
theorem dL_law_207 : decode cL_law 207 = .ok (.iconst 0, 1) := by decide +kernel
theorem dL_law_208 : decode cL_law 208 = .ok (.ireturn, 1) := by decide +kernel
theorem dL_law_209 : decode cL_law 209 = .ok (.goto 367, 3) := by decide +kernel
theorem dL_law_212 : decode cL_law 212 = .ok (.aload_n 1, 1) := by decide +kernel
theorem dL_law_213 : decode cL_law 213 = .ok (.invokevirtual 56, 3) := by decide +kernel
theorem dL_law_216 : decode cL_law 216 = .ok (.aload_n 2, 1) := by decide +kernel
theorem dL_law_217 : decode cL_law 217 = .ok (.invokevirtual 59, 3) := by decide +kernel
theorem dL_law_220 : decode cL_law 220 = .ok (.if_icmp .eq 356, 3) := by decide +kernel
theorem dL_law_223 : decode cL_law 223 = .ok (.iconst 0, 1) := by decide +kernel
theorem dL_law_224 : decode cL_law 224 = .ok (.ireturn, 1) := by decide +kernel
theorem dL_law_225 : decode cL_law 225 = .ok (.aload_n 1, 1) := by decide +kernel
theorem dL_law_226 : decode cL_law 226 = .ok (.aload_n 3, 1) := by decide +kernel
theorem dL_law_227 : decode cL_law 227 = .ok (.invokestatic 60, 3) := by decide +kernel
theorem dL_law_230 : decode cL_law 230 = .ok (.istore 5, 2) := by decide +kernel
theorem dL_law_232 : decode cL_law 232 = .ok (.aload_n 2, 1) := by decide +kernel
theorem dL_law_233 : decode cL_law 233 = .ok (.invokevirtual 63, 3) := by decide +kernel
theorem dL_law_236 : decode cL_law 236 = .ok (.istore 6, 2) := by decide +kernel
theorem dL_law_238 : decode cL_law 238 = .ok (.aload_n 2, 1) := by decide +kernel
theorem dL_law_239 : decode cL_law 239 = .ok (.invokevirtual 50, 3) := by decide +kernel
theorem dL_law_242 : decode cL_law 242 = .ok (.iload 5, 2) := by decide +kernel
theorem dL_law_244 : decode cL_law 244 = .ok (.if_icmp .eq 5, 3) := by decide +kernel
theorem dL_law_247 : decode cL_law 247 = .ok (.iconst 0, 1) := by decide +kernel
theorem dL_law_248 : decode cL_law 248 = .ok (.ireturn, 1) := by decide +kernel
theorem dL_law_249 : decode cL_law 249 = .ok (.iload 5, 2) := by decide +kernel
theorem dL_law_251 : decode cL_law 251 = .ok (.ifCond .ne 15, 3) := by decide +kernel
theorem dL_law_254 : decode cL_law 254 = .ok (.aload_n 3, 1) := by decide +kernel
theorem dL_law_255 : decode cL_law 255 = .ok (.iconst 0, 1) := by decide +kernel
theorem dL_law_256 : decode cL_law 256 = .ok (.laload, 1) := by decide +kernel
theorem dL_law_257 : decode cL_law 257 = .ok (.iload 6, 2) := by decide +kernel
theorem dL_law_259 : decode cL_law 259 = .ok (.i2l, 1) := by decide +kernel
theorem dL_law_260 : decode cL_law 260 = .ok (.lcmp, 1) := by decide +kernel
theorem dL_law_261 : decode cL_law 261 = .ok (.ifCond .eq 5, 3) := by decide +kernel
theorem dL_law_264 : decode cL_law 264 = .ok (.iconst 0, 1) := by decide +kernel
theorem dL_law_265 : decode cL_law 265 = .ok (.ireturn, 1) := by decide +kernel
theorem dL_law_266 : decode cL_law 266 = .ok (.goto 310, 3) := by decide +kernel
theorem dL_law_269 : decode cL_law 269 = .ok (.aload_n 1, 1) := by decide +kernel
theorem dL_law_270 : decode cL_law 270 = .ok (.aload_n 3, 1) := by decide +kernel
theorem dL_law_271 : decode cL_law 271 = .ok (.invokestatic 64, 3) := by decide +kernel
theorem dL_law_274 : decode cL_law 274 = .ok (.istore 5, 2) := by decide +kernel
theorem dL_law_276 : decode cL_law 276 = .ok (.aload_n 2, 1) := by decide +kernel
theorem dL_law_277 : decode cL_law 277 = .ok (.invokevirtual 66, 3) := by decide +kernel
theorem dL_law_280 : decode cL_law 280 = .ok (.istore 6, 2) := by decide +kernel
theorem dL_law_282 : decode cL_law 282 = .ok (.aload_n 2, 1) := by decide +kernel
theorem dL_law_283 : decode cL_law 283 = .ok (.invokevirtual 50, 3) := by decide +kernel
theorem dL_law_286 : decode cL_law 286 = .ok (.iload 5, 2) := by decide +kernel
theorem dL_law_288 : decode cL_law 288 = .ok (.if_icmp .eq 5, 3) := by decide +kernel
theorem dL_law_291 : decode cL_law 291 = .ok (.iconst 0, 1) := by decide +kernel
theorem dL_law_292 : decode cL_law 292 = .ok (.ireturn, 1) := by decide +kernel
theorem dL_law_293 : decode cL_law 293 = .ok (.iload 5, 2) := by decide +kernel
theorem dL_law_295 : decode cL_law 295 = .ok (.ifCond .ne 15, 3) := by decide +kernel
theorem dL_law_298 : decode cL_law 298 = .ok (.aload_n 3, 1) := by decide +kernel
theorem dL_law_299 : decode cL_law 299 = .ok (.iconst 0, 1) := by decide +kernel
theorem dL_law_300 : decode cL_law 300 = .ok (.laload, 1) := by decide +kernel
theorem dL_law_301 : decode cL_law 301 = .ok (.iload 6, 2) := by decide +kernel
theorem dL_law_303 : decode cL_law 303 = .ok (.i2l, 1) := by decide +kernel
theorem dL_law_304 : decode cL_law 304 = .ok (.lcmp, 1) := by decide +kernel
theorem dL_law_305 : decode cL_law 305 = .ok (.ifCond .eq 5, 3) := by decide +kernel
theorem dL_law_308 : decode cL_law 308 = .ok (.iconst 0, 1) := by decide +kernel
theorem dL_law_309 : decode cL_law 309 = .ok (.ireturn, 1) := by decide +kernel
theorem dL_law_310 : decode cL_law 310 = .ok (.goto 266, 3) := by decide +kernel
theorem dL_law_313 : decode cL_law 313 = .ok (.aload_n 1, 1) := by decide +kernel
theorem dL_law_314 : decode cL_law 314 = .ok (.aload_n 3, 1) := by decide +kernel
theorem dL_law_315 : decode cL_law 315 = .ok (.invokestatic 67, 3) := by decide +kernel
theorem dL_law_318 : decode cL_law 318 = .ok (.istore 5, 2) := by decide +kernel
theorem dL_law_320 : decode cL_law 320 = .ok (.aload_n 2, 1) := by decide +kernel
theorem dL_law_321 : decode cL_law 321 = .ok (.invokevirtual 69, 3) := by decide +kernel
theorem dL_law_324 : decode cL_law 324 = .ok (.istore 6, 2) := by decide +kernel
theorem dL_law_326 : decode cL_law 326 = .ok (.aload_n 2, 1) := by decide +kernel
theorem dL_law_327 : decode cL_law 327 = .ok (.invokevirtual 50, 3) := by decide +kernel
theorem dL_law_330 : decode cL_law 330 = .ok (.iload 5, 2) := by decide +kernel
theorem dL_law_332 : decode cL_law 332 = .ok (.if_icmp .eq 5, 3) := by decide +kernel
theorem dL_law_335 : decode cL_law 335 = .ok (.iconst 0, 1) := by decide +kernel
theorem dL_law_336 : decode cL_law 336 = .ok (.ireturn, 1) := by decide +kernel
theorem dL_law_337 : decode cL_law 337 = .ok (.iload 5, 2) := by decide +kernel
theorem dL_law_339 : decode cL_law 339 = .ok (.ifCond .ne 15, 3) := by decide +kernel
theorem dL_law_342 : decode cL_law 342 = .ok (.aload_n 3, 1) := by decide +kernel
theorem dL_law_343 : decode cL_law 343 = .ok (.iconst 0, 1) := by decide +kernel
theorem dL_law_344 : decode cL_law 344 = .ok (.laload, 1) := by decide +kernel
theorem dL_law_345 : decode cL_law 345 = .ok (.iload 6, 2) := by decide +kernel
theorem dL_law_347 : decode cL_law 347 = .ok (.i2l, 1) := by decide +kernel
theorem dL_law_348 : decode cL_law 348 = .ok (.lcmp, 1) := by decide +kernel
theorem dL_law_349 : decode cL_law 349 = .ok (.ifCond .eq 5, 3) := by decide +kernel
theorem dL_law_352 : decode cL_law 352 = .ok (.iconst 0, 1) := by decide +kernel
theorem dL_law_353 : decode cL_law 353 = .ok (.ireturn, 1) := by decide +kernel
theorem dL_law_354 : decode cL_law 354 = .ok (.goto 222, 3) := by decide +kernel
theorem dL_law_357 : decode cL_law 357 = .ok (.aload_n 1, 1) := by decide +kernel
theorem dL_law_358 : decode cL_law 358 = .ok (.aload_n 0, 1) := by decide +kernel
theorem dL_law_359 : decode cL_law 359 = .ok (.iload 4, 2) := by decide +kernel
theorem dL_law_361 : decode cL_law 361 = .ok (.iconst 1, 1) := by decide +kernel
theorem dL_law_362 : decode cL_law 362 = .ok (.iadd, 1) := by decide +kernel
theorem dL_law_363 : decode cL_law 363 = .ok (.iaload, 1) := by decide +kernel
theorem dL_law_364 : decode cL_law 364 = .ok (.aload_n 3, 1) := by decide +kernel
theorem dL_law_365 : decode cL_law 365 = .ok (.invokestatic 70, 3) := by decide +kernel
theorem dL_law_368 : decode cL_law 368 = .ok (.istore 5, 2) := by decide +kernel
theorem dL_law_370 : decode cL_law 370 = .ok (.aload_n 2, 1) := by decide +kernel
theorem dL_law_371 : decode cL_law 371 = .ok (.aload_n 0, 1) := by decide +kernel
theorem dL_law_372 : decode cL_law 372 = .ok (.iload 4, 2) := by decide +kernel
theorem dL_law_374 : decode cL_law 374 = .ok (.iconst 1, 1) := by decide +kernel
theorem dL_law_375 : decode cL_law 375 = .ok (.iadd, 1) := by decide +kernel
theorem dL_law_376 : decode cL_law 376 = .ok (.iaload, 1) := by decide +kernel
theorem dL_law_377 : decode cL_law 377 = .ok (.invokevirtual 72, 3) := by decide +kernel
theorem dL_law_380 : decode cL_law 380 = .ok (.istore 6, 2) := by decide +kernel
theorem dL_law_382 : decode cL_law 382 = .ok (.aload_n 2, 1) := by decide +kernel
theorem dL_law_383 : decode cL_law 383 = .ok (.invokevirtual 50, 3) := by decide +kernel
theorem dL_law_386 : decode cL_law 386 = .ok (.iload 5, 2) := by decide +kernel
theorem dL_law_388 : decode cL_law 388 = .ok (.if_icmp .eq 5, 3) := by decide +kernel
theorem dL_law_391 : decode cL_law 391 = .ok (.iconst 0, 1) := by decide +kernel
theorem dL_law_392 : decode cL_law 392 = .ok (.ireturn, 1) := by decide +kernel
theorem dL_law_393 : decode cL_law 393 = .ok (.iload 5, 2) := by decide +kernel
theorem dL_law_395 : decode cL_law 395 = .ok (.ifCond .ne 15, 3) := by decide +kernel
theorem dL_law_398 : decode cL_law 398 = .ok (.aload_n 3, 1) := by decide +kernel
theorem dL_law_399 : decode cL_law 399 = .ok (.iconst 0, 1) := by decide +kernel
theorem dL_law_400 : decode cL_law 400 = .ok (.laload, 1) := by decide +kernel
theorem dL_law_401 : decode cL_law 401 = .ok (.iload 6, 2) := by decide +kernel
theorem dL_law_403 : decode cL_law 403 = .ok (.i2l, 1) := by decide +kernel
theorem dL_law_404 : decode cL_law 404 = .ok (.lcmp, 1) := by decide +kernel
theorem dL_law_405 : decode cL_law 405 = .ok (.ifCond .eq 5, 3) := by decide +kernel
theorem dL_law_408 : decode cL_law 408 = .ok (.iconst 0, 1) := by decide +kernel
theorem dL_law_409 : decode cL_law 409 = .ok (.ireturn, 1) := by decide +kernel
theorem dL_law_410 : decode cL_law 410 = .ok (.goto 166, 3) := by decide +kernel
theorem dL_law_413 : decode cL_law 413 = .ok (.aload_n 1, 1) := by decide +kernel
theorem dL_law_414 : decode cL_law 414 = .ok (.aload_n 0, 1) := by decide +kernel
theorem dL_law_415 : decode cL_law 415 = .ok (.iload 4, 2) := by decide +kernel
theorem dL_law_417 : decode cL_law 417 = .ok (.iconst 1, 1) := by decide +kernel
theorem dL_law_418 : decode cL_law 418 = .ok (.iadd, 1) := by decide +kernel
theorem dL_law_419 : decode cL_law 419 = .ok (.iaload, 1) := by decide +kernel
theorem dL_law_420 : decode cL_law 420 = .ok (.aload_n 0, 1) := by decide +kernel
theorem dL_law_421 : decode cL_law 421 = .ok (.iload 4, 2) := by decide +kernel
theorem dL_law_423 : decode cL_law 423 = .ok (.iconst 2, 1) := by decide +kernel
theorem dL_law_424 : decode cL_law 424 = .ok (.iadd, 1) := by decide +kernel
theorem dL_law_425 : decode cL_law 425 = .ok (.iaload, 1) := by decide +kernel
theorem dL_law_426 : decode cL_law 426 = .ok (.aload_n 3, 1) := by decide +kernel
theorem dL_law_427 : decode cL_law 427 = .ok (.invokestatic 73, 3) := by decide +kernel
theorem dL_law_430 : decode cL_law 430 = .ok (.istore 5, 2) := by decide +kernel
theorem dL_law_432 : decode cL_law 432 = .ok (.aload_n 2, 1) := by decide +kernel
theorem dL_law_433 : decode cL_law 433 = .ok (.aload_n 0, 1) := by decide +kernel
theorem dL_law_434 : decode cL_law 434 = .ok (.iload 4, 2) := by decide +kernel
theorem dL_law_436 : decode cL_law 436 = .ok (.iconst 1, 1) := by decide +kernel
theorem dL_law_437 : decode cL_law 437 = .ok (.iadd, 1) := by decide +kernel
theorem dL_law_438 : decode cL_law 438 = .ok (.iaload, 1) := by decide +kernel
theorem dL_law_439 : decode cL_law 439 = .ok (.aload_n 0, 1) := by decide +kernel
theorem dL_law_440 : decode cL_law 440 = .ok (.iload 4, 2) := by decide +kernel
theorem dL_law_442 : decode cL_law 442 = .ok (.iconst 2, 1) := by decide +kernel
theorem dL_law_443 : decode cL_law 443 = .ok (.iadd, 1) := by decide +kernel
theorem dL_law_444 : decode cL_law 444 = .ok (.iaload, 1) := by decide +kernel
theorem dL_law_445 : decode cL_law 445 = .ok (.invokevirtual 76, 3) := by decide +kernel
theorem dL_law_448 : decode cL_law 448 = .ok (.istore 6, 2) := by decide +kernel
theorem dL_law_450 : decode cL_law 450 = .ok (.aload_n 2, 1) := by decide +kernel
theorem dL_law_451 : decode cL_law 451 = .ok (.invokevirtual 50, 3) := by decide +kernel
theorem dL_law_454 : decode cL_law 454 = .ok (.iload 5, 2) := by decide +kernel
theorem dL_law_456 : decode cL_law 456 = .ok (.if_icmp .eq 5, 3) := by decide +kernel
theorem dL_law_459 : decode cL_law 459 = .ok (.iconst 0, 1) := by decide +kernel
theorem dL_law_460 : decode cL_law 460 = .ok (.ireturn, 1) := by decide +kernel
theorem dL_law_461 : decode cL_law 461 = .ok (.iload 5, 2) := by decide +kernel
theorem dL_law_463 : decode cL_law 463 = .ok (.ifCond .ne 15, 3) := by decide +kernel
theorem dL_law_466 : decode cL_law 466 = .ok (.aload_n 3, 1) := by decide +kernel
theorem dL_law_467 : decode cL_law 467 = .ok (.iconst 0, 1) := by decide +kernel
theorem dL_law_468 : decode cL_law 468 = .ok (.laload, 1) := by decide +kernel
theorem dL_law_469 : decode cL_law 469 = .ok (.iload 6, 2) := by decide +kernel
theorem dL_law_471 : decode cL_law 471 = .ok (.i2l, 1) := by decide +kernel
theorem dL_law_472 : decode cL_law 472 = .ok (.lcmp, 1) := by decide +kernel
theorem dL_law_473 : decode cL_law 473 = .ok (.ifCond .eq 5, 3) := by decide +kernel
theorem dL_law_476 : decode cL_law 476 = .ok (.iconst 0, 1) := by decide +kernel
theorem dL_law_477 : decode cL_law 477 = .ok (.ireturn, 1) := by decide +kernel
theorem dL_law_478 : decode cL_law 478 = .ok (.goto 98, 3) := by decide +kernel
theorem dL_law_481 : decode cL_law 481 = .ok (.aload_n 1, 1) := by decide +kernel
theorem dL_law_482 : decode cL_law 482 = .ok (.invokevirtual 77, 3) := by decide +kernel
theorem dL_law_485 : decode cL_law 485 = .ok (.aload_n 2, 1) := by decide +kernel
theorem dL_law_486 : decode cL_law 486 = .ok (.invokevirtual 80, 3) := by decide +kernel
theorem dL_law_489 : decode cL_law 489 = .ok (.if_icmp .eq 87, 3) := by decide +kernel
theorem dL_law_492 : decode cL_law 492 = .ok (.iconst 0, 1) := by decide +kernel
theorem dL_law_493 : decode cL_law 493 = .ok (.ireturn, 1) := by decide +kernel
theorem dL_law_494 : decode cL_law 494 = .ok (.aload_n 1, 1) := by decide +kernel
theorem dL_law_495 : decode cL_law 495 = .ok (.invokevirtual 81, 3) := by decide +kernel
theorem dL_law_498 : decode cL_law 498 = .ok (.aload_n 2, 1) := by decide +kernel
theorem dL_law_499 : decode cL_law 499 = .ok (.invokevirtual 85, 3) := by decide +kernel
theorem dL_law_502 : decode cL_law 502 = .ok (.if_icmp .eq 74, 3) := by decide +kernel
theorem dL_law_505 : decode cL_law 505 = .ok (.iconst 0, 1) := by decide +kernel
theorem dL_law_506 : decode cL_law 506 = .ok (.ireturn, 1) := by decide +kernel
theorem dL_law_507 : decode cL_law 507 = .ok (.aload_n 1, 1) := by decide +kernel
theorem dL_law_508 : decode cL_law 508 = .ok (.invokevirtual 86, 3) := by decide +kernel
theorem dL_law_511 : decode cL_law 511 = .ok (.aload_n 2, 1) := by decide +kernel
theorem dL_law_512 : decode cL_law 512 = .ok (.invokevirtual 89, 3) := by decide +kernel
theorem dL_law_515 : decode cL_law 515 = .ok (.if_icmp .eq 61, 3) := by decide +kernel
theorem dL_law_518 : decode cL_law 518 = .ok (.iconst 0, 1) := by decide +kernel
theorem dL_law_519 : decode cL_law 519 = .ok (.ireturn, 1) := by decide +kernel
theorem dL_law_520 : decode cL_law 520 = .ok (.aload_n 1, 1) := by decide +kernel
theorem dL_law_521 : decode cL_law 521 = .ok (.aload_n 0, 1) := by decide +kernel
theorem dL_law_522 : decode cL_law 522 = .ok (.iload 4, 2) := by decide +kernel
theorem dL_law_524 : decode cL_law 524 = .ok (.iconst 1, 1) := by decide +kernel
theorem dL_law_525 : decode cL_law 525 = .ok (.iadd, 1) := by decide +kernel
theorem dL_law_526 : decode cL_law 526 = .ok (.iaload, 1) := by decide +kernel
theorem dL_law_527 : decode cL_law 527 = .ok (.aload_n 3, 1) := by decide +kernel
theorem dL_law_528 : decode cL_law 528 = .ok (.invokestatic 90, 3) := by decide +kernel
theorem dL_law_531 : decode cL_law 531 = .ok (.istore 5, 2) := by decide +kernel
theorem dL_law_533 : decode cL_law 533 = .ok (.aload_n 2, 1) := by decide +kernel
theorem dL_law_534 : decode cL_law 534 = .ok (.aload_n 0, 1) := by decide +kernel
theorem dL_law_535 : decode cL_law 535 = .ok (.iload 4, 2) := by decide +kernel
theorem dL_law_537 : decode cL_law 537 = .ok (.iconst 1, 1) := by decide +kernel
theorem dL_law_538 : decode cL_law 538 = .ok (.iadd, 1) := by decide +kernel
theorem dL_law_539 : decode cL_law 539 = .ok (.iaload, 1) := by decide +kernel
theorem dL_law_540 : decode cL_law 540 = .ok (.invokevirtual 92, 3) := by decide +kernel
theorem dL_law_543 : decode cL_law 543 = .ok (.istore 6, 2) := by decide +kernel
theorem dL_law_545 : decode cL_law 545 = .ok (.aload_n 2, 1) := by decide +kernel
theorem dL_law_546 : decode cL_law 546 = .ok (.invokevirtual 50, 3) := by decide +kernel
theorem dL_law_549 : decode cL_law 549 = .ok (.iload 5, 2) := by decide +kernel
theorem dL_law_551 : decode cL_law 551 = .ok (.if_icmp .eq 5, 3) := by decide +kernel
theorem dL_law_554 : decode cL_law 554 = .ok (.iconst 0, 1) := by decide +kernel
theorem dL_law_555 : decode cL_law 555 = .ok (.ireturn, 1) := by decide +kernel
theorem dL_law_556 : decode cL_law 556 = .ok (.iload 5, 2) := by decide +kernel
theorem dL_law_558 : decode cL_law 558 = .ok (.ifCond .ne 15, 3) := by decide +kernel
theorem dL_law_561 : decode cL_law 561 = .ok (.aload_n 3, 1) := by decide +kernel
theorem dL_law_562 : decode cL_law 562 = .ok (.iconst 0, 1) := by decide +kernel
theorem dL_law_563 : decode cL_law 563 = .ok (.laload, 1) := by decide +kernel
theorem dL_law_564 : decode cL_law 564 = .ok (.iload 6, 2) := by decide +kernel
theorem dL_law_566 : decode cL_law 566 = .ok (.i2l, 1) := by decide +kernel
theorem dL_law_567 : decode cL_law 567 = .ok (.lcmp, 1) := by decide +kernel
theorem dL_law_568 : decode cL_law 568 = .ok (.ifCond .eq 5, 3) := by decide +kernel
theorem dL_law_571 : decode cL_law 571 = .ok (.iconst 0, 1) := by decide +kernel
theorem dL_law_572 : decode cL_law 572 = .ok (.ireturn, 1) := by decide +kernel
theorem dL_law_573 : decode cL_law 573 = .ok (.goto 3, 3) := by decide +kernel
theorem dL_law_576 : decode cL_law 576 = .ok (.iinc 4 3, 3) := by decide +kernel
theorem dL_law_579 : decode cL_law 579 = .ok (.goto (-556), 3) := by decide +kernel
theorem dL_law_582 : decode cL_law 582 = .ok (.iconst 1, 1) := by decide +kernel
theorem dL_law_583 : decode cL_law 583 = .ok (.ireturn, 1) := by decide +kernel
end
section
/-! ===== Int32 by its bits: bt x i ===== -/
def bt (x : Int32) (i : Nat) : Bool := x.toBitVec.getLsbD i
theorem b_ext {x y : Int32} (h : ∀ i, i < 32 → bt x i = bt y i) : x = y := Int32.toBitVec_inj.mp (BitVec.eq_of_getLsbD_eq (fun i hi => h i hi))
theorem b_or (x y : Int32) (i : Nat) : bt (x ||| y) i = (bt x i || bt y i) := by unfold bt; rw [Int32.toBitVec_or, BitVec.getLsbD_or]
theorem b_and (x y : Int32) (i : Nat) : bt (x &&& y) i = (bt x i && bt y i) := by unfold bt; rw [Int32.toBitVec_and, BitVec.getLsbD_and]
theorem b_xor (x y : Int32) (i : Nat) : bt (x ^^^ y) i = (bt x i ^^ bt y i) := by unfold bt; rw [Int32.toBitVec_xor, BitVec.getLsbD_xor]
theorem b_big {x : Int32} {i : Nat} (h : 32 ≤ i) : bt x i = false := BitVec.getLsbD_of_ge _ _ h
theorem b_255 (i : Nat) : bt 255 i = decide (i < 8) := by
  rcases Nat.lt_or_ge i 32 with h | h
  · exact (by decide +kernel : ∀ i, i < 32 → bt 255 i = decide (i < 8)) i h
  · rw [b_big h, decide_eq_false (by omega)]
theorem b_65535 (i : Nat) : bt 65535 i = decide (i < 16) := by
  rcases Nat.lt_or_ge i 32 with h | h
  · exact (by decide +kernel : ∀ i, i < 32 → bt 65535 i = decide (i < 16)) i h
  · rw [b_big h, decide_eq_false (by omega)]
theorem b_m1 : ∀ i, i < 32 → bt (-1) i = true := by decide +kernel
theorem b_0 (i : Nat) : bt 0 i = false := BitVec.getLsbD_zero
theorem s_l : ∀ n, n < 32 → ((nI n &&& 31).toBitVec.smod 32).toNat = n := by decide +kernel
theorem s_u : ∀ n, n < 32 → (((nI n).toUInt32 &&& Int32.toUInt32 31).toBitVec % 32).toNat = n := by decide +kernel
theorem b_shl (n : Nat) (hn : n < 32) (x : Int32) {i : Nat} (hi : i < 32) : bt (x <<< (nI n &&& 31)) i = (decide (n ≤ i) && bt x (i - n)) := by
  unfold bt
  rw [Int32.toBitVec_shiftLeft]
  show (x.toBitVec <<< ((nI n &&& 31).toBitVec.smod 32).toNat).getLsbD i = _
  rw [s_l n hn, BitVec.getLsbD_shiftLeft]
  rcases Nat.lt_or_ge i n with h | h
  · simp [h, Nat.not_le.mpr h]
  · simp [hi, h, Nat.not_lt.mpr h]
theorem b_ushr (n : Nat) (hn : n < 32) (x : Int32) (i : Nat) : bt ((x.toUInt32 >>> ((nI n).toUInt32 &&& Int32.toUInt32 31)).toInt32) i = bt x (n + i) := by
  show (x.toUInt32 >>> ((nI n).toUInt32 &&& Int32.toUInt32 31)).toBitVec.getLsbD i = x.toUInt32.toBitVec.getLsbD (n + i)
  rw [UInt32.toBitVec_shiftRight]
  show (x.toUInt32.toBitVec >>> (((nI n).toUInt32 &&& Int32.toUInt32 31).toBitVec % 32).toNat).getLsbD i = _
  rw [s_u n hn, BitVec.getLsbD_ushiftRight]
theorem b_sshr (n : Nat) (hn : n < 32) (x : Int32) {i : Nat} (hi : i < 32) : bt (x >>> (nI n &&& 31)) i = if n + i < 32 then bt x (n + i) else bt x 31 := by
  unfold bt
  rw [Int32.toBitVec_shiftRight]
  show (x.toBitVec.sshiftRight ((nI n &&& 31).toBitVec.smod 32).toNat).getLsbD i = _
  rw [s_l n hn, BitVec.getLsbD_sshiftRight, BitVec.msb_eq_getLsbD_last]
  simp [hi]
theorem b_shl8 (x : Int32) {i : Nat} (hi : i < 32) : bt (x <<< ((8 : Int32) &&& 31)) i = (decide (8 ≤ i) && bt x (i - 8)) := b_shl 8 (by omega) x hi
theorem b_shl16 (x : Int32) {i : Nat} (hi : i < 32) : bt (x <<< ((16 : Int32) &&& 31)) i = (decide (16 ≤ i) && bt x (i - 16)) := b_shl 16 (by omega) x hi
theorem b_shl24 (x : Int32) {i : Nat} (hi : i < 32) : bt (x <<< ((24 : Int32) &&& 31)) i = (decide (24 ≤ i) && bt x (i - 24)) := b_shl 24 (by omega) x hi
theorem b_sshr8 (x : Int32) {i : Nat} (hi : i < 32) : bt (x >>> ((8 : Int32) &&& 31)) i = if 8 + i < 32 then bt x (8 + i) else bt x 31 := b_sshr 8 (by omega) x hi
/-! ===== nI under and, xor, >>>, one bit, 65535 ===== -/
theorem nx_and (a b : Nat) : nI a &&& nI b = nI (a &&& b) := by
  apply Int32.toBitVec_inj.1
  show BitVec.ofNat 32 a &&& BitVec.ofNat 32 b = BitVec.ofNat 32 (a &&& b)
  apply BitVec.eq_of_getLsbD_eq
  intro i hi
  simp [hi]
theorem nx_xor (a b : Nat) : nI a ^^^ nI b = nI (a ^^^ b) := by
  apply Int32.toBitVec_inj.1
  show BitVec.ofNat 32 a ^^^ BitVec.ofNat 32 b = BitVec.ofNat 32 (a ^^^ b)
  apply BitVec.eq_of_getLsbD_eq
  intro i hi
  simp [hi]
theorem nx_cnt : ∀ j : Fin 32, (UInt32.ofNat j.val &&& Int32.toUInt32 31).toNat % 32 = j.val := by decide +kernel
theorem nx_ush {k j : Nat} (hk : k < 65536) (hj : j < 32) : ((nI k).toUInt32 >>> ((nI j).toUInt32 &&& Int32.toUInt32 31)).toInt32 = nI (k >>> j) := by
  have hs : k >>> j ≤ k := by
    rw [Nat.shiftRight_eq_div_pow]
    exact Nat.div_le_self _ _
  have e2 : UInt32.ofNat k >>> (UInt32.ofNat j &&& Int32.toUInt32 31) = UInt32.ofNat (k >>> j) := by
    apply UInt32.toNat_inj.1
    have h1 : (UInt32.ofNat k).toNat = k := Nat.mod_eq_of_lt (by omega)
    have h2 : (UInt32.ofNat (k >>> j)).toNat = k >>> j := Nat.mod_eq_of_lt (by omega)
    rw [UInt32.toNat_shiftRight, nx_cnt ⟨j, hj⟩, h1, h2]
  show (UInt32.ofNat k >>> (UInt32.ofNat j &&& Int32.toUInt32 31)).toInt32 = _
  rw [e2]
  rfl
theorem nx_bit {k j : Nat} (hk : k < 65536) (hj : j < 16) : (((nI k).toUInt32 >>> ((nI j).toUInt32 &&& Int32.toUInt32 31)).toInt32 &&& 1) = 0 ↔ k.testBit j = false := by
  rw [nx_ush hk (by omega)]
  show nI (k >>> j) &&& nI 1 = 0 ↔ _
  rw [nx_and, Nat.and_one_is_mod, ← nI_0, nI_eq (by omega) (by omega), Nat.testBit_eq_decide_div_mod_eq, Nat.shiftRight_eq_div_pow, decide_eq_false_iff_not]
  generalize k / 2 ^ j = z
  omega
theorem nx_mod (k : Nat) : nI k &&& 65535 = nI (k % 65536) := by
  show nI k &&& nI 65535 = _
  rw [nx_and, show (65535 : Nat) = 2 ^ 16 - 1 from rfl, Nat.and_two_pow_sub_one_eq_mod]
theorem nx_m16 {k : Nat} (h : k < 65536) : nI k &&& 65535 = nI k := by rw [nx_mod, Nat.mod_eq_of_lt h]
theorem nx_mask (x : Int32) : ∃ k, k < 65536 ∧ x &&& 65535 = nI k := by
  have e : x = nI x.toBitVec.toNat := by
    apply Int32.toBitVec_inj.1
    show x.toBitVec = BitVec.ofNat 32 x.toBitVec.toNat
    simp
  refine ⟨x.toBitVec.toNat % 65536, Nat.mod_lt _ (by omega), ?_⟩
  rw [← nx_mod, ← e]
/-! ===== lN n to 2^64: shifts, and, or, masks, one bit ===== -/
theorem wb_tb (n : Nat) : (lN n).toBitVec = BitVec.ofNat 64 n := rfl
theorem wb_inj {a b : Int64} (h : a.toBitVec = b.toBitVec) : a = b := Int64.toBitVec_inj.mp h
theorem wb_tn {n : Nat} (h : n < 2 ^ 64) : (lN n).toBitVec.toNat = n := by rw [wb_tb, BitVec.toNat_ofNat, Nat.mod_eq_of_lt h]
theorem wb_of (x : Int64) : ∃ n, n < 2 ^ 64 ∧ x = lN n := ⟨x.toBitVec.toNat, x.toBitVec.isLt, wb_inj (by rw [wb_tb]; simp)⟩
theorem wb_of32 (x : Int32) : ∃ n, n < 2 ^ 32 ∧ x = nI n := ⟨x.toBitVec.toNat, x.toBitVec.isLt, Int32.toBitVec_inj.mp (by show _ = BitVec.ofNat 32 _; simp)⟩
theorem wb_c : ∀ k, k < 64 → ((nI k).toInt64 &&& 63) = lN k := by decide +kernel
theorem wb_cu : ∀ k, k < 64 → ((nI k).toInt64.toUInt64 &&& Int64.toUInt64 63) = UInt64.ofNat k := by decide +kernel
theorem wb_sm : ∀ k, k < 64 → (BitVec.ofNat 64 k).smod 64 = BitVec.ofNat 64 k := by decide +kernel
theorem wb_pw {a b : Nat} (h : a ≤ b) : 2 ^ b = 2 ^ a * 2 ^ (b - a) := by rw [← Nat.pow_add]; congr 1; omega
theorem wb_lt2 {a b : Nat} (h : a < b) : 2 ^ a < 2 ^ b := Nat.pow_lt_pow_right (by decide) h
theorem wb_mod (n : Nat) : lN n = lN (n % 2 ^ 64) := wb_inj (by rw [wb_tb, wb_tb]; apply BitVec.eq_of_toNat_eq; rw [BitVec.toNat_ofNat, BitVec.toNat_ofNat, Nat.mod_mod])
theorem wb_shr {n k : Nat} (hn : n < 2 ^ 64) (hk : k < 64) : ((lN n).toUInt64 >>> ((nI k).toInt64.toUInt64 &&& Int64.toUInt64 63)).toInt64 = lN (n / 2 ^ k) := by
  rw [wb_cu k hk]
  apply wb_inj
  apply BitVec.eq_of_toNat_eq
  show ((lN n).toUInt64 >>> UInt64.ofNat k).toNat = (BitVec.ofNat 64 _).toNat
  have h1 : (UInt64.ofNat k).toNat = k := by
    show (BitVec.ofNat 64 k).toNat = k
    rw [BitVec.toNat_ofNat, Nat.mod_eq_of_lt (by omega)]
  have h2 : (lN n).toUInt64.toNat = n := wb_tn hn
  rw [UInt64.toNat_shiftRight, h1, h2, Nat.mod_eq_of_lt hk, Nat.shiftRight_eq_div_pow, BitVec.toNat_ofNat, Nat.mod_eq_of_lt (Nat.lt_of_le_of_lt (Nat.div_le_self _ _) hn)]
theorem wb_shl (n : Nat) {k : Nat} (hk : k < 64) : lN n <<< ((nI k).toInt64 &&& 63) = lN (n * 2 ^ k) := by
  rw [wb_c k hk]
  apply wb_inj
  rw [Int64.toBitVec_shiftLeft, wb_tb, wb_tb, wb_tb, wb_sm k hk]
  apply BitVec.eq_of_toNat_eq
  rw [BitVec.shiftLeft_eq', BitVec.toNat_shiftLeft, BitVec.toNat_ofNat, BitVec.toNat_ofNat, BitVec.toNat_ofNat, Nat.mod_eq_of_lt (show k < 2 ^ 64 by omega), Nat.shiftLeft_eq, Nat.mul_mod, Nat.mod_mod, ← Nat.mul_mod]
theorem wb_and {a b : Nat} (ha : a < 2 ^ 64) (hb : b < 2 ^ 64) : lN a &&& lN b = lN (a &&& b) := by
  apply wb_inj
  rw [Int64.toBitVec_and, wb_tb, wb_tb, wb_tb]
  apply BitVec.eq_of_toNat_eq
  rw [BitVec.toNat_and, BitVec.toNat_ofNat, BitVec.toNat_ofNat, BitVec.toNat_ofNat, Nat.mod_eq_of_lt ha, Nat.mod_eq_of_lt hb, Nat.mod_eq_of_lt (Nat.and_lt_two_pow _ hb)]
theorem wb_or {a b : Nat} (ha : a < 2 ^ 64) (hb : b < 2 ^ 64) : lN a ||| lN b = lN (a ||| b) := by
  apply wb_inj
  rw [Int64.toBitVec_or, wb_tb, wb_tb, wb_tb]
  apply BitVec.eq_of_toNat_eq
  rw [BitVec.toNat_or, BitVec.toNat_ofNat, BitVec.toNat_ofNat, BitVec.toNat_ofNat, Nat.mod_eq_of_lt ha, Nat.mod_eq_of_lt hb, Nat.mod_eq_of_lt (Nat.or_lt_two_pow ha hb)]
theorem wb_mask {n k : Nat} (hn : n < 2 ^ 64) (hk : k < 64) : lN n &&& lN (2 ^ k - 1) = lN (n % 2 ^ k) := by
  rw [wb_and hn (by have := wb_lt2 hk; omega), Nat.and_two_pow_sub_one_eq_mod]
theorem wb_a1 {n : Nat} (hn : n < 2 ^ 64) : lN n &&& 1 = lN (n % 2) := wb_mask (k := 1) hn (by decide)
theorem wb_bit {n k : Nat} (hn : n < 2 ^ 64) (hk : k < 64) : ((lN n).toUInt64 >>> ((nI k).toInt64.toUInt64 &&& Int64.toUInt64 63)).toInt64 &&& 1 = lN (n / 2 ^ k % 2) := by
  rw [wb_shr hn hk, wb_a1 (Nat.lt_of_le_of_lt (Nat.div_le_self _ _) hn)]
theorem wb_xor {q k : Nat} (hk : k < 63) (h : 2 ^ k ≤ q) (h2 : q < 2 ^ (k + 1)) : lN q ^^^ lN (2 ^ k) = lN (q - 2 ^ k) := by
  obtain ⟨r, rfl⟩ : ∃ r, q = 2 ^ k + r := ⟨q - 2 ^ k, by omega⟩
  have hr : r < 2 ^ k := by rw [Nat.pow_succ] at h2; omega
  have hx : (2 ^ k + r) ^^^ 2 ^ k = r := by
    apply Nat.eq_of_testBit_eq
    intro i
    rw [Nat.testBit_xor, Nat.testBit_two_pow]
    rcases Nat.lt_trichotomy i k with h | h | h
    · rw [Nat.testBit_two_pow_add_gt h]
      simp [show ¬ k = i by omega]
    · subst h
      rw [Nat.testBit_two_pow_add_eq]
      simp
    · have a1 : 2 ^ (k + 1) ≤ 2 ^ i := Nat.pow_le_pow_right (by decide) h
      rw [Nat.testBit_lt_two_pow (show 2 ^ k + r < 2 ^ i by omega), Nat.testBit_lt_two_pow (show r < 2 ^ i by omega)]
      simp [show ¬ k = i by omega]
  have b1 := wb_lt2 (show k + 1 < 64 by omega)
  have b2 := wb_lt2 (show k < 64 by omega)
  apply wb_inj
  rw [Int64.toBitVec_xor, wb_tb, wb_tb, wb_tb]
  apply BitVec.eq_of_toNat_eq
  rw [BitVec.toNat_xor, BitVec.toNat_ofNat, BitVec.toNat_ofNat, BitVec.toNat_ofNat, Nat.mod_eq_of_lt (by omega : 2 ^ k + r < 2 ^ 64), Nat.mod_eq_of_lt b2, hx, Nat.add_sub_cancel_left, Nat.mod_eq_of_lt (by omega)]
end
section
/-! popcount: Integer.bitCount's arithmetic, byte by byte, and what it counts -/
def pb_n (a b c d : Nat) : Nat := 256 * (256 * (256 * d + c) + b) + a
def pb_c (v : Nat) : Nat := v % 2 + v / 2 % 2 + v / 4 % 2 + v / 8 % 2 + v / 16 % 2 + v / 32 % 2 + v / 64 % 2 + v / 128 % 2
theorem pb_and {a m : Nat} (b M : Nat) (ha : a < 256) (hm : m < 256) : (256 * b + a) &&& (256 * M + m) = 256 * (b &&& M) + (a &&& m) := by
  have hx : (a &&& m) < 2 ^ 8 := Nat.lt_of_le_of_lt Nat.and_le_left ha
  have ha' : a < 2 ^ 8 := ha
  have hm' : m < 2 ^ 8 := hm
  apply Nat.eq_of_testBit_eq
  intro i
  have e1 := Nat.testBit_two_pow_mul_add b ha' i
  have e2 := Nat.testBit_two_pow_mul_add M hm' i
  have e3 := Nat.testBit_two_pow_mul_add (b &&& M) hx i
  rw [show (2 : Nat) ^ 8 = 256 from rfl] at e1 e2 e3
  rw [Nat.testBit_and, e1, e2, e3]
  split <;> simp [Nat.testBit_and]
theorem pb_and4 {a b c d m : Nat} (ha : a < 256) (hb : b < 256) (hc : c < 256) (hm : m < 256) : pb_n a b c d &&& pb_n m m m m = pb_n (a &&& m) (b &&& m) (c &&& m) (d &&& m) := by
  unfold pb_n
  rw [pb_and _ _ ha hm, pb_and _ _ hb hm, pb_and _ _ hc hm]
theorem pb_s1 : ∀ v, v < 256 → ∀ t, t < 2 → (v / 2 + 128 * t) &&& 85 = (v / 2) &&& 85 ∧ (v / 2) &&& 85 ≤ v := by decide +kernel
theorem pb_s2 : ∀ v, v < 256 → ∀ t, t < 4 → (v / 4 + 64 * t) &&& 51 = (v / 4) &&& 51 := by decide +kernel
theorem pb_s2' : ∀ v, v < 256 → (((v - ((v / 2) &&& 85)) &&& 51) + (((v - ((v / 2) &&& 85)) / 4) &&& 51)) % 16 ≤ 4 ∧ (((v - ((v / 2) &&& 85)) &&& 51) + (((v - ((v / 2) &&& 85)) / 4) &&& 51)) / 16 ≤ 4 := by decide +kernel
theorem pb_s3 : ∀ v, v < 256 → ∀ t, t < 5 → ((((v - ((v / 2) &&& 85)) &&& 51) + (((v - ((v / 2) &&& 85)) / 4) &&& 51)) + ((((v - ((v / 2) &&& 85)) &&& 51) + (((v - ((v / 2) &&& 85)) / 4) &&& 51)) / 16 + 16 * t)) &&& 15 = pb_c v := by decide +kernel
theorem pb_c8 (v : Nat) : pb_c v ≤ 8 := by unfold pb_c; omega
def pb_f1 (n : Nat) : Nat := n - ((n / 2 ^ 1) &&& 1431655765)
def pb_f2 (n : Nat) : Nat := (n &&& 858993459) + ((n / 2 ^ 2) &&& 858993459)
def pb_f3 (n : Nat) : Nat := (n + n / 2 ^ 4) &&& 252645135
theorem pb_1 {a b c d : Nat} (ha : a < 256) (hb : b < 256) (hc : c < 256) (hd : d < 256) : ((pb_n a b c d / 2 ^ 1) &&& 1431655765) ≤ pb_n a b c d ∧ pb_f1 (pb_n a b c d) = pb_n (a - ((a / 2) &&& 85)) (b - ((b / 2) &&& 85)) (c - ((c / 2) &&& 85)) (d - ((d / 2) &&& 85)) := by
  have e : pb_n a b c d / 2 ^ 1 = pb_n (a / 2 + 128 * (b % 2)) (b / 2 + 128 * (c % 2)) (c / 2 + 128 * (d % 2)) (d / 2 + 128 * 0) := by unfold pb_n; omega
  have k : (1431655765 : Nat) = pb_n 85 85 85 85 := rfl
  have f : (pb_n a b c d / 2 ^ 1) &&& 1431655765 = pb_n ((a / 2) &&& 85) ((b / 2) &&& 85) ((c / 2) &&& 85) ((d / 2) &&& 85) := by
    rw [e, k, pb_and4 (by omega) (by omega) (by omega) (by omega), (pb_s1 a ha (b % 2) (by omega)).1, (pb_s1 b hb (c % 2) (by omega)).1, (pb_s1 c hc (d % 2) (by omega)).1, (pb_s1 d hd 0 (by omega)).1]
  have h1 := (pb_s1 a ha 0 (by omega)).2
  have h2 := (pb_s1 b hb 0 (by omega)).2
  have h3 := (pb_s1 c hc 0 (by omega)).2
  have h4 := (pb_s1 d hd 0 (by omega)).2
  unfold pb_f1
  rw [f]
  unfold pb_n
  generalize (a / 2) &&& 85 = a1 at *
  generalize (b / 2) &&& 85 = b1 at *
  generalize (c / 2) &&& 85 = c1 at *
  generalize (d / 2) &&& 85 = d1 at *
  constructor <;> omega
theorem pb_2 {a b c d : Nat} (ha : a < 256) (hb : b < 256) (hc : c < 256) (hd : d < 256) : pb_f2 (pb_n a b c d) = pb_n ((a &&& 51) + ((a / 4) &&& 51)) ((b &&& 51) + ((b / 4) &&& 51)) ((c &&& 51) + ((c / 4) &&& 51)) ((d &&& 51) + ((d / 4) &&& 51)) := by
  have e : pb_n a b c d / 2 ^ 2 = pb_n (a / 4 + 64 * (b % 4)) (b / 4 + 64 * (c % 4)) (c / 4 + 64 * (d % 4)) (d / 4 + 64 * 0) := by unfold pb_n; omega
  have k : (858993459 : Nat) = pb_n 51 51 51 51 := rfl
  unfold pb_f2
  rw [e, k, pb_and4 ha hb hc (by omega), pb_and4 (by omega) (by omega) (by omega) (by omega), pb_s2 a ha (b % 4) (by omega), pb_s2 b hb (c % 4) (by omega), pb_s2 c hc (d % 4) (by omega), pb_s2 d hd 0 (by omega)]
  unfold pb_n
  omega
theorem pb_3 {a b c d : Nat} (ha : a % 16 ≤ 4 ∧ a / 16 ≤ 4) (hb : b % 16 ≤ 4 ∧ b / 16 ≤ 4) (hc : c % 16 ≤ 4 ∧ c / 16 ≤ 4) (hd : d % 16 ≤ 4 ∧ d / 16 ≤ 4) : pb_f3 (pb_n a b c d) = pb_n ((a + (a / 16 + 16 * (b % 16))) &&& 15) ((b + (b / 16 + 16 * (c % 16))) &&& 15) ((c + (c / 16 + 16 * (d % 16))) &&& 15) ((d + (d / 16 + 16 * 0)) &&& 15) := by
  have e : pb_n a b c d + pb_n a b c d / 2 ^ 4 = pb_n (a + (a / 16 + 16 * (b % 16))) (b + (b / 16 + 16 * (c % 16))) (c + (c / 16 + 16 * (d % 16))) (d + (d / 16 + 16 * 0)) := by unfold pb_n; omega
  have k : (252645135 : Nat) = pb_n 15 15 15 15 := rfl
  unfold pb_f3
  rw [e, k, pb_and4 (by omega) (by omega) (by omega) (by omega)]
theorem pb_4 {a b c d : Nat} (ha : a < 256) (hb : b < 256) (hc : c < 256) (hd : d < 256) : pb_f3 (pb_f2 (pb_f1 (pb_n a b c d))) = pb_n (pb_c a) (pb_c b) (pb_c c) (pb_c d) := by
  rw [(pb_1 ha hb hc hd).2, pb_2 (by omega) (by omega) (by omega) (by omega), pb_3 (pb_s2' a ha) (pb_s2' b hb) (pb_s2' c hc) (pb_s2' d hd)]
  have h1 := (pb_s2' b hb).1
  have h2 := (pb_s2' c hc).1
  have h3 := (pb_s2' d hd).1
  rw [pb_s3 a ha _ (by omega), pb_s3 b hb _ (by omega), pb_s3 c hc _ (by omega), pb_s3 d hd 0 (by omega)]
/-- how many of the 32 bits of n are set -/
def pb_cnt (n : Nat) : Nat := pb_c (n % 256) + pb_c (n / 256 % 256) + pb_c (n / 65536 % 256) + pb_c (n / 16777216 % 256)
theorem pb_n_of {n : Nat} (h : n < 4294967296) : n = pb_n (n % 256) (n / 256 % 256) (n / 65536 % 256) (n / 16777216 % 256) := by unfold pb_n; omega
theorem pb_all {n : Nat} (h : n < 4294967296) : (pb_f3 (pb_f2 (pb_f1 n)) + pb_f3 (pb_f2 (pb_f1 n)) / 2 ^ 8 + (pb_f3 (pb_f2 (pb_f1 n)) + pb_f3 (pb_f2 (pb_f1 n)) / 2 ^ 8) / 2 ^ 16) &&& 63 = pb_cnt n := by
  have e : pb_f3 (pb_f2 (pb_f1 n)) = pb_n (pb_c (n % 256)) (pb_c (n / 256 % 256)) (pb_c (n / 65536 % 256)) (pb_c (n / 16777216 % 256)) := by
    have h4 := pb_4 (a := n % 256) (b := n / 256 % 256) (c := n / 65536 % 256) (d := n / 16777216 % 256) (by omega) (by omega) (by omega) (by omega)
    rw [← pb_n_of h] at h4
    exact h4
  rw [e, show (63 : Nat) = 2 ^ 6 - 1 from rfl, Nat.and_two_pow_sub_one_eq_mod]
  unfold pb_cnt pb_n
  have h1 := pb_c8 (n % 256)
  have h2 := pb_c8 (n / 256 % 256)
  have h3 := pb_c8 (n / 65536 % 256)
  have h4 := pb_c8 (n / 16777216 % 256)
  generalize pb_c (n % 256) = p at *
  generalize pb_c (n / 256 % 256) = q at *
  generalize pb_c (n / 65536 % 256) = r at *
  generalize pb_c (n / 16777216 % 256) = u at *
  have k1 : (256 * (256 * (256 * u + r) + q) + p) / 2 ^ 8 = 256 * (256 * u + r) + q := by omega
  rw [k1]
  have k2 : (256 * (256 * (256 * u + r) + q) + p + (256 * (256 * u + r) + q)) / 2 ^ 16 = 256 * u + (r + u) := by omega
  rw [k2]
  omega
theorem pb_lt1 {n : Nat} (h : n < 4294967296) : (n / 2 ^ 1) &&& 1431655765 ≤ n := Nat.le_trans Nat.and_le_left (by omega)
theorem pb_lt2 (n : Nat) : pb_f2 n < 4294967296 := by
  have h1 : n &&& 858993459 ≤ 858993459 := Nat.and_le_right
  have h2 : (n / 2 ^ 2) &&& 858993459 ≤ 858993459 := Nat.and_le_right
  unfold pb_f2
  omega
theorem pb_lt3 (n : Nat) : pb_f3 n ≤ 252645135 := Nat.and_le_right
/-- the shift as the machine has it -/
abbrev pb_u (x s : Int32) : Int32 := (x.toUInt32 >>> (s.toUInt32 &&& Int32.toUInt32 31)).toInt32
theorem pb_ush {n : Nat} (h : n < 4294967296) (k : Nat) (hk : k < 32) : pb_u (nI n) (nI k) = nI (n / 2 ^ k) := pk_ushrN h (nI k) k (s_u k hk)
/-- INTEGER.BITCOUNT, as the machine computes it -/
theorem pb_java {n : Nat} (h : n < 4294967296) {i1 i2 i3 i4 i5 : Int32} (e1 : i1 = nI n - (pb_u (nI n) 1 &&& 1431655765)) (e2 : i2 = (i1 &&& 858993459) + (pb_u i1 2 &&& 858993459)) (e3 : i3 = (i2 + pb_u i2 4) &&& 252645135) (e4 : i4 = i3 + pb_u i3 8) (e5 : i5 = i4 + pb_u i4 16) : i5 &&& 63 = nI (pb_cnt n) := by
  have c1 : i1 = nI (pb_f1 n) := by
    rw [e1, show (1 : Int32) = nI 1 from rfl, pb_ush h 1 (by omega), show (1431655765 : Int32) = nI 1431655765 from rfl, nx_and, pk_sub (pb_lt1 h)]
    rfl
  have h1 : pb_f1 n < 4294967296 := by unfold pb_f1; omega
  have c2 : i2 = nI (pb_f2 (pb_f1 n)) := by
    rw [e2, c1, show (2 : Int32) = nI 2 from rfl, pb_ush h1 2 (by omega), show (858993459 : Int32) = nI 858993459 from rfl, nx_and, nx_and, nI_add]
    rfl
  have h2 := pb_lt2 (pb_f1 n)
  have c3 : i3 = nI (pb_f3 (pb_f2 (pb_f1 n))) := by
    rw [e3, c2, show (4 : Int32) = nI 4 from rfl, pb_ush h2 4 (by omega), show (252645135 : Int32) = nI 252645135 from rfl, nI_add, nx_and]
    rfl
  have h3 := pb_lt3 (pb_f2 (pb_f1 n))
  have c4 : i4 = nI (pb_f3 (pb_f2 (pb_f1 n)) + pb_f3 (pb_f2 (pb_f1 n)) / 2 ^ 8) := by
    rw [e4, c3, show (8 : Int32) = nI 8 from rfl, pb_ush (by omega) 8 (by omega), nI_add]
  rw [e5, c4, show (16 : Int32) = nI 16 from rfl, pb_ush (by omega) 16 (by omega), nI_add, show (63 : Int32) = nI 63 from rfl, nx_and, pb_all h]
/-! how many bits: sums over places -/
def pb_sum (f : Nat → Bool) : Nat → Nat
  | 0 => 0
  | n + 1 => pb_sum f n + (f n).toNat
theorem pb_sum_eq {f g : Nat → Bool} : ∀ {n : Nat}, (∀ i, i < n → f i = g i) → pb_sum f n = pb_sum g n
  | 0, _ => rfl
  | n + 1, h => by
    show pb_sum f n + (f n).toNat = pb_sum g n + (g n).toNat
    rw [pb_sum_eq (fun i hi => h i (Nat.lt_succ_of_lt hi)), h n (Nat.lt_succ_self n)]
theorem pb_sum_0 {f : Nat → Bool} : ∀ {n : Nat}, (∀ i, i < n → f i = false) → pb_sum f n = 0
  | 0, _ => rfl
  | n + 1, h => by
    show pb_sum f n + (f n).toNat = 0
    rw [pb_sum_0 (fun i hi => h i (Nat.lt_succ_of_lt hi)), h n (Nat.lt_succ_self n)]
    rfl
theorem pb_sum_all {f : Nat → Bool} : ∀ {n : Nat}, pb_sum f n = 0 → ∀ i, i < n → f i = false
  | 0, _, i, hi => absurd hi (Nat.not_lt_zero i)
  | n + 1, h, i, hi => by
    have h1 : pb_sum f n + (f n).toNat = 0 := h
    rcases Nat.lt_or_ge i n with q | q
    · exact pb_sum_all (by omega) i q
    · have e : i = n := by omega
      rw [e]
      cases hf : f n with
      | false => rfl
      | true => rw [hf] at h1; simp at h1
theorem pb_sum_or {f g : Nat → Bool} : ∀ {n : Nat}, (∀ i, i < n → (f i && g i) = false) → pb_sum (fun i => f i || g i) n = pb_sum f n + pb_sum g n
  | 0, _ => rfl
  | n + 1, h => by
    show pb_sum (fun i => f i || g i) n + (f n || g n).toNat = pb_sum f n + (f n).toNat + (pb_sum g n + (g n).toNat)
    rw [pb_sum_or (fun i hi => h i (Nat.lt_succ_of_lt hi))]
    have h1 := h n (Nat.lt_succ_self n)
    cases hf : f n <;> cases hg : g n <;> rw [hf, hg] at h1 <;> simp at h1 ⊢ <;> omega
theorem pb_sum_le {f g : Nat → Bool} : ∀ {n : Nat}, (∀ i, i < n → f i = true → g i = true) → pb_sum f n ≤ pb_sum g n
  | 0, _ => Nat.le_refl _
  | n + 1, h => by
    show pb_sum f n + (f n).toNat ≤ pb_sum g n + (g n).toNat
    have h1 := pb_sum_le (f := f) (g := g) (n := n) (fun i hi => h i (Nat.lt_succ_of_lt hi))
    have h2 := h n (Nat.lt_succ_self n)
    cases hf : f n <;> cases hg : g n
    · simp; omega
    · simp; omega
    · rw [hf, hg] at h2; simp at h2
    · simp; omega
theorem pb_sum_n (f : Nat → Bool) : ∀ n : Nat, pb_sum f n ≤ n
  | 0 => Nat.le_refl _
  | n + 1 => by
    show pb_sum f n + (f n).toNat ≤ n + 1
    have h1 := pb_sum_n f n
    have h2 := Bool.toNat_le (f n)
    omega
theorem pb_sum_1 {f : Nat → Bool} : ∀ {n : Nat}, pb_sum f n = 1 → ∃ k, k < n ∧ f k = true ∧ ∀ i, i < n → f i = true → i = k
  | 0, h => absurd h (show ¬ ((0 : Nat) = 1) from by decide)
  | n + 1, h => by
    have h1 : pb_sum f n + (f n).toNat = 1 := h
    cases hf : f n with
    | true =>
      rw [hf] at h1
      have h0 : pb_sum f n = 0 := by simp at h1; omega
      refine ⟨n, Nat.lt_succ_self n, hf, fun i hi hi' => ?_⟩
      rcases Nat.lt_or_ge i n with q | q
      · rw [pb_sum_all h0 i q] at hi'; cases hi'
      · omega
    | false =>
      rw [hf] at h1
      obtain ⟨k, hk, hk1, hk2⟩ := pb_sum_1 (f := f) (n := n) (by simpa using h1)
      refine ⟨k, Nat.lt_succ_of_lt hk, hk1, fun i hi hi' => ?_⟩
      rcases Nat.lt_or_ge i n with q | q
      · exact hk2 i q hi'
      · have e : i = n := by omega
        rw [e, hf] at hi'; cases hi'
theorem pb_sum_k (k : Nat) : ∀ n : Nat, pb_sum (fun i => decide (i = k)) n = if k < n then 1 else 0
  | 0 => rfl
  | n + 1 => by
    show pb_sum (fun i => decide (i = k)) n + (decide (n = k)).toNat = _
    rw [pb_sum_k k n]
    by_cases h : n = k
    · subst h; simp
    · by_cases h2 : k < n
      · simp [h, h2, Nat.lt_succ_of_lt h2]
      · have h3 : ¬ k < n + 1 := by omega
        simp [h, h2, h3]
theorem pb_c_8 (n : Nat) : pb_c (n % 256) = n % 2 + n / 2 % 2 + n / 4 % 2 + n / 8 % 2 + n / 16 % 2 + n / 32 % 2 + n / 64 % 2 + n / 128 % 2 := by
  unfold pb_c
  have e1 : n % 256 % 2 = n % 2 := by omega
  have e2 : n % 256 / 2 % 2 = n / 2 % 2 := by omega
  have e3 : n % 256 / 4 % 2 = n / 4 % 2 := by omega
  have e4 : n % 256 / 8 % 2 = n / 8 % 2 := by omega
  have e5 : n % 256 / 16 % 2 = n / 16 % 2 := by omega
  have e6 : n % 256 / 32 % 2 = n / 32 % 2 := by omega
  have e7 : n % 256 / 64 % 2 = n / 64 % 2 := by omega
  have e8 : n % 256 / 128 % 2 = n / 128 % 2 := by omega
  rw [e1, e2, e3, e4, e5, e6, e7, e8]
/-- how many bits an int has -/
def pb_sz (x : Int32) : Nat := pb_cnt x.toBitVec.toNat
theorem pb_bit (x : Int32) (i : Nat) : (bt x i).toNat = x.toBitVec.toNat / 2 ^ i % 2 := by
  show (x.toBitVec.toNat.testBit i).toNat = _
  exact Nat.toNat_testBit _ _
theorem pb_sz_sum (x : Int32) : pb_sz x = pb_sum (bt x) 32 := by
  unfold pb_sz pb_cnt
  rw [pb_c_8, pb_c_8, pb_c_8, pb_c_8]
  simp only [pb_sum, pb_bit, Nat.div_div_eq_div_mul]
  generalize x.toBitVec.toNat = n
  simp only [Nat.reducePow, Nat.reduceMul, Nat.div_one]
  omega
theorem pb_sz_0 : pb_sz 0 = 0 := rfl
theorem pb_sz_n (x : Int32) : pb_sz x ≤ 32 := by rw [pb_sz_sum]; exact pb_sum_n _ _
theorem pb_nI_sz {x : Int32} {i1 i2 i3 i4 i5 : Int32} (e1 : i1 = x - (pb_u x 1 &&& 1431655765)) (e2 : i2 = (i1 &&& 858993459) + (pb_u i1 2 &&& 858993459)) (e3 : i3 = (i2 + pb_u i2 4) &&& 252645135) (e4 : i4 = i3 + pb_u i3 8) (e5 : i5 = i4 + pb_u i4 16) : i5 &&& 63 = nI (pb_sz x) := by
  have ex : x = nI x.toBitVec.toNat := Int32.toBitVec_inj.mp (by show _ = BitVec.ofNat 32 _; simp)
  refine pb_java (n := x.toBitVec.toNat) x.toBitVec.isLt (i1 := i1) ?_ e2 e3 e4 e5
  rw [← ex]
  exact e1
end
section
/-! what a state of the class, and of the reference, IS: the cells, by what they hold -/
/-- the class's own numbers and arrays: clauseCount, thereCount, followedCount, hintCount, draft, draftOrder, clauses, orders, there, hints -/
abbrev XS : Type := Int32 × Int32 × Int32 × Int32 × Int32 × Int64 × (Nat → Int32) × (Nat → Int64) × (Nat → Int32) × (Nat → Int32)
abbrev XW (ax : Nat → Nat) (yx : Nat → ClassId) (u : XS) : va_W := match u with
  | (cc, tc, fc, hc, dr, dO, fC, fO, fT, fH) => [(ax 0, .inr (0, [.ref (ax 1), .ref (ax 2), .ref (ax 3), .ref (ax 4), .int cc, .int tc, .int fc, .int hc, .int dr, .long dO])), (ax 1, .inl (yx 1, 600, .inl fC)), (ax 2, .inl (yx 2, 600, .inr (.inl fO))), (ax 3, .inl (yx 3, 600, .inl fT)), (ax 4, .inl (yx 4, 40, .inl fH))]
abbrev tysX (yx : Nat → ClassId) : List (ClassId × FieldType) := [(yx 1, .int), (yx 2, .long), (yx 3, .boolean), (yx 4, .int)]
/-- the reference's: code, count, there, followed, strange, size, hintCount, literals, lengths, draft, hints, value, models, low -/
abbrev MS : Type := Int32 × Int32 × Int32 × Int32 × Int32 × Int32 × Int32 × (Nat → Int32) × (Nat → Int32) × (Nat → Int32) × (Nat → Int32) × (Nat → Int32) × (Nat → Int64) × (Nat → Int64)
abbrev MW (am : Nat → Nat) (ym : Nat → ClassId) (u : MS) : va_W := match u with
  | (co, ct, th, fo, sg, sz, hc, fL, fN, fD, fH, fV, fM, fW) => [(am 0, .inr (1, [.int co, .int ct, .int th, .int fo, .int sg, .ref (am 1), .ref (am 2), .int sz, .ref (am 3), .int hc, .ref (am 4), .ref (am 5), .ref (am 6), .ref (am 7)])), (am 1, .inl (ym 1, 9600, .inl fL)), (am 2, .inl (ym 2, 600, .inl fN)), (am 3, .inl (ym 3, 16, .inl fD)), (am 4, .inl (ym 4, 40, .inl fH)), (am 5, .inl (ym 5, 17, .inl fV)), (am 6, .inl (ym 6, 1024, .inr (.inl fM))), (am 7, .inl (ym 7, 7, .inr (.inl fW)))]
abbrev tysM (ym : Nat → ClassId) : List (ClassId × FieldType) := [(ym 1, .int), (ym 2, .int), (ym 3, .int), (ym 4, .int), (ym 5, .int), (ym 6, .long), (ym 7, .long)]
/-- read alone: the cells are there -/
abbrev rdX (dC : Nat → ClassId) (dI : Nat → Nat → Nat) (ax : Nat → Nat) (yx : Nat → ClassId) (u : XS) (U : State) : Prop := va_P (dC, dI) cls2 (XW ax yx u) U.heap ∧ va_K (dC, dI) cls2 (tysX yx) U
abbrev rdM (dC : Nat → ClassId) (dI : Nat → Nat → Nat) (am : Nat → Nat) (ym : Nat → ClassId) (u : MS) (U : State) : Prop := va_P (dC, dI) cls2 (MW am ym u) U.heap ∧ va_K (dC, dI) cls2 (tysM ym) U
/-- before a method that writes -/
abbrev preX (dC : Nat → ClassId) (dI : Nat → Nat → Nat) (ax : Nat → Nat) (yx : Nat → ClassId) (sz : Nat) (u : XS) (U : State) : Prop := U.heap.size = sz ∧ va_P (dC, dI) cls2 (XW ax yx u) U.heap ∧ va_K (dC, dI) cls2 (tysX yx) U ∧ va_D (fun _ => True) (XW ax yx u)
abbrev preM (dC : Nat → ClassId) (dI : Nat → Nat → Nat) (am : Nat → Nat) (ym : Nat → ClassId) (sz : Nat) (u : MS) (U : State) : Prop := U.heap.size = sz ∧ va_P (dC, dI) cls2 (MW am ym u) U.heap ∧ va_K (dC, dI) cls2 (tysM ym) U ∧ va_D (fun _ => True) (MW am ym u)
/-- behind it -/
abbrev atX (dC : Nat → ClassId) (dI : Nat → Nat → Nat) (A : Nat → Prop) (ax : Nat → Nat) (yx : Nat → ClassId) (u : XS) (t : State) : Prop := va_P (dC, dI) cls2 (XW ax yx u) t.heap ∧ va_K (dC, dI) cls2 (tysX yx) t ∧ va_D A (XW ax yx u)
abbrev atM (dC : Nat → ClassId) (dI : Nat → Nat → Nat) (A : Nat → Prop) (am : Nat → Nat) (ym : Nat → ClassId) (u : MS) (t : State) : Prop := va_P (dC, dI) cls2 (MW am ym u) t.heap ∧ va_K (dC, dI) cls2 (tysM ym) t ∧ va_D A (MW am ym u)
/-- calling doesn't touch what these say -/
theorem blind_rdX {dC : Nat → ClassId} {dI : Nat → Nat → Nat} {ax : Nat → Nat} {yx : Nat → ClassId} {u : XS} {av : List Value} : FrameBlind (va_Pc av (rdX dC dI ax yx u)) := fun a U g mk q => by
  obtain ⟨q0, qP, qK⟩ := q
  exact ⟨q0, qP, va_K.moved (u := U) (U := U.calling g mk a) (Vm.Alike.refl U.vm) qK⟩
theorem blind_rdM {dC : Nat → ClassId} {dI : Nat → Nat → Nat} {am : Nat → Nat} {ym : Nat → ClassId} {u : MS} {av : List Value} : FrameBlind (va_Pc av (rdM dC dI am ym u)) := fun a U g mk q => by
  obtain ⟨q0, qP, qK⟩ := q
  exact ⟨q0, qP, va_K.moved (u := U) (U := U.calling g mk a) (Vm.Alike.refl U.vm) qK⟩
theorem blind_preX {dC : Nat → ClassId} {dI : Nat → Nat → Nat} {ax : Nat → Nat} {yx : Nat → ClassId} {sz : Nat} {u : XS} {av : List Value} : FrameBlind (va_Pc av (preX dC dI ax yx sz u)) := fun a U g mk q => by
  obtain ⟨q0, q1, qP, qK, qD⟩ := q
  exact ⟨q0, q1, qP, va_K.moved (u := U) (U := U.calling g mk a) (Vm.Alike.refl U.vm) qK, qD⟩
theorem blind_preM {dC : Nat → ClassId} {dI : Nat → Nat → Nat} {am : Nat → Nat} {ym : Nat → ClassId} {sz : Nat} {u : MS} {av : List Value} : FrameBlind (va_Pc av (preM dC dI am ym sz u)) := fun a U g mk q => by
  obtain ⟨q0, q1, qP, qK, qD⟩ := q
  exact ⟨q0, q1, qP, va_K.moved (u := U) (U := U.calling g mk a) (Vm.Alike.refl U.vm) qK, qD⟩
/-- the shift of a long as the machine has it -/
abbrev pb_lu (x : Int64) (s : Int32) : Int64 := (x.toUInt64 >>> (s.toInt64.toUInt64 &&& Int64.toUInt64 63)).toInt64
/-- the class's words on sets of literals -/
def mk_neg (x : Int32) : Int32 := (x <<< ((16 : Int32) &&& 31)) ||| pb_u x 16
def mk_rest (c f : Int32) : Int32 := c &&& (f ^^^ (-1))
def mk_bit (l : Int32) : Int32 := if 0 < l then (1 : Int32) <<< ((l - 1) &&& 31) else (1 : Int32) <<< ((15 - l) &&& 31)
def mk_told (c f : Int32) : Int32 := if pb_sz (mk_rest c f) = 1 ∧ mk_rest c f &&& mk_neg f = 0 then mk_rest c f else 0
end
section
set_option maxHeartbeats 4000000 in
set_option maxRecDepth 100000 in
/-- Integer.bitCount: how many bits -/
theorem m_bitCount (l : Launch) (x : Int32) : Met l yJ6_bitCount wsJ6_bitCount (rmN 0 0 0) (fun v _ => v = ([.int x] : List Value).toArray) (vp_Si (fun r => r = nI (pb_sz x))) 0 0 (fun _ => False) := by
  refine Met.ofW (cc := cJ6_bitCount) (maxL := 1) (ret := (some .int)) (by decide) rfl ?_
  intro p e s m args below meth c s₁ B hml hv
  subst hv
  have hx := B.exec
  have hb := B.bytes
  have hrt := B.returns
  have hlocks := B.notSynchronized
  have hts := atoms_spec (ws := wsJ6_bitCount) B.pre
  have hw : ∀ w ∈ WB, w.before ([.int x] : List Value).toArray s = true := fun w h => hts w (List.mem_cons_of_mem _ h)
  have hown : s.vm.findClass "java/lang/Integer" = some m.cls := findClass_of_methodNamed B.named
  have hl := lv_entry ([.int x]) (n := 1) (Nat.le_of_ble_eq_true rfl)
  rw [lg_entry_eq]
  generalize (lg_sl ([.int x]) ++ List.replicate (1 - (lg_sl ([.int x])).length) Slot.unset).toArray = ls at hl ⊢
  have hl : lv_has ls 1 [(0, .int x)] := hl
  refine lv_iload_n hx hb dJ6_bitCount_0 rfl (lv_at hl 0 rfl) ?_
  refine lv_iload_n hx hb dJ6_bitCount_1 rfl (lv_at hl 0 rfl) ?_
  refine lv_iconst (v := 1) hx hb dJ6_bitCount_2 (by decide) ?_
  refine lv_iushr (v := pb_u x 1) hx hb dJ6_bitCount_3 rfl ?_
  refine lv_ldcw (v := 1431655765) hx hb hown (hw _ wb_61) dJ6_bitCount_4 ?_
  refine lv_iand hx hb dJ6_bitCount_7 ?_
  refine lv_isub hx hb dJ6_bitCount_8 ?_
  refine lv_topi (fun i1 ei1 => ?_)
  refine lv_istore_n (lv' := [(0, .int i1)]) hx hb dJ6_bitCount_9 rfl hl (by decide) rfl (fun ls hl => ?_)
  refine lv_iload_n hx hb dJ6_bitCount_10 rfl (lv_at hl 0 rfl) ?_
  refine lv_ldcw (v := 858993459) hx hb hown (hw _ wb_62) dJ6_bitCount_11 ?_
  refine lv_iand hx hb dJ6_bitCount_14 ?_
  refine lv_iload_n hx hb dJ6_bitCount_15 rfl (lv_at hl 0 rfl) ?_
  refine lv_iconst (v := 2) hx hb dJ6_bitCount_16 (by decide) ?_
  refine lv_iushr (v := pb_u i1 2) hx hb dJ6_bitCount_17 rfl ?_
  refine lv_ldcw (v := 858993459) hx hb hown (hw _ wb_62) dJ6_bitCount_18 ?_
  refine lv_iand hx hb dJ6_bitCount_21 ?_
  refine lv_iadd hx hb dJ6_bitCount_22 ?_
  refine lv_topi (fun i2 ei2 => ?_)
  refine lv_istore_n (lv' := [(0, .int i2)]) hx hb dJ6_bitCount_23 rfl hl (by decide) rfl (fun ls hl => ?_)
  refine lv_iload_n hx hb dJ6_bitCount_24 rfl (lv_at hl 0 rfl) ?_
  refine lv_iload_n hx hb dJ6_bitCount_25 rfl (lv_at hl 0 rfl) ?_
  refine lv_iconst (v := 4) hx hb dJ6_bitCount_26 (by decide) ?_
  refine lv_iushr (v := pb_u i2 4) hx hb dJ6_bitCount_27 rfl ?_
  refine lv_iadd hx hb dJ6_bitCount_28 ?_
  refine lv_ldcw (v := 252645135) hx hb hown (hw _ wb_63) dJ6_bitCount_29 ?_
  refine lv_iand hx hb dJ6_bitCount_32 ?_
  refine lv_topi (fun i3 ei3 => ?_)
  refine lv_istore_n (lv' := [(0, .int i3)]) hx hb dJ6_bitCount_33 rfl hl (by decide) rfl (fun ls hl => ?_)
  refine lv_iload_n hx hb dJ6_bitCount_34 rfl (lv_at hl 0 rfl) ?_
  refine lv_iload_n hx hb dJ6_bitCount_35 rfl (lv_at hl 0 rfl) ?_
  refine lv_bipush (v := 8) hx hb dJ6_bitCount_36 (by decide) ?_
  refine lv_iushr (v := pb_u i3 8) hx hb dJ6_bitCount_38 rfl ?_
  refine lv_iadd hx hb dJ6_bitCount_39 ?_
  refine lv_topi (fun i4 ei4 => ?_)
  refine lv_istore_n (lv' := [(0, .int i4)]) hx hb dJ6_bitCount_40 rfl hl (by decide) rfl (fun ls hl => ?_)
  refine lv_iload_n hx hb dJ6_bitCount_41 rfl (lv_at hl 0 rfl) ?_
  refine lv_iload_n hx hb dJ6_bitCount_42 rfl (lv_at hl 0 rfl) ?_
  refine lv_bipush (v := 16) hx hb dJ6_bitCount_43 (by decide) ?_
  refine lv_iushr (v := pb_u i4 16) hx hb dJ6_bitCount_45 rfl ?_
  refine lv_iadd hx hb dJ6_bitCount_46 ?_
  refine lv_topi (fun i5 ei5 => ?_)
  refine lv_istore_n (lv' := [(0, .int i5)]) hx hb dJ6_bitCount_47 rfl hl (by decide) rfl (fun ls hl => ?_)
  refine lv_iload_n hx hb dJ6_bitCount_48 rfl (lv_at hl 0 rfl) ?_
  refine lv_bipush (v := 63) hx hb dJ6_bitCount_49 (by decide) ?_
  refine lv_iand hx hb dJ6_bitCount_51 ?_
  exact W.iret (v := i5 &&& 63) hx hb hrt (fun t ht hW => ⟨_, rfl, pb_nI_sz ei1 ei2 ei3 ei4 ei5, ht⟩) (fun q h => nomatch h) dJ6_bitCount_52
set_option maxHeartbeats 4000000 in
set_option maxRecDepth 100000 in
/-- sizeOf -/
theorem m_sizeOf (l : Launch) (x : Int32) : Met l yX0_sizeOf wsX0_sizeOf (rmN 1 0 0) (fun v _ => v = ([.int x] : List Value).toArray) (vp_Si (fun r => r = nI (pb_sz x))) 0 0 (fun _ => False) := by
  refine Met.ofW (cc := cX0_sizeOf) (maxL := 1) (ret := (some .int)) (by decide) rfl ?_
  intro p e s m args below meth c s₁ B hml hv
  subst hv
  have hx := B.exec
  have hb := B.bytes
  have hrt := B.returns
  have hlocks := B.notSynchronized
  have hts := atoms_spec (ws := wsX0_sizeOf) B.pre
  have hw : ∀ w ∈ WB, w.before ([.int x] : List Value).toArray s = true := fun w h => hts w (List.mem_cons_of_mem _ h)
  have hown : s.vm.findClass "ProofBench" = some m.cls := findClass_of_methodNamed B.named
  have hl := lv_entry ([.int x]) (n := 1) (Nat.le_of_ble_eq_true rfl)
  rw [lg_entry_eq]
  generalize (lg_sl ([.int x]) ++ List.replicate (1 - (lg_sl ([.int x])).length) Slot.unset).toArray = ls at hl ⊢
  have hl : lv_has ls 1 [(0, .int x)] := hl
  refine lv_iload_n hx hb dX0_sizeOf_0 rfl (lv_at hl 0 rfl) ?_
  refine vp_callSi (W.runS (As := [.int x]) (rest := []) ⟨hx, hb, hml, hown, hw⟩ (m_bitCount l x) (va_cwS 1 hw (gw_S wb_58 wb_59 wb_7 wb_60) rfl rfl rfl (by decide +kernel) ⟨Nat.le_of_ble_eq_true rfl, Nat.le_of_ble_eq_true rfl⟩) preEq rfl rfl hl.1 rfl (lv_room (Nat.le_of_ble_eq_true rfl)) dX0_sizeOf_1 ⟨Nat.le_refl _, Nat.le_refl _⟩) (fun r1 h1 => ?_)
  exact W.iret (v := r1) hx hb hrt (fun t ht hW => ⟨_, rfl, h1, ht⟩) (fun q h => nomatch h) dX0_sizeOf_4
set_option maxHeartbeats 4000000 in
set_option maxRecDepth 100000 in
/-- bitOf -/
theorem m_bitOf (l : Launch) (x : Int32) : Met l yX0_bitOf wsX0_bitOf (rmN 0 0 0) (fun v _ => v = ([.int x] : List Value).toArray) (vp_Si (fun r => r = mk_bit x)) 0 0 (fun _ => False) := by
  refine Met.ofW (cc := cX0_bitOf) (maxL := 1) (ret := (some .int)) (by decide) rfl ?_
  intro p e s m args below meth c s₁ B hml hv
  subst hv
  have hx := B.exec
  have hb := B.bytes
  have hrt := B.returns
  have hlocks := B.notSynchronized
  have hts := atoms_spec (ws := wsX0_bitOf) B.pre
  have hw : ∀ w ∈ WB, w.before ([.int x] : List Value).toArray s = true := fun w h => hts w (List.mem_cons_of_mem _ h)
  have hown : s.vm.findClass "ProofBench" = some m.cls := findClass_of_methodNamed B.named
  have hl := lv_entry ([.int x]) (n := 1) (Nat.le_of_ble_eq_true rfl)
  rw [lg_entry_eq]
  generalize (lg_sl ([.int x]) ++ List.replicate (1 - (lg_sl ([.int x])).length) Slot.unset).toArray = ls at hl ⊢
  have hl : lv_has ls 1 [(0, .int x)] := hl
  refine lv_iload_n hx hb dX0_bitOf_0 rfl (lv_at hl 0 rfl) ?_
  refine lv_if_le (tgt := 12) hx hb dX0_bitOf_1 (by decide) (fun c1 => ?_) (fun c1 => ?_)
  · skip
    refine lv_iconst (v := 1) hx hb dX0_bitOf_12 (by decide) ?_
    refine lv_bipush (v := 15) hx hb dX0_bitOf_13 (by decide) ?_
    refine lv_iload_n hx hb dX0_bitOf_15 rfl (lv_at hl 0 rfl) ?_
    refine lv_isub hx hb dX0_bitOf_16 ?_
    refine lv_ishl hx hb dX0_bitOf_17 ?_
    exact W.iret (v := 1 <<< ((15 - x) &&& 31)) hx hb hrt (fun t ht hW => ⟨_, rfl, by rw [mk_bit, if_neg (Int32.not_lt.mpr c1)], ht⟩) (fun q h => nomatch h) dX0_bitOf_18
  · skip
    refine lv_iconst (v := 1) hx hb dX0_bitOf_4 (by decide) ?_
    refine lv_iload_n hx hb dX0_bitOf_5 rfl (lv_at hl 0 rfl) ?_
    refine lv_iconst (v := 1) hx hb dX0_bitOf_6 (by decide) ?_
    refine lv_isub hx hb dX0_bitOf_7 ?_
    refine lv_ishl hx hb dX0_bitOf_8 ?_
    refine lv_goto (tgt := 18) hx hb dX0_bitOf_9 (by decide) ?_
    exact W.iret (v := 1 <<< ((x - 1) &&& 31)) hx hb hrt (fun t ht hW => ⟨_, rfl, by rw [mk_bit, if_pos (Int32.not_le.mp c1)], ht⟩) (fun q h => nomatch h) dX0_bitOf_18
set_option maxHeartbeats 4000000 in
set_option maxRecDepth 100000 in
/-- negated -/
theorem m_negated (l : Launch) (x : Int32) : Met l yX0_negated wsX0_negated (rmN 0 0 0) (fun v _ => v = ([.int x] : List Value).toArray) (vp_Si (fun r => r = mk_neg x)) 0 0 (fun _ => False) := by
  refine Met.ofW (cc := cX0_negated) (maxL := 1) (ret := (some .int)) (by decide) rfl ?_
  intro p e s m args below meth c s₁ B hml hv
  subst hv
  have hx := B.exec
  have hb := B.bytes
  have hrt := B.returns
  have hlocks := B.notSynchronized
  have hts := atoms_spec (ws := wsX0_negated) B.pre
  have hw : ∀ w ∈ WB, w.before ([.int x] : List Value).toArray s = true := fun w h => hts w (List.mem_cons_of_mem _ h)
  have hown : s.vm.findClass "ProofBench" = some m.cls := findClass_of_methodNamed B.named
  have hl := lv_entry ([.int x]) (n := 1) (Nat.le_of_ble_eq_true rfl)
  rw [lg_entry_eq]
  generalize (lg_sl ([.int x]) ++ List.replicate (1 - (lg_sl ([.int x])).length) Slot.unset).toArray = ls at hl ⊢
  have hl : lv_has ls 1 [(0, .int x)] := hl
  refine lv_iload_n hx hb dX0_negated_0 rfl (lv_at hl 0 rfl) ?_
  refine lv_bipush (v := 16) hx hb dX0_negated_1 (by decide) ?_
  refine lv_ishl hx hb dX0_negated_3 ?_
  refine lv_iload_n hx hb dX0_negated_4 rfl (lv_at hl 0 rfl) ?_
  refine lv_bipush (v := 16) hx hb dX0_negated_5 (by decide) ?_
  refine lv_iushr (v := pb_u x 16) hx hb dX0_negated_7 rfl ?_
  refine lv_ior hx hb dX0_negated_8 ?_
  exact W.iret (v := (x <<< (16 &&& 31)) ||| (pb_u x 16)) hx hb hrt (fun t ht hW => ⟨_, rfl, rfl, ht⟩) (fun q h => nomatch h) dX0_negated_9
set_option maxHeartbeats 4000000 in
set_option maxRecDepth 100000 in
/-- isWrong -/
theorem m_isWrong (l : Launch) (x : Int32) (f : Int32) : Met l yX0_isWrong wsX0_isWrong (rmN 0 0 0) (fun v _ => v = ([.int x, .int f] : List Value).toArray) (vp_Si (fun r => r = if mk_rest x f = 0 then 1 else 0)) 0 0 (fun _ => False) := by
  refine Met.ofW (cc := cX0_isWrong) (maxL := 2) (ret := (some .boolean)) (by decide) rfl ?_
  intro p e s m args below meth c s₁ B hml hv
  subst hv
  have hx := B.exec
  have hb := B.bytes
  have hrt := B.returns
  have hlocks := B.notSynchronized
  have hts := atoms_spec (ws := wsX0_isWrong) B.pre
  have hw : ∀ w ∈ WB, w.before ([.int x, .int f] : List Value).toArray s = true := fun w h => hts w (List.mem_cons_of_mem _ h)
  have hown : s.vm.findClass "ProofBench" = some m.cls := findClass_of_methodNamed B.named
  have hl := lv_entry ([.int x, .int f]) (n := 2) (Nat.le_of_ble_eq_true rfl)
  rw [lg_entry_eq]
  generalize (lg_sl ([.int x, .int f]) ++ List.replicate (2 - (lg_sl ([.int x, .int f])).length) Slot.unset).toArray = ls at hl ⊢
  have hl : lv_has ls 2 [(0, .int x), (1, .int f)] := hl
  refine lv_iload_n hx hb dX0_isWrong_0 rfl (lv_at hl 0 rfl) ?_
  refine lv_iload_n hx hb dX0_isWrong_1 rfl (lv_at hl 1 rfl) ?_
  refine lv_iconst (v := (-1)) hx hb dX0_isWrong_2 (by decide) ?_
  refine lv_ixor hx hb dX0_isWrong_3 ?_
  refine lv_iand hx hb dX0_isWrong_4 ?_
  refine lv_if_ne (tgt := 12) hx hb dX0_isWrong_5 (by decide) (fun c1 => ?_) (fun c1 => ?_)
  · skip
    refine lv_iconst (v := 0) hx hb dX0_isWrong_12 (by decide) ?_
    exact W.zret (v := 0) hx hb hrt (by decide) (fun t ht hW => ⟨_, rfl, by rw [if_neg (show ¬ mk_rest x f = 0 from c1)], ht⟩) (fun q h => nomatch h) dX0_isWrong_13
  · skip
    refine lv_iconst (v := 1) hx hb dX0_isWrong_8 (by decide) ?_
    refine lv_goto (tgt := 13) hx hb dX0_isWrong_9 (by decide) ?_
    exact W.zret (v := 1) hx hb hrt (by decide) (fun t ht hW => ⟨_, rfl, by rw [if_pos (show mk_rest x f = 0 from c1)], ht⟩) (fun q h => nomatch h) dX0_isWrong_13
set_option maxHeartbeats 4000000 in
set_option maxRecDepth 100000 in
/-- toldBy -/
theorem m_toldBy (l : Launch) (x : Int32) (f : Int32) : Met l yX0_toldBy wsX0_toldBy (rmN 2 0 0) (fun v _ => v = ([.int x, .int f] : List Value).toArray) (vp_Si (fun r => r = mk_told x f)) 0 0 (fun _ => False) := by
  refine Met.ofW (cc := cX0_toldBy) (maxL := 4) (ret := (some .int)) (by decide) rfl ?_
  intro p e s m args below meth c s₁ B hml hv
  subst hv
  have hx := B.exec
  have hb := B.bytes
  have hrt := B.returns
  have hlocks := B.notSynchronized
  have hts := atoms_spec (ws := wsX0_toldBy) B.pre
  have hw : ∀ w ∈ WB, w.before ([.int x, .int f] : List Value).toArray s = true := fun w h => hts w (List.mem_cons_of_mem _ h)
  have hown : s.vm.findClass "ProofBench" = some m.cls := findClass_of_methodNamed B.named
  have hl := lv_entry ([.int x, .int f]) (n := 4) (Nat.le_of_ble_eq_true rfl)
  rw [lg_entry_eq]
  generalize (lg_sl ([.int x, .int f]) ++ List.replicate (4 - (lg_sl ([.int x, .int f])).length) Slot.unset).toArray = ls at hl ⊢
  have hl : lv_has ls 4 [(0, .int x), (1, .int f)] := hl
  refine lv_iload_n hx hb dX0_toldBy_0 rfl (lv_at hl 0 rfl) ?_
  refine lv_iload_n hx hb dX0_toldBy_1 rfl (lv_at hl 1 rfl) ?_
  refine lv_iconst (v := (-1)) hx hb dX0_toldBy_2 (by decide) ?_
  refine lv_ixor hx hb dX0_toldBy_3 ?_
  refine lv_iand hx hb dX0_toldBy_4 ?_
  refine lv_topi (fun q eq1 => ?_)
  have eq1 : q = mk_rest x f := eq1
  refine lv_istore_n (lv' := [(2, .int q), (0, .int x), (1, .int f)]) hx hb dX0_toldBy_5 rfl hl (by decide) rfl (fun ls hl => ?_)
  refine lv_iload_n hx hb dX0_toldBy_6 rfl (lv_at hl 0 rfl) ?_
  refine lv_iload_n hx hb dX0_toldBy_7 rfl (lv_at hl 2 rfl) ?_
  refine vp_callSi (W.runS (As := [.int f]) (rest := [.int q]) ⟨hx, hb, hml, hown, hw⟩ (m_negated l f) (va_cwS 1 hw (gw_S wb_78 wb_79 wb_1 wb_80) rfl rfl rfl (by decide +kernel) ⟨Nat.le_of_ble_eq_true rfl, Nat.le_of_ble_eq_true rfl⟩) preEq rfl rfl hl.1 rfl (lv_room (Nat.le_of_ble_eq_true rfl)) dX0_toldBy_8 ⟨Nat.le_refl _, Nat.le_refl _⟩) (fun r1 h1 => ?_)
  refine lv_iand hx hb dX0_toldBy_11 ?_
  refine lv_if_eq (tgt := 19) hx hb dX0_toldBy_12 (by decide) (fun c1 => ?_) (fun c1 => ?_)
  · skip
    refine lv_iconst (v := 0) hx hb dX0_toldBy_19 (by decide) ?_
    refine lv_istore_n (lv' := [(3, .int 0), (2, .int q), (0, .int x), (1, .int f)]) hx hb dX0_toldBy_20 rfl hl (by decide) rfl (fun ls hl => ?_)
    refine lv_iload_n hx hb dX0_toldBy_21 rfl (lv_at hl 1 rfl) ?_
    refine vp_callSi (W.runS (As := [.int q]) (rest := []) ⟨hx, hb, hml, hown, hw⟩ (m_sizeOf l q) (va_cwS 1 hw (gw_S wb_55 wb_56 wb_1 wb_57) rfl rfl rfl (by decide +kernel) ⟨Nat.le_of_ble_eq_true rfl, Nat.le_of_ble_eq_true rfl⟩) preEq rfl rfl hl.1 rfl (lv_room (Nat.le_of_ble_eq_true rfl)) dX0_toldBy_22 ⟨Nat.le_refl _, Nat.le_refl _⟩) (fun r2 h2 => ?_)
    refine lv_iconst (v := 1) hx hb dX0_toldBy_25 (by decide) ?_
    refine lv_icmp_ne (tgt := 37) hx hb dX0_toldBy_26 (by decide) (fun c2 => ?_) (fun c2 => ?_)
    · skip
      refine lv_iconst (v := 0) hx hb dX0_toldBy_37 (by decide) ?_
      exact W.iret (v := 0) hx hb hrt (fun t ht hW => ⟨_, rfl, by rw [mk_told, if_neg (fun h => c2 (by rw [h2, eq1, h.1]; rfl))], ht⟩) (fun q h => nomatch h) dX0_toldBy_38
    · skip
      refine lv_iload_n hx hb dX0_toldBy_29 rfl (lv_at hl 0 rfl) ?_
      refine lv_if_ne (tgt := 37) hx hb dX0_toldBy_30 (by decide) (fun c3 => ?_) (fun c3 => ?_)
      · skip
        exact absurd rfl c3
      · skip
        refine lv_iload_n hx hb dX0_toldBy_33 rfl (lv_at hl 1 rfl) ?_
        refine lv_goto (tgt := 38) hx hb dX0_toldBy_34 (by decide) ?_
        exact W.iret (v := q) hx hb hrt (fun t ht hW => ⟨_, rfl, by rw [mk_told, if_pos ⟨(nI_eq (Nat.lt_of_le_of_lt (pb_sz_n _) (by decide)) (by decide)).mp (by rw [← eq1, ← h2]; exact c2), by rw [← h1, ← eq1]; exact c1⟩]; exact eq1, ht⟩) (fun q h => nomatch h) dX0_toldBy_38
  · skip
    refine lv_iconst (v := 1) hx hb dX0_toldBy_15 (by decide) ?_
    refine lv_goto (tgt := 20) hx hb dX0_toldBy_16 (by decide) ?_
    refine lv_istore_n (lv' := [(3, .int 1), (2, .int q), (0, .int x), (1, .int f)]) hx hb dX0_toldBy_20 rfl hl (by decide) rfl (fun ls hl => ?_)
    refine lv_iload_n hx hb dX0_toldBy_21 rfl (lv_at hl 1 rfl) ?_
    refine vp_callSi (W.runS (As := [.int q]) (rest := []) ⟨hx, hb, hml, hown, hw⟩ (m_sizeOf l q) (va_cwS 1 hw (gw_S wb_55 wb_56 wb_1 wb_57) rfl rfl rfl (by decide +kernel) ⟨Nat.le_of_ble_eq_true rfl, Nat.le_of_ble_eq_true rfl⟩) preEq rfl rfl hl.1 rfl (lv_room (Nat.le_of_ble_eq_true rfl)) dX0_toldBy_22 ⟨Nat.le_refl _, Nat.le_refl _⟩) (fun r2 h2 => ?_)
    refine lv_iconst (v := 1) hx hb dX0_toldBy_25 (by decide) ?_
    refine lv_icmp_ne (tgt := 37) hx hb dX0_toldBy_26 (by decide) (fun c2 => ?_) (fun c2 => ?_)
    · skip
      refine lv_iconst (v := 0) hx hb dX0_toldBy_37 (by decide) ?_
      exact W.iret (v := 0) hx hb hrt (fun t ht hW => ⟨_, rfl, by rw [mk_told, if_neg (fun h => c2 (by rw [h2, eq1, h.1]; rfl))], ht⟩) (fun q h => nomatch h) dX0_toldBy_38
    · skip
      refine lv_iload_n hx hb dX0_toldBy_29 rfl (lv_at hl 0 rfl) ?_
      refine lv_if_ne (tgt := 37) hx hb dX0_toldBy_30 (by decide) (fun c3 => ?_) (fun c3 => ?_)
      · skip
        refine lv_iconst (v := 0) hx hb dX0_toldBy_37 (by decide) ?_
        exact W.iret (v := 0) hx hb hrt (fun t ht hW => ⟨_, rfl, by rw [mk_told, if_neg (fun h => c1 (by rw [h1, eq1]; exact h.2))], ht⟩) (fun q h => nomatch h) dX0_toldBy_38
      · skip
        exact absurd c3 (by decide)
end
section
/-! the class's methods that don't throw -/
theorem in_c {c cc : Int32} {n N : Nat} (e : cc = nI n) (hn : n ≤ N) (hN : N < 2 ^ 31) (h0 : ¬ c < 0) (h1 : ¬ cc ≤ c) : vp_in c N := by
  rcases pk_ix c (n := n) (by omega) with h | h | ⟨j, hj, ej⟩
  · exact absurd h h0
  · exact absurd (by rw [e]; exact h) h1
  · rw [ej]; exact vp_in_nI (by omega) hN
/-- is clause c there -/
def th_b (cc : Int32) (fT : Nat → Int32) (c : Int32) : Int32 := if ¬ c < 0 ∧ ¬ cc ≤ c ∧ fT c.toNatClampNeg ≠ 0 then 1 else 0
/-- one round of telling: clauses i .. i + k - 1, f the false literals; none: a wrong one came -/
def tl_scan (fC fT : Nat → Int32) : Nat → Nat → Int32 → Option Int32
  | 0, _, f => some f
  | k + 1, i, f => if fT i = 0 then tl_scan fC fT k (i + 1) f else if mk_rest (fC i) f = 0 then none else tl_scan fC fT k (i + 1) (f ||| mk_neg (mk_told (fC i) f))
def tl_rounds (fC fT : Nat → Int32) (n : Nat) : Nat → Int32 → Option Int32
  | 0, f => some f
  | k + 1, f => match tl_scan fC fT n 0 f with
    | none => none
    | some g => if g = f then some g else tl_rounds fC fT n k g
def td_val (q : Option Int32) (dr : Int32) : Int32 := match q with
  | none => 17
  | some g => nI (pb_sz g) - nI (pb_sz dr)
/-- is a clause without literals there, among i .. i + k - 1 -/
def ov_scan (fC fT : Nat → Int32) : Nat → Nat → Int32
  | 0, _ => 0
  | k + 1, i => if fT i ≠ 0 ∧ fC i = 0 then 1 else ov_scan fC fT k (i + 1)
/-- the place of the first hint that isn't as it must be: hints i .. i + k - 1 -/
def bh_scan (cc : Int32) (fC fT fH : Nat → Int32) : Nat → Nat → Int32 → Int32
  | 0, i, _ => nI i
  | k + 1, i, f => if th_b cc fT (fH i) = 0 then nI i else if k = 0 ∧ mk_rest (fC (fH i).toNatClampNeg) f = 0 then -1 else if mk_told (fC (fH i).toNatClampNeg) f = 0 then nI i else bh_scan cc fC fT fH k (i + 1) (f ||| mk_neg (mk_told (fC (fH i).toNatClampNeg) f))
set_option maxHeartbeats 4000000 in
set_option maxRecDepth 100000 in
/-- isThere -/
theorem m_isThere (l : Launch) (dC : Nat → ClassId) (dI : Nat → Nat → Nat) (ax : Nat → Nat) (yx : Nat → ClassId) (cc tc fc hc dr : Int32) (dO : Int64) (fC : Nat → Int32) (fO : Nat → Int64) (fT fH : Nat → Int32) (k : Int32) (n : Nat) (hn : n ≤ 600) (ecc : cc = nI n) : Met l yX0_isThere wsX0_isThere (rmN 0 0 0) (va_Pc [.ref (ax 0), .int k] (rdX dC dI ax yx (cc, tc, fc, hc, dr, dO, fC, fO, fT, fH))) (vp_Si (fun r => r = th_b cc fT k)) 0 0 (fun _ => False) := by
  refine Met.ofW (cc := cX0_isThere) (maxL := 2) (ret := (some .boolean)) (by decide) rfl ?_
  intro p e s m args below meth c s₁ B hml hv
  obtain ⟨rfl, hP, hK⟩ := hv
  have hx := B.exec
  have hb := B.bytes
  have hrt := B.returns
  have hlocks := B.notSynchronized
  have hts := atoms_spec (ws := wsX0_isThere) B.pre
  have hw : ∀ w ∈ WB, w.before ([.ref (ax 0), .int k] : List Value).toArray s = true := fun w h => hts w (List.mem_cons_of_mem _ h)
  have hown : s.vm.findClass "ProofBench" = some m.cls := findClass_of_methodNamed B.named
  have hP : va_P (dC, dI) cls2 (XW ax yx (cc, tc, fc, hc, dr, dO, fC, fO, fT, fH)) s.heap := hP
  have hl := lv_entry ([.ref (ax 0), .int k]) (n := 2) (Nat.le_of_ble_eq_true rfl)
  rw [lg_entry_eq]
  generalize (lg_sl ([.ref (ax 0), .int k]) ++ List.replicate (2 - (lg_sl ([.ref (ax 0), .int k])).length) Slot.unset).toArray = ls at hl ⊢
  have hl : lv_has ls 2 [(0, .ref (ax 0)), (1, .int k)] := hl
  refine lv_iload_n hx hb dX0_isThere_0 rfl (lv_at hl 1 rfl) ?_
  refine lv_if_lt (tgt := 25) hx hb dX0_isThere_1 (by decide) (fun c1 => ?_) (fun c1 => ?_)
  · skip
    refine lv_iconst (v := 0) hx hb dX0_isThere_25 (by decide) ?_
    exact W.zret (v := 0) hx hb hrt (by decide) (fun t ht hW => ⟨_, rfl, by rw [th_b, if_neg (fun h => h.1 c1)], ht⟩) (fun q h => nomatch h) dX0_isThere_26
  · skip
    refine lv_iload_n hx hb dX0_isThere_4 rfl (lv_at hl 1 rfl) ?_
    refine lv_aload_n hx hb dX0_isThere_5 rfl (lv_at hl 0 rfl) ?_
    refine va_get (D := (dC, dI)) (ci := 0) (v := .int cc) (C := RX0) (T := TX0) (N := 10) hx hb hw inX0 hown hK hP 0 rfl rfl 4 (by decide) (hw _ wb_21) (fun _ h9 => h9) rfl dX0_isThere_6 ?_
    refine lv_icmp_ge (tgt := 25) hx hb dX0_isThere_9 (by decide) (fun c2 => ?_) (fun c2 => ?_)
    · skip
      refine lv_iconst (v := 0) hx hb dX0_isThere_25 (by decide) ?_
      exact W.zret (v := 0) hx hb hrt (by decide) (fun t ht hW => ⟨_, rfl, by rw [th_b, if_neg (fun h => h.2.1 c2)], ht⟩) (fun q h => nomatch h) dX0_isThere_26
    · skip
      refine lv_aload_n hx hb dX0_isThere_12 rfl (lv_at hl 0 rfl) ?_
      refine va_get (D := (dC, dI)) (ci := 0) (v := .ref (ax 3)) (C := RX0) (T := TX0) (N := 10) hx hb hw inX0 hown hK hP 0 rfl rfl 2 (by decide) (hw _ wb_19) (fun _ h9 => h9) rfl dX0_isThere_13 ?_
      refine lv_iload_n hx hb dX0_isThere_16 rfl (lv_at hl 1 rfl) ?_
      refine va_zald hx hb hK hP 3 2 rfl rfl (in_c ecc hn (by decide) c1 c2) dX0_isThere_17 ?_
      refine lv_if_eq (tgt := 25) hx hb dX0_isThere_18 (by decide) (fun c3 => ?_) (fun c3 => ?_)
      · skip
        refine lv_iconst (v := 0) hx hb dX0_isThere_25 (by decide) ?_
        exact W.zret (v := 0) hx hb hrt (by decide) (fun t ht hW => ⟨_, rfl, by rw [th_b, if_neg (fun h => h.2.2 c3)], ht⟩) (fun q h => nomatch h) dX0_isThere_26
      · skip
        refine lv_iconst (v := 1) hx hb dX0_isThere_21 (by decide) ?_
        refine lv_goto (tgt := 26) hx hb dX0_isThere_22 (by decide) ?_
        exact W.zret (v := 1) hx hb hrt (by decide) (fun t ht hW => ⟨_, rfl, by rw [th_b, if_pos ⟨c1, c2, c3⟩], ht⟩) (fun q h => nomatch h) dX0_isThere_26
set_option maxHeartbeats 4000000 in
set_option maxRecDepth 100000 in
/-- wrong -/
theorem m_wrong (l : Launch) (dC : Nat → ClassId) (dI : Nat → Nat → Nat) (ax : Nat → Nat) (yx : Nat → ClassId) (cc tc fc hc dr : Int32) (dO : Int64) (fC : Nat → Int32) (fO : Nat → Int64) (fT fH : Nat → Int32)  : Met l yX0_wrong wsX0_wrong (rmN 0 0 0) (va_Pc [.ref (ax 0)] (rdX dC dI ax yx (cc, tc, fc, hc, dr, dO, fC, fO, fT, fH))) (vp_Si (fun r => r = 0)) 0 0 (fun _ => False) := by
  refine Met.ofW (cc := cX0_wrong) (maxL := 1) (ret := (some .int)) (by decide) rfl ?_
  intro p e s m args below meth c s₁ B hml hv
  obtain ⟨rfl, hP, hK⟩ := hv
  have hx := B.exec
  have hb := B.bytes
  have hrt := B.returns
  have hlocks := B.notSynchronized
  have hts := atoms_spec (ws := wsX0_wrong) B.pre
  have hw : ∀ w ∈ WB, w.before ([.ref (ax 0)] : List Value).toArray s = true := fun w h => hts w (List.mem_cons_of_mem _ h)
  have hown : s.vm.findClass "ProofBench" = some m.cls := findClass_of_methodNamed B.named
  have hP : va_P (dC, dI) cls2 (XW ax yx (cc, tc, fc, hc, dr, dO, fC, fO, fT, fH)) s.heap := hP
  have hl := lv_entry ([.ref (ax 0)]) (n := 1) (Nat.le_of_ble_eq_true rfl)
  rw [lg_entry_eq]
  generalize (lg_sl ([.ref (ax 0)]) ++ List.replicate (1 - (lg_sl ([.ref (ax 0)])).length) Slot.unset).toArray = ls at hl ⊢
  have hl : lv_has ls 1 [(0, .ref (ax 0))] := hl
  refine lv_iconst (v := 0) hx hb dX0_wrong_0 (by decide) ?_
  exact W.iret (v := 0) hx hb hrt (fun t ht hW => ⟨_, rfl, rfl, ht⟩) (fun q h => nomatch h) dX0_wrong_1
set_option maxHeartbeats 4000000 in
set_option maxRecDepth 100000 in
/-- emptyDraft -/
theorem m_emptyDraft (l : Launch) (dC : Nat → ClassId) (dI : Nat → Nat → Nat) (ax : Nat → Nat) (yx : Nat → ClassId) (sz0 : Nat) (cc tc fc hc dr : Int32) (dO : Int64) (fC : Nat → Int32) (fO : Nat → Int64) (fT fH : Nat → Int32)  : Met l yX0_emptyDraft wsX0_emptyDraft (rmN 0 0 0) (va_Pc [.ref (ax 0)] (preX dC dI ax yx sz0 (cc, tc, fc, hc, dr, dO, fC, fO, fT, fH))) (va_Qv (fun (u : XS) => u = (cc, tc, fc, hc, 0, 0, fC, fO, fT, fH)) (atX dC dI (va_A (XW ax yx (cc, tc, fc, hc, dr, dO, fC, fO, fT, fH)) sz0) ax yx) (va_A (XW ax yx (cc, tc, fc, hc, dr, dO, fC, fO, fT, fH)) sz0)) 0 0 (va_A (XW ax yx (cc, tc, fc, hc, dr, dO, fC, fO, fT, fH)) sz0) := by
  refine Met.ofW (cc := cX0_emptyDraft) (maxL := 1) (ret := none) (by decide) rfl ?_
  intro p e s m args below meth c s₁ B hml hv
  obtain ⟨rfl, hsz, hP, hK, hD0⟩ := hv
  have hx := B.exec
  have hb := B.bytes
  have hrt := B.returns
  have hlocks := B.notSynchronized
  have hts := atoms_spec (ws := wsX0_emptyDraft) B.pre
  have hw : ∀ w ∈ WB, w.before ([.ref (ax 0)] : List Value).toArray s = true := fun w h => hts w (List.mem_cons_of_mem _ h)
  have hown : s.vm.findClass "ProofBench" = some m.cls := findClass_of_methodNamed B.named
  subst hsz
  have hD := hD0.self (sz := s.heap.size)
  generalize hAe : va_A (XW ax yx (cc, tc, fc, hc, dr, dO, fC, fO, fT, fH)) s.heap.size = A at hD ⊢
  have hA : ∀ q : Nat, s.heap.size ≤ q → A q := fun q h => by rw [← hAe]; exact Or.inr h
  have hS : va_S A s.heap s.heap [] := va_S.rf
  have hP : va_P (dC, dI) cls2 (XW ax yx (cc, tc, fc, hc, dr, dO, fC, fO, fT, fH)) s.heap := hP
  have hl := lv_entry ([.ref (ax 0)]) (n := 1) (Nat.le_of_ble_eq_true rfl)
  rw [lg_entry_eq]
  generalize (lg_sl ([.ref (ax 0)]) ++ List.replicate (1 - (lg_sl ([.ref (ax 0)])).length) Slot.unset).toArray = ls at hl ⊢
  have hl : lv_has ls 1 [(0, .ref (ax 0))] := hl
  refine lv_aload_n hx hb dX0_emptyDraft_0 rfl (lv_at hl 0 rfl) ?_
  refine lv_iconst (v := 0) hx hb dX0_emptyDraft_1 (by decide) ?_
  refine va_put (D := (dC, dI)) (ci := 0) (v := .int 0) (ty := .int) (C := RX0) (T := TX0) (N := 10) hx hb hw inX0 tyX0 tyX0_ok nmX0 hown hK hP hD hS 0 rfl rfl 8 (by decide) (hw _ wb_25) (fun _ h9 => h9) rfl (by decide +kernel) rfl rfl (Nat.le_of_ble_eq_true rfl) dX0_emptyDraft_2 (fun H locs hP hD hS => ?_)
  have hP : va_P (dC, dI) cls2 (XW ax yx (cc, tc, fc, hc, 0, dO, fC, fO, fT, fH)) H := hP
  have hD : va_D A (XW ax yx (cc, tc, fc, hc, 0, dO, fC, fO, fT, fH)) := hD
  refine lv_aload_n hx hb dX0_emptyDraft_5 rfl (lv_at hl 0 rfl) ?_
  refine lv_lconst (v := 0) hx hb dX0_emptyDraft_6 (by decide) ?_
  refine va_put (D := (dC, dI)) (ci := 0) (v := .long 0) (ty := .long) (C := RX0) (T := TX0) (N := 10) hx hb hw inX0 tyX0 tyX0_ok nmX0 hown hK hP hD hS 0 rfl rfl 9 (by decide) (hw _ wb_26) (fun _ h9 => h9) rfl (by decide +kernel) rfl rfl (Nat.le_of_ble_eq_true rfl) dX0_emptyDraft_7 (fun H locs hP hD hS => ?_)
  have hP : va_P (dC, dI) cls2 (XW ax yx (cc, tc, fc, hc, 0, 0, fC, fO, fT, fH)) H := hP
  have hD : va_D A (XW ax yx (cc, tc, fc, hc, 0, 0, fC, fO, fT, fH)) := hD
  exact W.vret hx hb hrt (fun t ht hW => ⟨⟨_, rfl, rfl, by rw [ht]; exact hP, va_K.moved hW.alike hK, hD⟩, hS.F ht⟩) hS.2.2 dX0_emptyDraft_10
set_option maxHeartbeats 4000000 in
set_option maxRecDepth 100000 in
/-- keepDraft -/
theorem m_keepDraft (l : Launch) (dC : Nat → ClassId) (dI : Nat → Nat → Nat) (ax : Nat → Nat) (yx : Nat → ClassId) (sz0 : Nat) (cc tc fc hc dr : Int32) (dO : Int64) (fC : Nat → Int32) (fO : Nat → Int64) (fT fH : Nat → Int32)  (n : Nat) (hn : n < 600) (ecc : cc = nI n) : Met l yX0_keepDraft wsX0_keepDraft (rmN 1 0 0) (va_Pc [.ref (ax 0)] (preX dC dI ax yx sz0 (cc, tc, fc, hc, dr, dO, fC, fO, fT, fH))) (va_Qi (fun (r : Int32) (u : XS) => r = cc ∧ u = (cc + 1, tc + 1, fc, hc, 0, 0, upd fC cc.toNatClampNeg dr, vp_updL fO cc.toNatClampNeg dO, upd fT cc.toNatClampNeg (vp_nar .boolean 1), fH)) (atX dC dI (va_A (XW ax yx (cc, tc, fc, hc, dr, dO, fC, fO, fT, fH)) sz0) ax yx) (va_A (XW ax yx (cc, tc, fc, hc, dr, dO, fC, fO, fT, fH)) sz0)) 0 0 (va_A (XW ax yx (cc, tc, fc, hc, dr, dO, fC, fO, fT, fH)) sz0) := by
  refine Met.ofW (cc := cX0_keepDraft) (maxL := 2) (ret := (some .int)) (by decide) rfl ?_
  intro p e s m args below meth c s₁ B hml hv
  obtain ⟨rfl, hsz, hP, hK, hD0⟩ := hv
  have hx := B.exec
  have hb := B.bytes
  have hrt := B.returns
  have hlocks := B.notSynchronized
  have hts := atoms_spec (ws := wsX0_keepDraft) B.pre
  have hw : ∀ w ∈ WB, w.before ([.ref (ax 0)] : List Value).toArray s = true := fun w h => hts w (List.mem_cons_of_mem _ h)
  have hown : s.vm.findClass "ProofBench" = some m.cls := findClass_of_methodNamed B.named
  subst hsz
  have hD := hD0.self (sz := s.heap.size)
  generalize hAe : va_A (XW ax yx (cc, tc, fc, hc, dr, dO, fC, fO, fT, fH)) s.heap.size = A at hD ⊢
  have hA : ∀ q : Nat, s.heap.size ≤ q → A q := fun q h => by rw [← hAe]; exact Or.inr h
  have hS : va_S A s.heap s.heap [] := va_S.rf
  have hP : va_P (dC, dI) cls2 (XW ax yx (cc, tc, fc, hc, dr, dO, fC, fO, fT, fH)) s.heap := hP
  have hl := lv_entry ([.ref (ax 0)]) (n := 2) (Nat.le_of_ble_eq_true rfl)
  rw [lg_entry_eq]
  generalize (lg_sl ([.ref (ax 0)]) ++ List.replicate (2 - (lg_sl ([.ref (ax 0)])).length) Slot.unset).toArray = ls at hl ⊢
  have hl : lv_has ls 2 [(0, .ref (ax 0))] := hl
  have hin : vp_in cc 600 := by rw [ecc]; exact vp_in_nI hn (by decide)
  refine lv_aload_n hx hb dX0_keepDraft_0 rfl (lv_at hl 0 rfl) ?_
  refine va_get (D := (dC, dI)) (ci := 0) (v := .int cc) (C := RX0) (T := TX0) (N := 10) hx hb hw inX0 hown hK hP 0 rfl rfl 4 (by decide) (hw _ wb_21) (fun _ h9 => h9) rfl dX0_keepDraft_1 ?_
  refine lv_istore_n (lv' := [(1, .int cc), (0, .ref (ax 0))]) hx hb dX0_keepDraft_4 rfl hl (by decide) rfl (fun ls hl => ?_)
  refine lv_aload_n hx hb dX0_keepDraft_5 rfl (lv_at hl 1 rfl) ?_
  refine va_get (D := (dC, dI)) (ci := 0) (v := .ref (ax 1)) (C := RX0) (T := TX0) (N := 10) hx hb hw inX0 hown hK hP 0 rfl rfl 0 (by decide) (hw _ wb_17) (fun _ h9 => h9) rfl dX0_keepDraft_6 ?_
  refine lv_iload_n hx hb dX0_keepDraft_9 rfl (lv_at hl 0 rfl) ?_
  refine lv_aload_n hx hb dX0_keepDraft_10 rfl (lv_at hl 1 rfl) ?_
  refine va_get (D := (dC, dI)) (ci := 0) (v := .int dr) (C := RX0) (T := TX0) (N := 10) hx hb hw inX0 hown hK hP 0 rfl rfl 8 (by decide) (hw _ wb_25) (fun _ h9 => h9) rfl dX0_keepDraft_11 ?_
  refine va_iast hx hb hK hP hD hS 1 0 rfl rfl hin dX0_keepDraft_14 (fun H locs hP hD hS => ?_)
  have hP : va_P (dC, dI) cls2 (XW ax yx (cc, tc, fc, hc, dr, dO, upd fC cc.toNatClampNeg dr, fO, fT, fH)) H := hP
  have hD : va_D A (XW ax yx (cc, tc, fc, hc, dr, dO, upd fC cc.toNatClampNeg dr, fO, fT, fH)) := hD
  refine lv_aload_n hx hb dX0_keepDraft_15 rfl (lv_at hl 1 rfl) ?_
  refine va_get (D := (dC, dI)) (ci := 0) (v := .ref (ax 2)) (C := RX0) (T := TX0) (N := 10) hx hb hw inX0 hown hK hP 0 rfl rfl 1 (by decide) (hw _ wb_18) (fun _ h9 => h9) rfl dX0_keepDraft_16 ?_
  refine lv_iload_n hx hb dX0_keepDraft_19 rfl (lv_at hl 0 rfl) ?_
  refine lv_aload_n hx hb dX0_keepDraft_20 rfl (lv_at hl 1 rfl) ?_
  refine va_get (D := (dC, dI)) (ci := 0) (v := .long dO) (C := RX0) (T := TX0) (N := 10) hx hb hw inX0 hown hK hP 0 rfl rfl 9 (by decide) (hw _ wb_26) (fun _ h9 => h9) rfl dX0_keepDraft_21 ?_
  refine va_last hx hb hK hP hD hS 2 1 rfl rfl hin dX0_keepDraft_24 (fun H locs hP hD hS => ?_)
  have hP : va_P (dC, dI) cls2 (XW ax yx (cc, tc, fc, hc, dr, dO, upd fC cc.toNatClampNeg dr, vp_updL fO cc.toNatClampNeg dO, fT, fH)) H := hP
  have hD : va_D A (XW ax yx (cc, tc, fc, hc, dr, dO, upd fC cc.toNatClampNeg dr, vp_updL fO cc.toNatClampNeg dO, fT, fH)) := hD
  refine lv_aload_n hx hb dX0_keepDraft_25 rfl (lv_at hl 1 rfl) ?_
  refine va_get (D := (dC, dI)) (ci := 0) (v := .ref (ax 3)) (C := RX0) (T := TX0) (N := 10) hx hb hw inX0 hown hK hP 0 rfl rfl 2 (by decide) (hw _ wb_19) (fun _ h9 => h9) rfl dX0_keepDraft_26 ?_
  refine lv_iload_n hx hb dX0_keepDraft_29 rfl (lv_at hl 0 rfl) ?_
  refine lv_iconst (v := 1) hx hb dX0_keepDraft_30 (by decide) ?_
  refine va_zast hx hb hK hP hD hS 3 2 rfl rfl hin dX0_keepDraft_31 (fun H locs hP hD hS => ?_)
  have hP : va_P (dC, dI) cls2 (XW ax yx (cc, tc, fc, hc, dr, dO, upd fC cc.toNatClampNeg dr, vp_updL fO cc.toNatClampNeg dO, upd fT cc.toNatClampNeg (vp_nar .boolean 1), fH)) H := hP
  have hD : va_D A (XW ax yx (cc, tc, fc, hc, dr, dO, upd fC cc.toNatClampNeg dr, vp_updL fO cc.toNatClampNeg dO, upd fT cc.toNatClampNeg (vp_nar .boolean 1), fH)) := hD
  refine lv_aload_n hx hb dX0_keepDraft_32 rfl (lv_at hl 1 rfl) ?_
  refine lv_dup hx hb dX0_keepDraft_33 rfl ?_
  refine va_get (D := (dC, dI)) (ci := 0) (v := .int cc) (C := RX0) (T := TX0) (N := 10) hx hb hw inX0 hown hK hP 0 rfl rfl 4 (by decide) (hw _ wb_21) (fun _ h9 => h9) rfl dX0_keepDraft_34 ?_
  refine lv_iconst (v := 1) hx hb dX0_keepDraft_37 (by decide) ?_
  refine lv_iadd hx hb dX0_keepDraft_38 ?_
  refine va_put (D := (dC, dI)) (ci := 0) (v := .int (cc + 1)) (ty := .int) (C := RX0) (T := TX0) (N := 10) hx hb hw inX0 tyX0 tyX0_ok nmX0 hown hK hP hD hS 0 rfl rfl 4 (by decide) (hw _ wb_21) (fun _ h9 => h9) rfl (by decide +kernel) rfl rfl (Nat.le_of_ble_eq_true rfl) dX0_keepDraft_39 (fun H locs hP hD hS => ?_)
  have hP : va_P (dC, dI) cls2 (XW ax yx (cc + 1, tc, fc, hc, dr, dO, upd fC cc.toNatClampNeg dr, vp_updL fO cc.toNatClampNeg dO, upd fT cc.toNatClampNeg (vp_nar .boolean 1), fH)) H := hP
  have hD : va_D A (XW ax yx (cc + 1, tc, fc, hc, dr, dO, upd fC cc.toNatClampNeg dr, vp_updL fO cc.toNatClampNeg dO, upd fT cc.toNatClampNeg (vp_nar .boolean 1), fH)) := hD
  refine lv_aload_n hx hb dX0_keepDraft_42 rfl (lv_at hl 1 rfl) ?_
  refine lv_dup hx hb dX0_keepDraft_43 rfl ?_
  refine va_get (D := (dC, dI)) (ci := 0) (v := .int tc) (C := RX0) (T := TX0) (N := 10) hx hb hw inX0 hown hK hP 0 rfl rfl 5 (by decide) (hw _ wb_22) (fun _ h9 => h9) rfl dX0_keepDraft_44 ?_
  refine lv_iconst (v := 1) hx hb dX0_keepDraft_47 (by decide) ?_
  refine lv_iadd hx hb dX0_keepDraft_48 ?_
  refine va_put (D := (dC, dI)) (ci := 0) (v := .int (tc + 1)) (ty := .int) (C := RX0) (T := TX0) (N := 10) hx hb hw inX0 tyX0 tyX0_ok nmX0 hown hK hP hD hS 0 rfl rfl 5 (by decide) (hw _ wb_22) (fun _ h9 => h9) rfl (by decide +kernel) rfl rfl (Nat.le_of_ble_eq_true rfl) dX0_keepDraft_49 (fun H locs hP hD hS => ?_)
  have hP : va_P (dC, dI) cls2 (XW ax yx (cc + 1, tc + 1, fc, hc, dr, dO, upd fC cc.toNatClampNeg dr, vp_updL fO cc.toNatClampNeg dO, upd fT cc.toNatClampNeg (vp_nar .boolean 1), fH)) H := hP
  have hD : va_D A (XW ax yx (cc + 1, tc + 1, fc, hc, dr, dO, upd fC cc.toNatClampNeg dr, vp_updL fO cc.toNatClampNeg dO, upd fT cc.toNatClampNeg (vp_nar .boolean 1), fH)) := hD
  refine lv_aload_n hx hb dX0_keepDraft_52 rfl (lv_at hl 1 rfl) ?_
  have hFc := va_free (wc := XW ax yx (cc + 1, tc + 1, fc, hc, dr, dO, upd fC cc.toNatClampNeg dr, vp_updL fO cc.toNatClampNeg dO, upd fT cc.toNatClampNeg (vp_nar .boolean 1), fH)) hD hS hA [0, 1, 2, 3, 4] rfl
  refine va_callv (va_runV (As := []) (rest := []) ⟨hx, hb, hml, hown, hw⟩ (m_emptyDraft l dC dI ax yx H.size (cc + 1) (tc + 1) fc hc dr dO (upd fC cc.toNatClampNeg dr) (vp_updL fO cc.toNatClampNeg dO) (upd fT cc.toNatClampNeg (vp_nar .boolean 1)) fH) (cwV 0 hw (gw_V wb_64 wb_66 wbs_0 wb_1 wb_67) rfl rfl rfl (by decide +kernel) ⟨Nat.le_of_ble_eq_true rfl, Nat.le_of_ble_eq_true rfl⟩) ⟨blind_preX, va_recv hK hP (ci := 0) (q0 := 0) rfl rfl, fun U hU hW => ⟨rfl, by rw [hU], by rw [hU]; exact hP, va_K.moved hW.alike hK, hD.weaken (fun _ _ _ _ => trivial)⟩⟩ rfl rfl hl.1 rfl (lv_room (Nat.le_of_ble_eq_true rfl)) dX0_keepDraft_53 ⟨Nat.le_refl _, Nat.le_refl _⟩) hS (fun q _ h => hFc q h) hFc (fun u t H1 locs ht hvm hq hB hz1 hk1 hS => ?_)
  obtain rfl := hq
  obtain ⟨hP1, hK1, hD1⟩ := hB
  rw [ht] at hP1
  have hP : va_P (dC, dI) cls2 (XW ax yx (cc + 1, tc + 1, fc, hc, 0, 0, upd fC cc.toNatClampNeg dr, vp_updL fO cc.toNatClampNeg dO, upd fT cc.toNatClampNeg (vp_nar .boolean 1), fH)) H1 := hP1
  have hD : va_D A (XW ax yx (cc + 1, tc + 1, fc, hc, 0, 0, upd fC cc.toNatClampNeg dr, vp_updL fO cc.toNatClampNeg dO, upd fT cc.toNatClampNeg (vp_nar .boolean 1), fH)) := hD1.weaken (fun k q h _ => hFc q.1 (hD1.2 k q h))
  generalize H1 = H at hP hS ⊢
  refine lv_iload_n hx hb dX0_keepDraft_56 rfl (lv_at hl 0 rfl) ?_
  exact W.iret (v := cc) hx hb hrt (fun t ht hW => ⟨⟨_, _, rfl, ⟨rfl, rfl⟩, by rw [ht]; exact hP, va_K.moved hW.alike hK, hD⟩, hS.F ht⟩) hS.2.2 dX0_keepDraft_57
set_option maxHeartbeats 4000000 in
set_option maxRecDepth 100000 in
/-- clear -/
theorem m_clear (l : Launch) (dC : Nat → ClassId) (dI : Nat → Nat → Nat) (ax : Nat → Nat) (yx : Nat → ClassId) (sz0 : Nat) (cc tc fc hc dr : Int32) (dO : Int64) (fC : Nat → Int32) (fO : Nat → Int64) (fT fH : Nat → Int32)  : Met l yX0_clear wsX0_clear (rmN 2 0 0) (va_Pc [.ref (ax 0)] (preX dC dI ax yx sz0 (cc, tc, fc, hc, dr, dO, fC, fO, fT, fH))) (va_Qi (fun (r : Int32) (u : XS) => r = nI (pb_sz dr) + hc ∧ u = (cc, tc, fc, 0, 0, 0, fC, fO, fT, fH)) (atX dC dI (va_A (XW ax yx (cc, tc, fc, hc, dr, dO, fC, fO, fT, fH)) sz0) ax yx) (va_A (XW ax yx (cc, tc, fc, hc, dr, dO, fC, fO, fT, fH)) sz0)) 0 0 (va_A (XW ax yx (cc, tc, fc, hc, dr, dO, fC, fO, fT, fH)) sz0) := by
  refine Met.ofW (cc := cX0_clear) (maxL := 2) (ret := (some .int)) (by decide) rfl ?_
  intro p e s m args below meth c s₁ B hml hv
  obtain ⟨rfl, hsz, hP, hK, hD0⟩ := hv
  have hx := B.exec
  have hb := B.bytes
  have hrt := B.returns
  have hlocks := B.notSynchronized
  have hts := atoms_spec (ws := wsX0_clear) B.pre
  have hw : ∀ w ∈ WB, w.before ([.ref (ax 0)] : List Value).toArray s = true := fun w h => hts w (List.mem_cons_of_mem _ h)
  have hown : s.vm.findClass "ProofBench" = some m.cls := findClass_of_methodNamed B.named
  subst hsz
  have hD := hD0.self (sz := s.heap.size)
  generalize hAe : va_A (XW ax yx (cc, tc, fc, hc, dr, dO, fC, fO, fT, fH)) s.heap.size = A at hD ⊢
  have hA : ∀ q : Nat, s.heap.size ≤ q → A q := fun q h => by rw [← hAe]; exact Or.inr h
  have hS : va_S A s.heap s.heap [] := va_S.rf
  have hP : va_P (dC, dI) cls2 (XW ax yx (cc, tc, fc, hc, dr, dO, fC, fO, fT, fH)) s.heap := hP
  have hl := lv_entry ([.ref (ax 0)]) (n := 2) (Nat.le_of_ble_eq_true rfl)
  rw [lg_entry_eq]
  generalize (lg_sl ([.ref (ax 0)]) ++ List.replicate (2 - (lg_sl ([.ref (ax 0)])).length) Slot.unset).toArray = ls at hl ⊢
  have hl : lv_has ls 2 [(0, .ref (ax 0))] := hl
  refine lv_aload_n hx hb dX0_clear_0 rfl (lv_at hl 0 rfl) ?_
  refine va_get (D := (dC, dI)) (ci := 0) (v := .int dr) (C := RX0) (T := TX0) (N := 10) hx hb hw inX0 hown hK hP 0 rfl rfl 8 (by decide) (hw _ wb_25) (fun _ h9 => h9) rfl dX0_clear_1 ?_
  refine vp_callSi (W.runS (As := [.int dr]) (rest := []) ⟨hx, hb, hml, hown, hw⟩ (m_sizeOf l dr) (va_cwS 1 hw (gw_S wb_55 wb_56 wb_1 wb_57) rfl rfl rfl (by decide +kernel) ⟨Nat.le_of_ble_eq_true rfl, Nat.le_of_ble_eq_true rfl⟩) preEq rfl rfl hl.1 rfl (lv_room (Nat.le_of_ble_eq_true rfl)) dX0_clear_4 ⟨Nat.le_refl _, Nat.le_refl _⟩) (fun r1 h1 => ?_)
  refine lv_aload_n hx hb dX0_clear_7 rfl (lv_at hl 0 rfl) ?_
  refine va_get (D := (dC, dI)) (ci := 0) (v := .int hc) (C := RX0) (T := TX0) (N := 10) hx hb hw inX0 hown hK hP 0 rfl rfl 7 (by decide) (hw _ wb_24) (fun _ h9 => h9) rfl dX0_clear_8 ?_
  refine lv_iadd hx hb dX0_clear_11 ?_
  refine lv_istore_n (lv' := [(1, .int (r1 + hc)), (0, .ref (ax 0))]) hx hb dX0_clear_12 rfl hl (by decide) rfl (fun ls hl => ?_)
  refine lv_aload_n hx hb dX0_clear_13 rfl (lv_at hl 1 rfl) ?_
  have hS0 := hS
  have hFc := va_free (wc := XW ax yx (cc, tc, fc, hc, dr, dO, fC, fO, fT, fH)) hD hS hA [0, 1, 2, 3, 4] rfl
  refine va_callv (va_runV (As := []) (rest := []) ⟨hx, hb, hml, hown, hw⟩ (m_emptyDraft l dC dI ax yx s.heap.size cc tc fc hc dr dO fC fO fT fH) (cwV 0 hw (gw_V wb_64 wb_66 wbs_0 wb_1 wb_67) rfl rfl rfl (by decide +kernel) ⟨Nat.le_of_ble_eq_true rfl, Nat.le_of_ble_eq_true rfl⟩) ⟨blind_preX, va_recv hK hP (ci := 0) (q0 := 0) rfl rfl, fun U hU hW => ⟨rfl, by rw [hU], by rw [hU]; exact hP, va_K.moved hW.alike hK, hD.weaken (fun _ _ _ _ => trivial)⟩⟩ rfl rfl hl.1 rfl (lv_room (Nat.le_of_ble_eq_true rfl)) dX0_clear_14 ⟨Nat.le_refl _, Nat.le_refl _⟩) hS (fun q _ h => hFc q h) hFc (fun u t H1 locs ht hvm hq hB hz1 hk1 hS => ?_)
  obtain rfl := hq
  obtain ⟨hP1, hK1, hD1⟩ := hB
  rw [ht] at hP1
  have hP : va_P (dC, dI) cls2 (XW ax yx (cc, tc, fc, hc, 0, 0, fC, fO, fT, fH)) H1 := hP1
  have hD : va_D A (XW ax yx (cc, tc, fc, hc, 0, 0, fC, fO, fT, fH)) := hD1.weaken (fun k q h _ => hFc q.1 (hD1.2 k q h))
  generalize H1 = H at hP hS ⊢
  refine lv_aload_n hx hb dX0_clear_17 rfl (lv_at hl 1 rfl) ?_
  refine lv_iconst (v := 0) hx hb dX0_clear_18 (by decide) ?_
  refine va_put (D := (dC, dI)) (ci := 0) (v := .int 0) (ty := .int) (C := RX0) (T := TX0) (N := 10) hx hb hw inX0 tyX0 tyX0_ok nmX0 hown hK hP hD hS 0 rfl rfl 7 (by decide) (hw _ wb_24) (fun _ h9 => h9) rfl (by decide +kernel) rfl rfl (Nat.le_of_ble_eq_true rfl) dX0_clear_19 (fun H locs hP hD hS => ?_)
  have hP : va_P (dC, dI) cls2 (XW ax yx (cc, tc, fc, 0, 0, 0, fC, fO, fT, fH)) H := hP
  have hD : va_D A (XW ax yx (cc, tc, fc, 0, 0, 0, fC, fO, fT, fH)) := hD
  refine lv_iload_n hx hb dX0_clear_22 rfl (lv_at hl 0 rfl) ?_
  exact W.iret (v := r1 + hc) hx hb hrt (fun t ht hW => ⟨⟨_, _, rfl, ⟨by rw [h1], rfl⟩, by rw [ht]; exact hP, va_K.moved hW.alike hK, hD⟩, hS.F ht⟩) hS.2.2 dX0_clear_23
set_option maxHeartbeats 4000000 in
set_option maxRecDepth 100000 in
/-- isOver -/
theorem m_isOver (l : Launch) (dC : Nat → ClassId) (dI : Nat → Nat → Nat) (ax : Nat → Nat) (yx : Nat → ClassId) (cc tc fc hc dr : Int32) (dO : Int64) (fC : Nat → Int32) (fO : Nat → Int64) (fT fH : Nat → Int32)  (n : Nat) (hn : n ≤ 600) (ecc : cc = nI n) : Met l yX0_isOver wsX0_isOver (rmN 0 0 0) (va_Pc [.ref (ax 0)] (rdX dC dI ax yx (cc, tc, fc, hc, dr, dO, fC, fO, fT, fH))) (vp_Si (fun r => r = ov_scan fC fT n 0)) 0 0 (fun _ => False) := by
  refine Met.ofW (cc := cX0_isOver) (maxL := 2) (ret := (some .boolean)) (by decide) rfl ?_
  intro p e s m args below meth c s₁ B hml hv
  obtain ⟨rfl, hP, hK⟩ := hv
  have hx := B.exec
  have hb := B.bytes
  have hrt := B.returns
  have hlocks := B.notSynchronized
  have hts := atoms_spec (ws := wsX0_isOver) B.pre
  have hw : ∀ w ∈ WB, w.before ([.ref (ax 0)] : List Value).toArray s = true := fun w h => hts w (List.mem_cons_of_mem _ h)
  have hown : s.vm.findClass "ProofBench" = some m.cls := findClass_of_methodNamed B.named
  have hP : va_P (dC, dI) cls2 (XW ax yx (cc, tc, fc, hc, dr, dO, fC, fO, fT, fH)) s.heap := hP
  have hl := lv_entry ([.ref (ax 0)]) (n := 2) (Nat.le_of_ble_eq_true rfl)
  rw [lg_entry_eq]
  generalize (lg_sl ([.ref (ax 0)]) ++ List.replicate (2 - (lg_sl ([.ref (ax 0)])).length) Slot.unset).toArray = ls at hl ⊢
  have hl : lv_has ls 2 [(0, .ref (ax 0))] := hl
  refine lv_iconst (v := 0) hx hb dX0_isOver_0 (by decide) ?_
  refine lv_istore_n (lv' := [(1, .int 0), (0, .ref (ax 0))]) hx hb dX0_isOver_1 rfl hl (by decide) rfl (fun ls hl => ?_)
  have loop : ∀ (k i : Nat), i + k = n → ov_scan fC fT n 0 = ov_scan fC fT k i → ∀ ls, lv_has ls 2 [(1, .int (nI i)), (0, .ref (ax 0))] → W p l e (headSpec wsX0_isOver (rmN 0 0 0)).room s m ([.ref (ax 0)] : List Value).toArray below meth c s.heap [] 0 0 (MQ below (vp_Si (fun r => r = ov_scan fC fT n 0)) ([.ref (ax 0)] : List Value).toArray s 0 0 (fun _ => False)) (F0 m 2 ls []) := by
    intro k
    induction k with
    | zero =>
      intro i hk hq ls hl
      have e0 : i = n := by omega
      refine lv_iload_n hx hb dX0_isOver_2 rfl (lv_at hl 0 rfl) ?_
      refine lv_aload_n hx hb dX0_isOver_3 rfl (lv_at hl 1 rfl) ?_
      refine va_get (D := (dC, dI)) (ci := 0) (v := .int cc) (C := RX0) (T := TX0) (N := 10) hx hb hw inX0 hown hK hP 0 rfl rfl 4 (by decide) (hw _ wb_21) (fun _ h9 => h9) rfl dX0_isOver_4 ?_
      refine lv_icmp_ge (tgt := 36) hx hb dX0_isOver_7 (by decide) (fun c1 => ?_) (fun c1 => ?_)
      · skip
        refine lv_iconst (v := 0) hx hb dX0_isOver_36 (by decide) ?_
        exact W.zret (v := 0) hx hb hrt (by decide) (fun t ht hW => ⟨_, rfl, by rw [hq]; rfl, ht⟩) (fun q h => nomatch h) dX0_isOver_37
      · skip
        exact absurd (by rw [ecc, e0]; exact Int32.le_refl _) c1
    | succ k ih =>
      intro i hk hq ls hl
      have ci : (nI i).toNatClampNeg = i := nI_clamp (by omega)
      have hin : vp_in (nI i) 600 := vp_in_nI (by omega) (by decide)
      refine lv_iload_n hx hb dX0_isOver_2 rfl (lv_at hl 0 rfl) ?_
      refine lv_aload_n hx hb dX0_isOver_3 rfl (lv_at hl 1 rfl) ?_
      refine va_get (D := (dC, dI)) (ci := 0) (v := .int cc) (C := RX0) (T := TX0) (N := 10) hx hb hw inX0 hown hK hP 0 rfl rfl 4 (by decide) (hw _ wb_21) (fun _ h9 => h9) rfl dX0_isOver_4 ?_
      refine lv_icmp_ge (tgt := 36) hx hb dX0_isOver_7 (by decide) (fun c1 => ?_) (fun c1 => ?_)
      · skip
        exact absurd (by rw [ecc] at c1; exact c1) (nI_ge (by omega) (by omega))
      · skip
        refine lv_aload_n hx hb dX0_isOver_10 rfl (lv_at hl 1 rfl) ?_
        refine va_get (D := (dC, dI)) (ci := 0) (v := .ref (ax 3)) (C := RX0) (T := TX0) (N := 10) hx hb hw inX0 hown hK hP 0 rfl rfl 2 (by decide) (hw _ wb_19) (fun _ h9 => h9) rfl dX0_isOver_11 ?_
        refine lv_iload_n hx hb dX0_isOver_14 rfl (lv_at hl 0 rfl) ?_
        refine va_zald hx hb hK hP 3 2 rfl rfl hin dX0_isOver_15 ?_
        rw [ci]
        refine lv_if_eq (tgt := 30) hx hb dX0_isOver_16 (by decide) (fun c2 => ?_) (fun c2 => ?_)
        · skip
          refine lv_iinc (v := (nI i) + 1) (lv' := [(1, .int ((nI i) + 1)), (0, .ref (ax 0))]) hx hb dX0_isOver_30 hl (k := 0) rfl rfl (by decide) rfl (fun ls hl => ?_)
          refine lv_goto (tgt := 2) hx hb dX0_isOver_33 (by decide) ?_
          rw [nI_1] at hl
          exact ih (i + 1) (by omega) (by rw [hq]; exact if_neg (fun h => h.1 c2)) ls hl
        · skip
          refine lv_aload_n hx hb dX0_isOver_19 rfl (lv_at hl 1 rfl) ?_
          refine va_get (D := (dC, dI)) (ci := 0) (v := .ref (ax 1)) (C := RX0) (T := TX0) (N := 10) hx hb hw inX0 hown hK hP 0 rfl rfl 0 (by decide) (hw _ wb_17) (fun _ h9 => h9) rfl dX0_isOver_20 ?_
          refine lv_iload_n hx hb dX0_isOver_23 rfl (lv_at hl 0 rfl) ?_
          refine va_iald hx hb hK hP 1 0 rfl rfl hin dX0_isOver_24 ?_
          rw [ci]
          refine lv_if_ne (tgt := 30) hx hb dX0_isOver_25 (by decide) (fun c3 => ?_) (fun c3 => ?_)
          · skip
            refine lv_iinc (v := (nI i) + 1) (lv' := [(1, .int ((nI i) + 1)), (0, .ref (ax 0))]) hx hb dX0_isOver_30 hl (k := 0) rfl rfl (by decide) rfl (fun ls hl => ?_)
            refine lv_goto (tgt := 2) hx hb dX0_isOver_33 (by decide) ?_
            rw [nI_1] at hl
            exact ih (i + 1) (by omega) (by rw [hq]; exact if_neg (fun h => c3 h.2)) ls hl
          · skip
            refine lv_iconst (v := 1) hx hb dX0_isOver_28 (by decide) ?_
            exact W.zret (v := 1) hx hb hrt (by decide) (fun t ht hW => ⟨_, rfl, by rw [hq]; exact (if_pos ⟨c2, c3⟩).symm, ht⟩) (fun q h => nomatch h) dX0_isOver_29
  exact loop n 0 (by omega) rfl ls hl
set_option maxHeartbeats 4000000 in
set_option maxRecDepth 100000 in
/-- told -/
theorem m_told (l : Launch) (dC : Nat → ClassId) (dI : Nat → Nat → Nat) (ax : Nat → Nat) (yx : Nat → ClassId) (cc tc fc hc dr : Int32) (dO : Int64) (fC : Nat → Int32) (fO : Nat → Int64) (fT fH : Nat → Int32)  (n : Nat) (hn : n ≤ 600) (ecc : cc = nI n) : Met l yX0_told wsX0_told (rmN 3 0 0) (va_Pc [.ref (ax 0)] (rdX dC dI ax yx (cc, tc, fc, hc, dr, dO, fC, fO, fT, fH))) (vp_Si (fun r => r = td_val (tl_rounds fC fT n 17 dr) dr)) 0 0 (fun _ => False) := by
  refine Met.ofW (cc := cX0_told) (maxL := 5) (ret := (some .int)) (by decide) rfl ?_
  intro p e s m args below meth c s₁ B hml hv
  obtain ⟨rfl, hP, hK⟩ := hv
  have hx := B.exec
  have hb := B.bytes
  have hrt := B.returns
  have hlocks := B.notSynchronized
  have hts := atoms_spec (ws := wsX0_told) B.pre
  have hw : ∀ w ∈ WB, w.before ([.ref (ax 0)] : List Value).toArray s = true := fun w h => hts w (List.mem_cons_of_mem _ h)
  have hown : s.vm.findClass "ProofBench" = some m.cls := findClass_of_methodNamed B.named
  have hP : va_P (dC, dI) cls2 (XW ax yx (cc, tc, fc, hc, dr, dO, fC, fO, fT, fH)) s.heap := hP
  have hl := lv_entry ([.ref (ax 0)]) (n := 5) (Nat.le_of_ble_eq_true rfl)
  rw [lg_entry_eq]
  generalize (lg_sl ([.ref (ax 0)]) ++ List.replicate (5 - (lg_sl ([.ref (ax 0)])).length) Slot.unset).toArray = ls at hl ⊢
  have hl : lv_has ls 5 [(0, .ref (ax 0))] := hl
  refine lv_aload_n hx hb dX0_told_0 rfl (lv_at hl 0 rfl) ?_
  refine va_get (D := (dC, dI)) (ci := 0) (v := .int dr) (C := RX0) (T := TX0) (N := 10) hx hb hw inX0 hown hK hP 0 rfl rfl 8 (by decide) (hw _ wb_25) (fun _ h9 => h9) rfl dX0_told_1 ?_
  refine lv_istore_n (lv' := [(1, .int dr), (0, .ref (ax 0))]) hx hb dX0_told_4 rfl hl (by decide) rfl (fun ls hl => ?_)
  refine lv_iconst (v := 0) hx hb dX0_told_5 (by decide) ?_
  refine lv_istore_n (lv' := [(2, .int 0), (1, .int dr), (0, .ref (ax 0))]) hx hb dX0_told_6 rfl hl (by decide) rfl (fun ls hl => ?_)
  have inner : ∀ (k i : Nat) (f v2 v3 : Int32), i + k = n → (∀ g, tl_scan fC fT k i f = some g → ∀ ls, lv_has ls 5 [(1, .int g), (2, .int v2), (3, .int v3), (0, .ref (ax 0))] → W p l e (headSpec wsX0_told (rmN 3 0 0)).room s m ([.ref (ax 0)] : List Value).toArray below meth c s.heap [] 0 0 (MQ below (vp_Si (fun r => r = td_val (tl_rounds fC fT n 17 dr) dr)) ([.ref (ax 0)] : List Value).toArray s 0 0 (fun _ => False)) (F0 m 77 ls [])) → (tl_scan fC fT k i f = none → tl_rounds fC fT n 17 dr = none) → ∀ ls, lv_has ls 5 [(4, .int (nI i)), (1, .int f), (2, .int v2), (3, .int v3), (0, .ref (ax 0))] → W p l e (headSpec wsX0_told (rmN 3 0 0)).room s m ([.ref (ax 0)] : List Value).toArray below meth c s.heap [] 0 0 (MQ below (vp_Si (fun r => r = td_val (tl_rounds fC fT n 17 dr) dr)) ([.ref (ax 0)] : List Value).toArray s 0 0 (fun _ => False)) (F0 m 18 ls []) := by
    intro k
    induction k with
    | zero =>
      intro i f v2 v3 hk h1 h2 ls hl
      have e0 : i = n := by omega
      refine lv_iload hx hb dX0_told_18 (lv_at hl 0 rfl) ?_
      refine lv_aload_n hx hb dX0_told_20 rfl (lv_at hl 4 rfl) ?_
      refine va_get (D := (dC, dI)) (ci := 0) (v := .int cc) (C := RX0) (T := TX0) (N := 10) hx hb hw inX0 hown hK hP 0 rfl rfl 4 (by decide) (hw _ wb_21) (fun _ h9 => h9) rfl dX0_told_21 ?_
      refine lv_icmp_ge (tgt := 77) hx hb dX0_told_24 (by decide) (fun c1 => ?_) (fun c1 => ?_)
      · skip
        exact h1 f rfl ls (lv_sub hl [1, 2, 3, 4] rfl)
      · skip
        exact absurd (by rw [ecc, e0]; exact Int32.le_refl _) c1
    | succ k ih =>
      intro i f v2 v3 hk h1 h2 ls hl
      have ci : (nI i).toNatClampNeg = i := nI_clamp (by omega)
      have hin : vp_in (nI i) 600 := vp_in_nI (by omega) (by decide)
      refine lv_iload hx hb dX0_told_18 (lv_at hl 0 rfl) ?_
      refine lv_aload_n hx hb dX0_told_20 rfl (lv_at hl 4 rfl) ?_
      refine va_get (D := (dC, dI)) (ci := 0) (v := .int cc) (C := RX0) (T := TX0) (N := 10) hx hb hw inX0 hown hK hP 0 rfl rfl 4 (by decide) (hw _ wb_21) (fun _ h9 => h9) rfl dX0_told_21 ?_
      refine lv_icmp_ge (tgt := 77) hx hb dX0_told_24 (by decide) (fun c1 => ?_) (fun c1 => ?_)
      · skip
        exact absurd (by rw [ecc] at c1; exact c1) (nI_ge (by omega) (by omega))
      · skip
        refine lv_aload_n hx hb dX0_told_27 rfl (lv_at hl 4 rfl) ?_
        refine va_get (D := (dC, dI)) (ci := 0) (v := .ref (ax 3)) (C := RX0) (T := TX0) (N := 10) hx hb hw inX0 hown hK hP 0 rfl rfl 2 (by decide) (hw _ wb_19) (fun _ h9 => h9) rfl dX0_told_28 ?_
        refine lv_iload hx hb dX0_told_31 (lv_at hl 0 rfl) ?_
        refine va_zald hx hb hK hP 3 2 rfl rfl hin dX0_told_33 ?_
        rw [ci]
        refine lv_if_eq (tgt := 71) hx hb dX0_told_34 (by decide) (fun c2 => ?_) (fun c2 => ?_)
        · skip
          have es : tl_scan fC fT (k + 1) i f = tl_scan fC fT k (i + 1) f := if_pos c2
          refine lv_iinc (v := (nI i) + 1) (lv' := [(4, .int ((nI i) + 1)), (1, .int f), (2, .int v2), (3, .int v3), (0, .ref (ax 0))]) hx hb dX0_told_71 hl (k := 0) rfl rfl (by decide) rfl (fun ls hl => ?_)
          refine lv_goto (tgt := 18) hx hb dX0_told_74 (by decide) ?_
          rw [nI_1] at hl
          exact ih (i + 1) f v2 v3 (by omega) (fun g hg => h1 g (es.trans hg)) (fun hg => h2 (es.trans hg)) ls (lv_sub hl [0, 1, 2, 3, 4] rfl)
        · skip
          refine lv_aload_n hx hb dX0_told_37 rfl (lv_at hl 4 rfl) ?_
          refine va_get (D := (dC, dI)) (ci := 0) (v := .ref (ax 1)) (C := RX0) (T := TX0) (N := 10) hx hb hw inX0 hown hK hP 0 rfl rfl 0 (by decide) (hw _ wb_17) (fun _ h9 => h9) rfl dX0_told_38 ?_
          refine lv_iload hx hb dX0_told_41 (lv_at hl 0 rfl) ?_
          refine va_iald hx hb hK hP 1 0 rfl rfl hin dX0_told_43 ?_
          rw [ci]
          refine lv_iload_n hx hb dX0_told_44 rfl (lv_at hl 1 rfl) ?_
          refine vp_callSi (W.runS (As := [.int (fC i), .int f]) (rest := []) ⟨hx, hb, hml, hown, hw⟩ (m_isWrong l (fC i) f) (va_cwS 2 hw (gw_S wb_72 wb_73 wb_1 wb_74) rfl rfl rfl (by decide +kernel) ⟨Nat.le_of_ble_eq_true rfl, Nat.le_of_ble_eq_true rfl⟩) preEq rfl rfl hl.1 rfl (lv_room (Nat.le_of_ble_eq_true rfl)) dX0_told_45 ⟨Nat.le_refl _, Nat.le_refl _⟩) (fun r1 hr1 => ?_)
          refine lv_if_eq (tgt := 54) hx hb dX0_told_48 (by decide) (fun c3 => ?_) (fun c3 => ?_)
          · skip
            have n0 : ¬ mk_rest (fC i) f = 0 := fun h => by rw [hr1, if_pos h] at c3; exact absurd c3 (by decide)
            have es : tl_scan fC fT (k + 1) i f = tl_scan fC fT k (i + 1) (f ||| mk_neg (mk_told (fC i) f)) := (if_neg c2).trans (if_neg n0)
            refine lv_iload_n hx hb dX0_told_54 rfl (lv_at hl 1 rfl) ?_
            refine lv_aload_n hx hb dX0_told_55 rfl (lv_at hl 4 rfl) ?_
            refine va_get (D := (dC, dI)) (ci := 0) (v := .ref (ax 1)) (C := RX0) (T := TX0) (N := 10) hx hb hw inX0 hown hK hP 0 rfl rfl 0 (by decide) (hw _ wb_17) (fun _ h9 => h9) rfl dX0_told_56 ?_
            refine lv_iload hx hb dX0_told_59 (lv_at hl 0 rfl) ?_
            refine va_iald hx hb hK hP 1 0 rfl rfl hin dX0_told_61 ?_
            rw [ci]
            refine lv_iload_n hx hb dX0_told_62 rfl (lv_at hl 1 rfl) ?_
            refine vp_callSi (W.runS (As := [.int (fC i), .int f]) (rest := [.int f]) ⟨hx, hb, hml, hown, hw⟩ (m_toldBy l (fC i) f) (va_cwS 2 hw (gw_S wb_75 wb_76 wb_1 wb_77) rfl rfl rfl (by decide +kernel) ⟨Nat.le_of_ble_eq_true rfl, Nat.le_of_ble_eq_true rfl⟩) preEq rfl rfl hl.1 rfl (lv_room (Nat.le_of_ble_eq_true rfl)) dX0_told_63 ⟨Nat.le_refl _, Nat.le_refl _⟩) (fun r2 hr2 => ?_)
            subst hr2
            refine vp_callSi (W.runS (As := [.int (mk_told (fC i) f)]) (rest := [.int f]) ⟨hx, hb, hml, hown, hw⟩ (m_negated l (mk_told (fC i) f)) (va_cwS 1 hw (gw_S wb_78 wb_79 wb_1 wb_80) rfl rfl rfl (by decide +kernel) ⟨Nat.le_of_ble_eq_true rfl, Nat.le_of_ble_eq_true rfl⟩) preEq rfl rfl hl.1 rfl (lv_room (Nat.le_of_ble_eq_true rfl)) dX0_told_66 ⟨Nat.le_refl _, Nat.le_refl _⟩) (fun r3 hr3 => ?_)
            subst hr3
            refine lv_ior hx hb dX0_told_69 ?_
            refine lv_istore_n (lv' := [(1, .int (f ||| (mk_neg (mk_told (fC i) f)))), (4, .int (nI i)), (2, .int v2), (3, .int v3), (0, .ref (ax 0))]) hx hb dX0_told_70 rfl hl (by decide) rfl (fun ls hl => ?_)
            refine lv_iinc (v := (nI i) + 1) (lv' := [(4, .int ((nI i) + 1)), (1, .int (f ||| (mk_neg (mk_told (fC i) f)))), (2, .int v2), (3, .int v3), (0, .ref (ax 0))]) hx hb dX0_told_71 hl (k := 1) rfl rfl (by decide) rfl (fun ls hl => ?_)
            refine lv_goto (tgt := 18) hx hb dX0_told_74 (by decide) ?_
            rw [nI_1] at hl
            exact ih (i + 1) _ v2 v3 (by omega) (fun g hg => h1 g (es.trans hg)) (fun hg => h2 (es.trans hg)) ls (lv_sub hl [0, 1, 2, 3, 4] rfl)
          · skip
            have y0 : mk_rest (fC i) f = 0 := Classical.byContradiction fun h => c3 (by rw [hr1, if_neg h])
            have es : tl_scan fC fT (k + 1) i f = none := (if_neg c2).trans (if_pos y0)
            refine lv_bipush (v := 17) hx hb dX0_told_51 (by decide) ?_
            exact W.iret (v := 17) hx hb hrt (fun t ht hW => ⟨_, rfl, by rw [h2 es]; rfl, ht⟩) (fun q h => nomatch h) dX0_told_53
  have outer : ∀ (k j : Nat) (f : Int32), j + k = 17 → tl_rounds fC fT n 17 dr = tl_rounds fC fT n k f → ∀ ls, lv_has ls 5 [(2, .int (nI j)), (1, .int f), (0, .ref (ax 0))] → W p l e (headSpec wsX0_told (rmN 3 0 0)).room s m ([.ref (ax 0)] : List Value).toArray below meth c s.heap [] 0 0 (MQ below (vp_Si (fun r => r = td_val (tl_rounds fC fT n 17 dr) dr)) ([.ref (ax 0)] : List Value).toArray s 0 0 (fun _ => False)) (F0 m 7 ls []) := by
    have fin : ∀ (f : Int32), tl_rounds fC fT n 17 dr = some f → ∀ ls, lv_has ls 5 [(1, .int f), (0, .ref (ax 0))] → W p l e (headSpec wsX0_told (rmN 3 0 0)).room s m ([.ref (ax 0)] : List Value).toArray below meth c s.heap [] 0 0 (MQ below (vp_Si (fun r => r = td_val (tl_rounds fC fT n 17 dr) dr)) ([.ref (ax 0)] : List Value).toArray s 0 0 (fun _ => False)) (F0 m 91 ls []) := by
      intro f hq ls hl
      refine lv_iload_n hx hb dX0_told_91 rfl (lv_at hl 0 rfl) ?_
      refine vp_callSi (W.runS (As := [.int f]) (rest := []) ⟨hx, hb, hml, hown, hw⟩ (m_sizeOf l f) (va_cwS 1 hw (gw_S wb_55 wb_56 wb_1 wb_57) rfl rfl rfl (by decide +kernel) ⟨Nat.le_of_ble_eq_true rfl, Nat.le_of_ble_eq_true rfl⟩) preEq rfl rfl hl.1 rfl (lv_room (Nat.le_of_ble_eq_true rfl)) dX0_told_92 ⟨Nat.le_refl _, Nat.le_refl _⟩) (fun r1 hr1 => ?_)
      refine lv_aload_n hx hb dX0_told_95 rfl (lv_at hl 1 rfl) ?_
      refine va_get (D := (dC, dI)) (ci := 0) (v := .int dr) (C := RX0) (T := TX0) (N := 10) hx hb hw inX0 hown hK hP 0 rfl rfl 8 (by decide) (hw _ wb_25) (fun _ h9 => h9) rfl dX0_told_96 ?_
      refine vp_callSi (W.runS (As := [.int dr]) (rest := [.int r1]) ⟨hx, hb, hml, hown, hw⟩ (m_sizeOf l dr) (va_cwS 1 hw (gw_S wb_55 wb_56 wb_1 wb_57) rfl rfl rfl (by decide +kernel) ⟨Nat.le_of_ble_eq_true rfl, Nat.le_of_ble_eq_true rfl⟩) preEq rfl rfl hl.1 rfl (lv_room (Nat.le_of_ble_eq_true rfl)) dX0_told_99 ⟨Nat.le_refl _, Nat.le_refl _⟩) (fun r2 hr2 => ?_)
      refine lv_isub hx hb dX0_told_102 ?_
      exact W.iret (v := r1 - r2) hx hb hrt (fun t ht hW => ⟨_, rfl, by rw [hq, hr1, hr2]; rfl, ht⟩) (fun q h => nomatch h) dX0_told_103
    intro k
    induction k with
    | zero =>
      intro j f hk hq ls hl
      have e0 : j = 17 := by omega
      subst e0
      refine lv_iload_n hx hb dX0_told_7 rfl (lv_at hl 0 rfl) ?_
      refine lv_bipush (v := 16) hx hb dX0_told_8 (by decide) ?_
      refine lv_icmp_gt (tgt := 91) hx hb dX0_told_10 (by decide) (fun c1 => ?_) (fun c1 => ?_)
      · skip
        exact fin f hq ls (lv_sub hl [1, 2] rfl)
      · skip
        exact absurd (by decide) c1
    | succ k ih =>
      intro j f hk hq ls hl
      refine lv_iload_n hx hb dX0_told_7 rfl (lv_at hl 0 rfl) ?_
      refine lv_bipush (v := 16) hx hb dX0_told_8 (by decide) ?_
      refine lv_icmp_gt (tgt := 91) hx hb dX0_told_10 (by decide) (fun c1 => ?_) (fun c1 => ?_)
      · skip
        exact absurd (show nI 16 < nI j from c1) (nI_nlt (by omega) (by omega))
      · skip
        refine lv_iload_n hx hb dX0_told_13 rfl (lv_at hl 1 rfl) ?_
        refine lv_istore_n (lv' := [(3, .int f), (2, .int (nI j)), (1, .int f), (0, .ref (ax 0))]) hx hb dX0_told_14 rfl hl (by decide) rfl (fun ls hl => ?_)
        refine lv_iconst (v := 0) hx hb dX0_told_15 (by decide) ?_
        refine lv_istore (lv' := [(4, .int 0), (3, .int f), (2, .int (nI j)), (1, .int f), (0, .ref (ax 0))]) hx hb dX0_told_16 hl (by decide) rfl (fun ls hl => ?_)
        refine inner n 0 f (nI j) f (by omega) ?_ (fun hg => by rw [hq]; show (match tl_scan fC fT n 0 f with | none => none | some g => if g = f then some g else tl_rounds fC fT n k g) = none; rw [hg]) ls (lv_sub hl [0, 3, 2, 1, 4] rfl)
        intro g hg ls hl
        have e2 : tl_rounds fC fT n 17 dr = if g = f then some g else tl_rounds fC fT n k g := by rw [hq]; show (match tl_scan fC fT n 0 f with | none => none | some g => if g = f then some g else tl_rounds fC fT n k g) = _; rw [hg]
        refine lv_iload_n hx hb dX0_told_77 rfl (lv_at hl 0 rfl) ?_
        refine lv_iload_n hx hb dX0_told_78 rfl (lv_at hl 2 rfl) ?_
        refine lv_icmp_ne (tgt := 85) hx hb dX0_told_79 (by decide) (fun c2 => ?_) (fun c2 => ?_)
        · skip
          rw [if_neg c2] at e2
          refine lv_iinc (v := (nI j) + 1) (lv' := [(2, .int ((nI j) + 1)), (1, .int g), (3, .int f), (0, .ref (ax 0))]) hx hb dX0_told_85 hl (k := 1) rfl rfl (by decide) rfl (fun ls hl => ?_)
          refine lv_goto (tgt := 7) hx hb dX0_told_88 (by decide) ?_
          rw [nI_1] at hl
          exact ih (j + 1) g (by omega) e2 ls (lv_sub hl [0, 1, 3] rfl)
        · skip
          rw [if_pos c2] at e2
          refine lv_goto (tgt := 91) hx hb dX0_told_82 (by decide) ?_
          exact fin g e2 ls (lv_sub hl [0, 3] rfl)
  exact outer 17 0 dr rfl rfl ls (lv_sub hl [0, 1, 2] rfl)
set_option maxHeartbeats 4000000 in
set_option maxRecDepth 100000 in
/-- firstBadHint -/
theorem m_firstBadHint (l : Launch) (dC : Nat → ClassId) (dI : Nat → Nat → Nat) (ax : Nat → Nat) (yx : Nat → ClassId) (cc tc fc hc dr : Int32) (dO : Int64) (fC : Nat → Int32) (fO : Nat → Int64) (fT fH : Nat → Int32)  (n : Nat) (hn : n ≤ 600) (ecc : cc = nI n) (q : Nat) (hq40 : q ≤ 40) (ehc : hc = nI q) : Met l yX0_firstBadHint wsX0_firstBadHint (rmN 3 0 0) (va_Pc [.ref (ax 0)] (rdX dC dI ax yx (cc, tc, fc, hc, dr, dO, fC, fO, fT, fH))) (vp_Si (fun r => r = bh_scan cc fC fT fH q 0 dr)) 0 0 (fun _ => False) := by
  refine Met.ofW (cc := cX0_firstBadHint) (maxL := 5) (ret := (some .int)) (by decide) rfl ?_
  intro p e s m args below meth c s₁ B hml hv
  obtain ⟨rfl, hP, hK⟩ := hv
  have hx := B.exec
  have hb := B.bytes
  have hrt := B.returns
  have hlocks := B.notSynchronized
  have hts := atoms_spec (ws := wsX0_firstBadHint) B.pre
  have hw : ∀ w ∈ WB, w.before ([.ref (ax 0)] : List Value).toArray s = true := fun w h => hts w (List.mem_cons_of_mem _ h)
  have hown : s.vm.findClass "ProofBench" = some m.cls := findClass_of_methodNamed B.named
  have hP : va_P (dC, dI) cls2 (XW ax yx (cc, tc, fc, hc, dr, dO, fC, fO, fT, fH)) s.heap := hP
  have hl := lv_entry ([.ref (ax 0)]) (n := 5) (Nat.le_of_ble_eq_true rfl)
  rw [lg_entry_eq]
  generalize (lg_sl ([.ref (ax 0)]) ++ List.replicate (5 - (lg_sl ([.ref (ax 0)])).length) Slot.unset).toArray = ls at hl ⊢
  have hl : lv_has ls 5 [(0, .ref (ax 0))] := hl
  refine lv_aload_n hx hb dX0_firstBadHint_0 rfl (lv_at hl 0 rfl) ?_
  refine va_get (D := (dC, dI)) (ci := 0) (v := .int dr) (C := RX0) (T := TX0) (N := 10) hx hb hw inX0 hown hK hP 0 rfl rfl 8 (by decide) (hw _ wb_25) (fun _ h9 => h9) rfl dX0_firstBadHint_1 ?_
  refine lv_istore_n (lv' := [(1, .int dr), (0, .ref (ax 0))]) hx hb dX0_firstBadHint_4 rfl hl (by decide) rfl (fun ls hl => ?_)
  refine lv_iconst (v := 0) hx hb dX0_firstBadHint_5 (by decide) ?_
  refine lv_istore_n (lv' := [(2, .int 0), (1, .int dr), (0, .ref (ax 0))]) hx hb dX0_firstBadHint_6 rfl hl (by decide) rfl (fun ls hl => ?_)
  have loop : ∀ (k i : Nat) (f : Int32), i + k = q → bh_scan cc fC fT fH q 0 dr = bh_scan cc fC fT fH k i f → ∀ ls, lv_has ls 5 [(2, .int (nI i)), (1, .int f), (0, .ref (ax 0))] → W p l e (headSpec wsX0_firstBadHint (rmN 3 0 0)).room s m ([.ref (ax 0)] : List Value).toArray below meth c s.heap [] 0 0 (MQ below (vp_Si (fun r => r = bh_scan cc fC fT fH q 0 dr)) ([.ref (ax 0)] : List Value).toArray s 0 0 (fun _ => False)) (F0 m 7 ls []) := by
    intro k
    induction k with
    | zero =>
      intro i f hk hq ls hl
      have e0 : i = q := by omega
      refine lv_iload_n hx hb dX0_firstBadHint_7 rfl (lv_at hl 0 rfl) ?_
      refine lv_aload_n hx hb dX0_firstBadHint_8 rfl (lv_at hl 2 rfl) ?_
      refine va_get (D := (dC, dI)) (ci := 0) (v := .int hc) (C := RX0) (T := TX0) (N := 10) hx hb hw inX0 hown hK hP 0 rfl rfl 7 (by decide) (hw _ wb_24) (fun _ h9 => h9) rfl dX0_firstBadHint_9 ?_
      refine lv_icmp_ge (tgt := 90) hx hb dX0_firstBadHint_12 (by decide) (fun c1 => ?_) (fun c1 => ?_)
      · skip
        refine lv_aload_n hx hb dX0_firstBadHint_90 rfl (lv_at hl 2 rfl) ?_
        refine va_get (D := (dC, dI)) (ci := 0) (v := .int hc) (C := RX0) (T := TX0) (N := 10) hx hb hw inX0 hown hK hP 0 rfl rfl 7 (by decide) (hw _ wb_24) (fun _ h9 => h9) rfl dX0_firstBadHint_91 ?_
        exact W.iret (v := hc) hx hb hrt (fun t ht hW => ⟨_, rfl, by rw [hq, ehc, e0]; rfl, ht⟩) (fun q h => nomatch h) dX0_firstBadHint_94
      · skip
        exact absurd (by rw [ehc, e0]; exact Int32.le_refl _) c1
    | succ k ih =>
      intro i f hk hq ls hl
      have ci : (nI i).toNatClampNeg = i := nI_clamp (by omega)
      have hin : vp_in (nI i) 40 := vp_in_nI (by omega) (by decide)
      have es : bh_scan cc fC fT fH (k + 1) i f = if th_b cc fT (fH i) = 0 then nI i else if k = 0 ∧ mk_rest (fC (fH i).toNatClampNeg) f = 0 then -1 else if mk_told (fC (fH i).toNatClampNeg) f = 0 then nI i else bh_scan cc fC fT fH k (i + 1) (f ||| mk_neg (mk_told (fC (fH i).toNatClampNeg) f)) := rfl
      rw [es] at hq
      refine lv_iload_n hx hb dX0_firstBadHint_7 rfl (lv_at hl 0 rfl) ?_
      refine lv_aload_n hx hb dX0_firstBadHint_8 rfl (lv_at hl 2 rfl) ?_
      refine va_get (D := (dC, dI)) (ci := 0) (v := .int hc) (C := RX0) (T := TX0) (N := 10) hx hb hw inX0 hown hK hP 0 rfl rfl 7 (by decide) (hw _ wb_24) (fun _ h9 => h9) rfl dX0_firstBadHint_9 ?_
      refine lv_icmp_ge (tgt := 90) hx hb dX0_firstBadHint_12 (by decide) (fun c1 => ?_) (fun c1 => ?_)
      · skip
        exact absurd (by rw [ehc] at c1; exact c1) (nI_ge (by omega) (by omega))
      · skip
        refine lv_aload_n hx hb dX0_firstBadHint_15 rfl (lv_at hl 2 rfl) ?_
        refine va_get (D := (dC, dI)) (ci := 0) (v := .ref (ax 4)) (C := RX0) (T := TX0) (N := 10) hx hb hw inX0 hown hK hP 0 rfl rfl 3 (by decide) (hw _ wb_20) (fun _ h9 => h9) rfl dX0_firstBadHint_16 ?_
        refine lv_iload_n hx hb dX0_firstBadHint_19 rfl (lv_at hl 0 rfl) ?_
        refine va_iald hx hb hK hP 4 3 rfl rfl hin dX0_firstBadHint_20 ?_
        rw [ci]
        refine lv_istore_n (lv' := [(3, .int (fH i)), (2, .int (nI i)), (1, .int f), (0, .ref (ax 0))]) hx hb dX0_firstBadHint_21 rfl hl (by decide) rfl (fun ls hl => ?_)
        refine lv_aload_n hx hb dX0_firstBadHint_22 rfl (lv_at hl 3 rfl) ?_
        refine lv_iload_n hx hb dX0_firstBadHint_23 rfl (lv_at hl 0 rfl) ?_
        refine vp_callSi (W.runV (As := [.int (fH i)]) (rest := []) ⟨hx, hb, hml, hown, hw⟩ (m_isThere l dC dI ax yx cc tc fc hc dr dO fC fO fT fH (fH i) n hn ecc) (cwV 1 hw (gw_V wb_228 wb_230 wbs_5 wb_1 wb_231) rfl rfl rfl (by decide +kernel) ⟨Nat.le_of_ble_eq_true rfl, Nat.le_of_ble_eq_true rfl⟩) ⟨blind_rdX, va_recv hK hP (ci := 0) (q0 := 0) rfl rfl, fun U hU hW => ⟨rfl, by rw [hU]; exact hP, va_K.moved hW.alike hK⟩⟩ rfl rfl hl.1 rfl (lv_room (Nat.le_of_ble_eq_true rfl)) dX0_firstBadHint_24 ⟨Nat.le_refl _, Nat.le_refl _⟩) (fun r1 hr1 => ?_)
        refine lv_if_ne (tgt := 32) hx hb dX0_firstBadHint_27 (by decide) (fun c2 => ?_) (fun c2 => ?_)
        · skip
          rw [hr1] at c2
          rw [if_neg c2] at hq
          have hin2 : vp_in (fH i) 600 := by
            have h9 := c2
            rw [th_b] at h9
            by_cases z : ¬ fH i < 0 ∧ ¬ cc ≤ fH i ∧ fT (fH i).toNatClampNeg ≠ 0
            · exact in_c ecc hn (by decide) z.1 z.2.1
            · rw [if_neg z] at h9; exact absurd rfl h9
          refine lv_iload_n hx hb dX0_firstBadHint_32 rfl (lv_at hl 1 rfl) ?_
          refine lv_aload_n hx hb dX0_firstBadHint_33 rfl (lv_at hl 3 rfl) ?_
          refine va_get (D := (dC, dI)) (ci := 0) (v := .int hc) (C := RX0) (T := TX0) (N := 10) hx hb hw inX0 hown hK hP 0 rfl rfl 7 (by decide) (hw _ wb_24) (fun _ h9 => h9) rfl dX0_firstBadHint_34 ?_
          refine lv_iconst (v := 1) hx hb dX0_firstBadHint_37 (by decide) ?_
          refine lv_isub hx hb dX0_firstBadHint_38 ?_
          refine lv_icmp_ne (tgt := 57) hx hb dX0_firstBadHint_39 (by decide) (fun c3 => ?_) (fun c3 => ?_)
          · skip
            have k0 : ¬ k = 0 := fun h => c3 (by rw [ehc, show q = i + 1 by omega]; exact (nI_pred i).symm)
            rw [if_neg (fun h => k0 h.1)] at hq
            refine lv_aload_n hx hb dX0_firstBadHint_57 rfl (lv_at hl 3 rfl) ?_
            refine va_get (D := (dC, dI)) (ci := 0) (v := .ref (ax 1)) (C := RX0) (T := TX0) (N := 10) hx hb hw inX0 hown hK hP 0 rfl rfl 0 (by decide) (hw _ wb_17) (fun _ h9 => h9) rfl dX0_firstBadHint_58 ?_
            refine lv_iload_n hx hb dX0_firstBadHint_61 rfl (lv_at hl 0 rfl) ?_
            refine va_iald hx hb hK hP 1 0 rfl rfl hin2 dX0_firstBadHint_62 ?_
            refine lv_iload_n hx hb dX0_firstBadHint_63 rfl (lv_at hl 2 rfl) ?_
            refine vp_callSi (W.runS (As := [.int (fC (fH i).toNatClampNeg), .int f]) (rest := []) ⟨hx, hb, hml, hown, hw⟩ (m_toldBy l (fC (fH i).toNatClampNeg) f) (va_cwS 2 hw (gw_S wb_75 wb_76 wb_1 wb_77) rfl rfl rfl (by decide +kernel) ⟨Nat.le_of_ble_eq_true rfl, Nat.le_of_ble_eq_true rfl⟩) preEq rfl rfl hl.1 rfl (lv_room (Nat.le_of_ble_eq_true rfl)) dX0_firstBadHint_64 ⟨Nat.le_refl _, Nat.le_refl _⟩) (fun r3 hr3 => ?_)
            subst hr3
            refine lv_istore (lv' := [(4, .int (mk_told (fC (fH i).toNatClampNeg) f)), (3, .int (fH i)), (2, .int (nI i)), (1, .int f), (0, .ref (ax 0))]) hx hb dX0_firstBadHint_67 hl (by decide) rfl (fun ls hl => ?_)
            refine lv_iload hx hb dX0_firstBadHint_69 (lv_at hl 0 rfl) ?_
            refine lv_if_ne (tgt := 76) hx hb dX0_firstBadHint_71 (by decide) (fun c5 => ?_) (fun c5 => ?_)
            · skip
              rw [if_neg c5] at hq
              refine lv_iload_n hx hb dX0_firstBadHint_76 rfl (lv_at hl 3 rfl) ?_
              refine lv_iload hx hb dX0_firstBadHint_77 (lv_at hl 0 rfl) ?_
              refine vp_callSi (W.runS (As := [.int (mk_told (fC (fH i).toNatClampNeg) f)]) (rest := [.int f]) ⟨hx, hb, hml, hown, hw⟩ (m_negated l (mk_told (fC (fH i).toNatClampNeg) f)) (va_cwS 1 hw (gw_S wb_78 wb_79 wb_1 wb_80) rfl rfl rfl (by decide +kernel) ⟨Nat.le_of_ble_eq_true rfl, Nat.le_of_ble_eq_true rfl⟩) preEq rfl rfl hl.1 rfl (lv_room (Nat.le_of_ble_eq_true rfl)) dX0_firstBadHint_79 ⟨Nat.le_refl _, Nat.le_refl _⟩) (fun r4 hr4 => ?_)
              subst hr4
              refine lv_ior hx hb dX0_firstBadHint_82 ?_
              refine lv_istore_n (lv' := [(1, .int (f ||| (mk_neg (mk_told (fC (fH i).toNatClampNeg) f)))), (4, .int (mk_told (fC (fH i).toNatClampNeg) f)), (3, .int (fH i)), (2, .int (nI i)), (0, .ref (ax 0))]) hx hb dX0_firstBadHint_83 rfl hl (by decide) rfl (fun ls hl => ?_)
              refine lv_iinc (v := (nI i) + 1) (lv' := [(2, .int ((nI i) + 1)), (1, .int (f ||| (mk_neg (mk_told (fC (fH i).toNatClampNeg) f)))), (4, .int (mk_told (fC (fH i).toNatClampNeg) f)), (3, .int (fH i)), (0, .ref (ax 0))]) hx hb dX0_firstBadHint_84 hl (k := 3) rfl rfl (by decide) rfl (fun ls hl => ?_)
              refine lv_goto (tgt := 7) hx hb dX0_firstBadHint_87 (by decide) ?_
              rw [nI_1] at hl
              exact ih (i + 1) _ (by omega) hq ls (lv_sub hl [0, 1, 4] rfl)
            · skip
              rw [if_pos c5] at hq
              refine lv_iload_n hx hb dX0_firstBadHint_74 rfl (lv_at hl 2 rfl) ?_
              exact W.iret (v := nI i) hx hb hrt (fun t ht hW => ⟨_, rfl, hq.symm, ht⟩) (fun q h => nomatch h) dX0_firstBadHint_75
          · skip
            have k0 : k = 0 := by
              have h9 : nI i = nI (q - 1) := by rw [c3, ehc]; exact (by rw [show q = (q - 1) + 1 by omega]; exact nI_pred _)
              have h8 := (nI_eq (by omega) (by omega)).mp h9
              omega
            refine lv_aload_n hx hb dX0_firstBadHint_42 rfl (lv_at hl 3 rfl) ?_
            refine va_get (D := (dC, dI)) (ci := 0) (v := .ref (ax 1)) (C := RX0) (T := TX0) (N := 10) hx hb hw inX0 hown hK hP 0 rfl rfl 0 (by decide) (hw _ wb_17) (fun _ h9 => h9) rfl dX0_firstBadHint_43 ?_
            refine lv_iload_n hx hb dX0_firstBadHint_46 rfl (lv_at hl 0 rfl) ?_
            refine va_iald hx hb hK hP 1 0 rfl rfl hin2 dX0_firstBadHint_47 ?_
            refine lv_iload_n hx hb dX0_firstBadHint_48 rfl (lv_at hl 2 rfl) ?_
            refine vp_callSi (W.runS (As := [.int (fC (fH i).toNatClampNeg), .int f]) (rest := []) ⟨hx, hb, hml, hown, hw⟩ (m_isWrong l (fC (fH i).toNatClampNeg) f) (va_cwS 2 hw (gw_S wb_72 wb_73 wb_1 wb_74) rfl rfl rfl (by decide +kernel) ⟨Nat.le_of_ble_eq_true rfl, Nat.le_of_ble_eq_true rfl⟩) preEq rfl rfl hl.1 rfl (lv_room (Nat.le_of_ble_eq_true rfl)) dX0_firstBadHint_49 ⟨Nat.le_refl _, Nat.le_refl _⟩) (fun r2 hr2 => ?_)
            refine lv_if_eq (tgt := 57) hx hb dX0_firstBadHint_52 (by decide) (fun c4 => ?_) (fun c4 => ?_)
            · skip
              have n0 : ¬ mk_rest (fC (fH i).toNatClampNeg) f = 0 := fun h => by rw [hr2, if_pos h] at c4; exact absurd c4 (by decide)
              rw [if_neg (fun h => n0 h.2)] at hq
              refine lv_aload_n hx hb dX0_firstBadHint_57 rfl (lv_at hl 3 rfl) ?_
              refine va_get (D := (dC, dI)) (ci := 0) (v := .ref (ax 1)) (C := RX0) (T := TX0) (N := 10) hx hb hw inX0 hown hK hP 0 rfl rfl 0 (by decide) (hw _ wb_17) (fun _ h9 => h9) rfl dX0_firstBadHint_58 ?_
              refine lv_iload_n hx hb dX0_firstBadHint_61 rfl (lv_at hl 0 rfl) ?_
              refine va_iald hx hb hK hP 1 0 rfl rfl hin2 dX0_firstBadHint_62 ?_
              refine lv_iload_n hx hb dX0_firstBadHint_63 rfl (lv_at hl 2 rfl) ?_
              refine vp_callSi (W.runS (As := [.int (fC (fH i).toNatClampNeg), .int f]) (rest := []) ⟨hx, hb, hml, hown, hw⟩ (m_toldBy l (fC (fH i).toNatClampNeg) f) (va_cwS 2 hw (gw_S wb_75 wb_76 wb_1 wb_77) rfl rfl rfl (by decide +kernel) ⟨Nat.le_of_ble_eq_true rfl, Nat.le_of_ble_eq_true rfl⟩) preEq rfl rfl hl.1 rfl (lv_room (Nat.le_of_ble_eq_true rfl)) dX0_firstBadHint_64 ⟨Nat.le_refl _, Nat.le_refl _⟩) (fun r3 hr3 => ?_)
              subst hr3
              refine lv_istore (lv' := [(4, .int (mk_told (fC (fH i).toNatClampNeg) f)), (3, .int (fH i)), (2, .int (nI i)), (1, .int f), (0, .ref (ax 0))]) hx hb dX0_firstBadHint_67 hl (by decide) rfl (fun ls hl => ?_)
              refine lv_iload hx hb dX0_firstBadHint_69 (lv_at hl 0 rfl) ?_
              refine lv_if_ne (tgt := 76) hx hb dX0_firstBadHint_71 (by decide) (fun c5 => ?_) (fun c5 => ?_)
              · skip
                rw [if_neg c5] at hq
                refine lv_iload_n hx hb dX0_firstBadHint_76 rfl (lv_at hl 3 rfl) ?_
                refine lv_iload hx hb dX0_firstBadHint_77 (lv_at hl 0 rfl) ?_
                refine vp_callSi (W.runS (As := [.int (mk_told (fC (fH i).toNatClampNeg) f)]) (rest := [.int f]) ⟨hx, hb, hml, hown, hw⟩ (m_negated l (mk_told (fC (fH i).toNatClampNeg) f)) (va_cwS 1 hw (gw_S wb_78 wb_79 wb_1 wb_80) rfl rfl rfl (by decide +kernel) ⟨Nat.le_of_ble_eq_true rfl, Nat.le_of_ble_eq_true rfl⟩) preEq rfl rfl hl.1 rfl (lv_room (Nat.le_of_ble_eq_true rfl)) dX0_firstBadHint_79 ⟨Nat.le_refl _, Nat.le_refl _⟩) (fun r4 hr4 => ?_)
                subst hr4
                refine lv_ior hx hb dX0_firstBadHint_82 ?_
                refine lv_istore_n (lv' := [(1, .int (f ||| (mk_neg (mk_told (fC (fH i).toNatClampNeg) f)))), (4, .int (mk_told (fC (fH i).toNatClampNeg) f)), (3, .int (fH i)), (2, .int (nI i)), (0, .ref (ax 0))]) hx hb dX0_firstBadHint_83 rfl hl (by decide) rfl (fun ls hl => ?_)
                refine lv_iinc (v := (nI i) + 1) (lv' := [(2, .int ((nI i) + 1)), (1, .int (f ||| (mk_neg (mk_told (fC (fH i).toNatClampNeg) f)))), (4, .int (mk_told (fC (fH i).toNatClampNeg) f)), (3, .int (fH i)), (0, .ref (ax 0))]) hx hb dX0_firstBadHint_84 hl (k := 3) rfl rfl (by decide) rfl (fun ls hl => ?_)
                refine lv_goto (tgt := 7) hx hb dX0_firstBadHint_87 (by decide) ?_
                rw [nI_1] at hl
                exact ih (i + 1) _ (by omega) hq ls (lv_sub hl [0, 1, 4] rfl)
              · skip
                rw [if_pos c5] at hq
                refine lv_iload_n hx hb dX0_firstBadHint_74 rfl (lv_at hl 2 rfl) ?_
                exact W.iret (v := nI i) hx hb hrt (fun t ht hW => ⟨_, rfl, hq.symm, ht⟩) (fun q h => nomatch h) dX0_firstBadHint_75
            · skip
              have y0 : mk_rest (fC (fH i).toNatClampNeg) f = 0 := Classical.byContradiction fun h => c4 (by rw [hr2, if_neg h])
              rw [if_pos ⟨k0, y0⟩] at hq
              refine lv_iconst (v := (-1)) hx hb dX0_firstBadHint_55 (by decide) ?_
              exact W.iret (v := (-1)) hx hb hrt (fun t ht hW => ⟨_, rfl, hq.symm, ht⟩) (fun q h => nomatch h) dX0_firstBadHint_56
        · skip
          rw [hr1] at c2
          rw [if_pos c2] at hq
          refine lv_iload_n hx hb dX0_firstBadHint_30 rfl (lv_at hl 1 rfl) ?_
          exact W.iret (v := nI i) hx hb hrt (fun t ht hW => ⟨_, rfl, hq.symm, ht⟩) (fun q h => nomatch h) dX0_firstBadHint_31
  exact loop q 0 dr (by omega) rfl ls (lv_sub hl [0, 1, 2] rfl)
end
section
/-! what a throw of the class stands on, and the calls of methods that read alone or throw -/
abbrev IAE : String := "java/lang/IllegalArgumentException"
abbrev ISE : String := "java/lang/IllegalStateException"
abbrev NMS : List String := ["java/lang/RuntimeException", "java/lang/Exception"]
abbrev badI : List Cond := [.castable IAE IAE, .declares ⟨"java/lang/RuntimeException", "<init>", "(Ljava/lang/String;)V"⟩, .declares ⟨"java/lang/Exception", "<init>", "(Ljava/lang/String;)V"⟩, .declares ⟨"java/lang/Throwable", "<init>", "(Ljava/lang/String;)V"⟩]
abbrev badS : List Cond := [.castable ISE ISE, .declares ⟨"java/lang/RuntimeException", "<init>", "(Ljava/lang/String;)V"⟩, .declares ⟨"java/lang/Exception", "<init>", "(Ljava/lang/String;)V"⟩, .declares ⟨"java/lang/Throwable", "<init>", "(Ljava/lang/String;)V"⟩]
/-- the texts -/
abbrev TX : List (Nat × String) := [(26, "not a literal"), (42, "the draft has this variable"), (51, "not a clause's number"), (58, "no room for another hint"), (113, "no clause that is there"), (87, "no place in a clause"), (102, "nothing that is counted")]
def Th (A : Nat → Prop) (U : State) (H : Heap) : Prop :=
  vx_Zq Bundle.tN "UNASSIGNED_STACK" Bundle.steD A U H ∧ vx_Zq Bundle.tN "SUPPRESSED_SENTINEL" Bundle.listD A U H ∧
  va_Nw (.castable IAE IAE) U ∧ va_Nw (.castable ISE ISE) U ∧
  va_Nw (.declares ⟨"java/lang/RuntimeException", "<init>", "(Ljava/lang/String;)V"⟩) U ∧ va_Nw (.declares ⟨"java/lang/Exception", "<init>", "(Ljava/lang/String;)V"⟩) U ∧ va_Nw (.declares ⟨"java/lang/Throwable", "<init>", "(Ljava/lang/String;)V"⟩) U ∧
  (∀ q ∈ TX, ∃ sa, vk_R "ProofBench" q.1 q.2 sa U) ∧ va_Nc ISE IAE U
theorem Th.warm {A : Nat → Prop} {s U : State} {H : Heap} (hW : s.WarmedH U.vm) (h : Th A s H) : Th A U H := by
  obtain ⟨h1, h2, h3, h4, h5, h6, h7, h8, h9⟩ := h
  exact ⟨vx_Zq.moved hW.alike h1, vx_Zq.moved hW.alike h2, va_Nw.warmC hW h3, va_Nw.warmC hW h4, va_Nw.warmD hW h5, va_Nw.warmD hW h6, va_Nw.warmD hW h7, fun q hq => by obtain ⟨sa, h⟩ := h8 q hq; exact ⟨sa, vk_R.warm hW h⟩, va_Nc.moved hW.alike h9⟩
theorem Th.same {A : Nat → Prop} {s U : State} {H : Heap} (hv : U.vm = s.vm) (h : Th A s H) : Th A U H := by
  obtain ⟨h1, h2, h3, h4, h5, h6, h7, h8, h9⟩ := h
  have ha : s.vm.Alike U.vm := by rw [hv]; exact Vm.Alike.refl s.vm
  exact ⟨vx_Zq.moved ha h1, vx_Zq.moved ha h2, va_Nw.same rfl hv.symm h3, va_Nw.same rfl hv.symm h4, va_Nw.same rfl hv.symm h5, va_Nw.same rfl hv.symm h6, va_Nw.same rfl hv.symm h7, fun q hq => by obtain ⟨sa, h⟩ := h8 q hq; exact ⟨sa, vk_R.same hv h⟩, va_Nc.moved ha h9⟩
theorem Th.kept {A : Nat → Prop} {U : State} {H H1 : Heap} (h : Th A U H) (hq : ∀ a : Nat, a < H.size → ¬ A a → H1[a]? = H[a]?) : Th A U H1 := by
  obtain ⟨h1, h2, h3⟩ := h
  exact ⟨vx_Zq.kept h1 hq, vx_Zq.kept h2 hq, h3⟩
theorem Th.narrow {A B : Nat → Prop} {U : State} {H : Heap} (h : Th A U H) (hAB : ∀ q, B q → A q) : Th B U H := by
  obtain ⟨h1, h2, h3⟩ := h
  exact ⟨vx_Zq.narrow h1 hAB, vx_Zq.narrow h2 hAB, h3⟩
/-- the same at a state's own heap: nothing below its end may change -/
abbrev ThU (U : State) : Prop := Th (fun q => U.heap.size ≤ q) U U.heap
theorem ThU.calling {U : State} {g : JFrame} {mk : MethodId} {a : Array Value} (h : ThU U) : ThU (U.calling g mk a) := Th.same (s := U) rfl h
theorem ThU.at {s U : State} {H : Heap} (hU : U.heap = H) (hW : s.WarmedH U.vm) (h : Th (fun q => H.size ≤ q) s H) : ThU U := by
  subst hU
  exact Th.warm hW h
theorem atI_in : ∀ w ∈ (vx_atS RX0 28 IAE NMS).filter goodWord, w ∈ WB := fun w h => WB_of ((by decide +kernel : ∀ w ∈ (vx_atS RX0 28 IAE NMS).filter goodWord, w ∈ lw_tbl) w h) (List.mem_filter.mp h).2
theorem atS_in : ∀ w ∈ (vx_atS RX0 60 ISE NMS).filter goodWord, w ∈ WB := fun w h => WB_of ((by decide +kernel : ∀ w ∈ (vx_atS RX0 60 ISE NMS).filter goodWord, w ∈ lw_tbl) w h) (List.mem_filter.mp h).2
theorem atI_bad : ∀ w ∈ (vx_atS RX0 28 IAE NMS).filter (fun w => !goodWord w), w ∈ badI := by decide +kernel
theorem atS_bad : ∀ w ∈ (vx_atS RX0 60 ISE NMS).filter (fun w => !goodWord w), w ∈ badS := by decide +kernel
theorem hat_I {A : Nat → Prop} {s : State} {H : Heap} {args : Array Value} (hw : ∀ w ∈ WB, w.before args s = true) (h : Th A s H) : ∀ w ∈ vx_atS RX0 28 IAE NMS, w.before args s = true := by
  obtain ⟨h1, h2, h3, h4, h5, h6, h7, h8, h9⟩ := h
  exact vx_hat (L := vx_atS RX0 28 IAE NMS) (B := badI) (fun w hm => hw w (atI_in w hm)) atI_bad (vx_c (va_Nw.use rfl h3) (vx_c (va_Nw.use rfl h5) (vx_c (va_Nw.use rfl h6) (vx_c (va_Nw.use rfl h7) vx_n))))
theorem hat_S {A : Nat → Prop} {s : State} {H : Heap} {args : Array Value} (hw : ∀ w ∈ WB, w.before args s = true) (h : Th A s H) : ∀ w ∈ vx_atS RX0 60 ISE NMS, w.before args s = true := by
  obtain ⟨h1, h2, h3, h4, h5, h6, h7, h8, h9⟩ := h
  exact vx_hat (L := vx_atS RX0 60 ISE NMS) (B := badS) (fun w hm => hw w (atS_in w hm)) atS_bad (vx_c (va_Nw.use rfl h4) (vx_c (va_Nw.use rfl h5) (vx_c (va_Nw.use rfl h6) (vx_c (va_Nw.use rfl h7) vx_n))))
theorem ot_I : ∀ w ∈ Cond.classLink RX0 24 IAE :: Cond.initialized IAE :: vx_atS RX0 28 IAE NMS, vx_ot w = true := by decide +kernel
theorem ot_S : ∀ w ∈ Cond.classLink RX0 56 ISE :: Cond.initialized ISE :: vx_atS RX0 60 ISE NMS, vx_ot w = true := by decide +kernel
theorem fit_I : Bundle.fit IAE = true := by decide +kernel
theorem fit_S : Bundle.fit ISE = true := by decide +kernel
theorem fit_N : ∀ n ∈ NMS, Bundle.fit n = true := by decide +kernel
section THR
variable {p : Program} {l : Launch} {e : Env} {R : Room} {s : State} {m : MethodId} {args : Array Value} {below : List Frame} {meth : Method} {c : Code} {H : Heap} {locs : List Loc} {cells slots : Nat} {Q : State → Prop}
variable {mc ms : Nat} {A0 : Nat → Prop} {H0 : Heap} {a : Array Value} {pc : Nat} {ls : Array Slot} {st0 rest : List Value} {free : Addr → Prop} {Qc : Array Value → State → Outcome → State → Prop}
/-- 'throw new IllegalArgumentException(text)' in a method of the class, where nothing has been written yet -/
theorem thr_I {cc : ByteArray} (is : Nat) (text : String) (hq : (is, text) ∈ TX) (hexec : p.tables.exec = Jvm.exec) (hb : c.code = cc) (hl : l.stackTraces = false) (hown : s.vm.findClass RX0 = some m.cls) (hw : ∀ w ∈ WB, w.before args s = true) (hT : ThU s) (hsize : ls.size = c.maxLocals)
    (d0 : decode cc pc = .ok (.new 24, 3)) (d3 : decode cc (pc + 3) = .ok (.dup, 1)) (d4 : decode cc (pc + 4) = .ok (.ldc is, 2)) (d6 : decode cc (pc + 6) = .ok (.invokespecial 28, 3)) (d9 : decode cc (pc + 9) = .ok (.athrow, 1))
    (hout : ∀ x ∈ c.exceptionTable.toList, False) (hF : 5 < R.frames) (hL : 82 ≤ R.locals) (hC : cells + 1 ≤ R.cells) (hS : slots + 6 ≤ R.slots) (hlocks : meth.locks = false) {XC : String → State → State → Prop} (hx : ∀ t : State, s.heap.size ≤ t.heap.size → (∀ q : Nat, q < s.heap.size → t.heap[q]? = s.heap[q]?) → XC IAE s t) (hc : cells + 1 ≤ mc) (hs : slots + 6 ≤ ms) :
    W p l e R s m args below meth c s.heap [] cells slots (vx_MQ below Qc XC args s mc ms free) (F0 m pc ls []) := by
  obtain ⟨sa, hstr⟩ := hT.2.2.2.2.2.2.2.1 _ hq
  exact vx_throwS (own := RX0) (cls := IAE) (text := text) (names := NMS) (ik := 24) (is := is) (ic := 28) (sa := sa) (A := fun q => s.heap.size ≤ q) hexec hb hl hown fit_I fit_N (hw _ wb_97) (hw _ wb_6) hstr (hat_I hw hT) ot_I hT.1 hT.2.1 va_S.rf hsize d0 d3 d4 d6 d9 (fun x hx => (hout x hx).elim) (by simpa using hF) (by simpa using hL) hC hS hlocks
    (fun t _ h2 h3 => hx t h2 h3) (fun _ h => nomatch h) hc hs
theorem thr_S {cc : ByteArray} (is : Nat) (text : String) (hq : (is, text) ∈ TX) (hexec : p.tables.exec = Jvm.exec) (hb : c.code = cc) (hl : l.stackTraces = false) (hown : s.vm.findClass RX0 = some m.cls) (hw : ∀ w ∈ WB, w.before args s = true) (hT : ThU s) (hsize : ls.size = c.maxLocals)
    (d0 : decode cc pc = .ok (.new 56, 3)) (d3 : decode cc (pc + 3) = .ok (.dup, 1)) (d4 : decode cc (pc + 4) = .ok (.ldc is, 2)) (d6 : decode cc (pc + 6) = .ok (.invokespecial 60, 3)) (d9 : decode cc (pc + 9) = .ok (.athrow, 1))
    (hout : ∀ x ∈ c.exceptionTable.toList, False) (hF : 5 < R.frames) (hL : 82 ≤ R.locals) (hC : cells + 1 ≤ R.cells) (hS : slots + 6 ≤ R.slots) (hlocks : meth.locks = false) {XC : String → State → State → Prop} (hx : ∀ t : State, s.heap.size ≤ t.heap.size → (∀ q : Nat, q < s.heap.size → t.heap[q]? = s.heap[q]?) → XC ISE s t) (hc : cells + 1 ≤ mc) (hs : slots + 6 ≤ ms) :
    W p l e R s m args below meth c s.heap [] cells slots (vx_MQ below Qc XC args s mc ms free) (F0 m pc ls []) := by
  obtain ⟨sa, hstr⟩ := hT.2.2.2.2.2.2.2.1 _ hq
  exact vx_throwS (own := RX0) (cls := ISE) (text := text) (names := NMS) (ik := 56) (is := is) (ic := 60) (sa := sa) (A := fun q => s.heap.size ≤ q) hexec hb hl hown fit_S fit_N (hw _ wb_177) (hw _ wb_8) hstr (hat_S hw hT) ot_S hT.1 hT.2.1 va_S.rf hsize d0 d3 d4 d6 d9 (fun x hx => (hout x hx).elim) (by simpa using hF) (by simpa using hL) hC hS hlocks
    (fun t _ h2 h3 => hx t h2 h3) (fun _ h => nomatch h) hc hs
/-- a call of a method that reads alone, or throws -/
theorem vx_csi {SX : Type} {post : Int32 → Prop} {px : SX → Prop} {BX : String → SX → State → Prop} {AX : Nat → Prop} (hr : vx_Run p l e R s m args below meth c H locs cells slots mc ms (F0 m pc ls st0) rest (vp_Si post a) (vx_X px BX AX) (fun _ => False)) (hS : va_S A0 H0 H locs) (hAX : ∀ q, q < H.size → AX q → A0 q)
    (kx : ∀ (E : String) (ce : Cell) (q9 : Addr) (u : SX) (t : State) (H1 : Heap), t.heap = H1 → s.vm.Alike t.vm → px u → BX E u t → H.size ≤ H1.size → (∀ q : Nat, q < H.size → ¬ AX q → H1[q]? = H[q]?) → va_S A0 H0 H1 locs → H1[q9]? = some ce → ce.vm = .none → s.vm.findClass E = some ce.cls → vx_W p l e R s m args below meth c H1 locs (cells + mc) (slots + ms) Q (F0 m pc ls rest) q9)
    (kk : ∀ r : Int32, post r → W p l e R s m args below meth c H locs (cells + mc) (slots + ms) Q (F0 m (pc + 3) ls (.int r :: rest))) : W p l e R s m args below meth c H locs cells slots Q (F0 m pc ls st0) := by
  intro T hT X
  rcases hr T hT X with ⟨v, st₀, t, T', L, h0, X', hL, e1, e2, ⟨r, hv, hp, hh⟩, st⟩ | ⟨q, st₀, t, T', L, E, ce, h0, X', hL, e1, e2, ⟨u, hp, hb, hF⟩, hce, hcv, hcl, st⟩
  · cases hv
    obtain ⟨t2, a1, b1⟩ := kk r hp T' (by rw [e1, hh, h0]) (Stand.forget X' (fun q h => (hL q h).elim))
    exact ⟨t2, st t2 a1, b1⟩
  · have hn : L = [] := by
      cases L with
      | nil => rfl
      | cons z zs => exact (hL z List.mem_cons_self).elim
    subst hn
    obtain ⟨k1, k2, k3⟩ := vx_keep (free := fun _ => False) h0 e1 hS hAX (fun _ h => h.elim) hL hF
    rw [List.append_nil] at k3 X'
    obtain ⟨t2, a1, b1⟩ := kx E ce q u t T'.heap e1.symm (by rw [← e2]; exact X'.warmed.alike) hp hb k1 k2 k3 (by rw [e1]; exact hce) hcv hcl T' rfl X'
    exact ⟨t2, st.trans a1, b1⟩
theorem vx_csv {SX : Type} {post : Unit → Prop} {px : SX → Prop} {BX : String → SX → State → Prop} {AX : Nat → Prop} (hr : vx_Run p l e R s m args below meth c H locs cells slots mc ms (F0 m pc ls st0) rest (va_Sv post a) (vx_X px BX AX) (fun _ => False)) (hS : va_S A0 H0 H locs) (hAX : ∀ q, q < H.size → AX q → A0 q)
    (kx : ∀ (E : String) (ce : Cell) (q9 : Addr) (u : SX) (t : State) (H1 : Heap), t.heap = H1 → s.vm.Alike t.vm → px u → BX E u t → H.size ≤ H1.size → (∀ q : Nat, q < H.size → ¬ AX q → H1[q]? = H[q]?) → va_S A0 H0 H1 locs → H1[q9]? = some ce → ce.vm = .none → s.vm.findClass E = some ce.cls → vx_W p l e R s m args below meth c H1 locs (cells + mc) (slots + ms) Q (F0 m pc ls rest) q9)
    (kk : post () → W p l e R s m args below meth c H locs (cells + mc) (slots + ms) Q (F0 m (pc + 3) ls rest)) : W p l e R s m args below meth c H locs cells slots Q (F0 m pc ls st0) := by
  intro T hT X
  rcases hr T hT X with ⟨v, st₀, t, T', L, h0, X', hL, e1, e2, ⟨hv, hp, hh⟩, st⟩ | ⟨q, st₀, t, T', L, E, ce, h0, X', hL, e1, e2, ⟨u, hp, hb, hF⟩, hce, hcv, hcl, st⟩
  · cases hv
    obtain ⟨t2, a1, b1⟩ := kk hp T' (by rw [e1, hh, h0]) (Stand.forget X' (fun q h => (hL q h).elim))
    exact ⟨t2, st t2 a1, b1⟩
  · have hn : L = [] := by
      cases L with
      | nil => rfl
      | cons z zs => exact (hL z List.mem_cons_self).elim
    subst hn
    obtain ⟨k1, k2, k3⟩ := vx_keep (free := fun _ => False) h0 e1 hS hAX (fun _ h => h.elim) hL hF
    rw [List.append_nil] at k3 X'
    obtain ⟨t2, a1, b1⟩ := kx E ce q u t T'.heap e1.symm (by rw [← e2]; exact X'.warmed.alike) hp hb k1 k2 k3 (by rw [e1]; exact hce) hcv hcl T' rfl X'
    exact ⟨t2, st.trans a1, b1⟩
end THR
theorem blind_rdXT {dC : Nat → ClassId} {dI : Nat → Nat → Nat} {ax : Nat → Nat} {yx : Nat → ClassId} {u : XS} {av : List Value} {sz : Nat} : FrameBlind (va_Pc av (fun U => U.heap.size = sz ∧ rdX dC dI ax yx u U ∧ ThU U)) := fun a U g mk q => by
  obtain ⟨q0, q1, ⟨qP, qK⟩, qT⟩ := q
  exact ⟨q0, q1, ⟨qP, va_K.moved (u := U) (U := U.calling g mk a) (Vm.Alike.refl U.vm) qK⟩, qT.calling⟩
theorem blind_preXT {dC : Nat → ClassId} {dI : Nat → Nat → Nat} {ax : Nat → Nat} {yx : Nat → ClassId} {sz : Nat} {u : XS} {av : List Value} : FrameBlind (va_Pc av (fun U => preX dC dI ax yx sz u U ∧ ThU U)) := fun a U g mk q => by
  obtain ⟨q0, ⟨q1, qP, qK, qD⟩, qT⟩ := q
  exact ⟨q0, ⟨q1, qP, va_K.moved (u := U) (U := U.calling g mk a) (Vm.Alike.refl U.vm) qK, qD⟩, qT.calling⟩
end
section
/-! the class's methods that may throw, and those that stand on them -/
/-- literal(k) is refused -/
def lt_bad (dr k : Int32) : Prop := k = 0 ∨ k < -16 ∨ 16 < k ∨ ¬ (dr ||| mk_neg dr) &&& mk_bit k = 0
def lt_abs (k : Int32) : Int32 := if 0 < k then k else -k
def lt_ord (dr : Int32) (dO : Int64) (k : Int32) : Int64 := dO ||| ((lt_abs k - 1).toInt64 <<< ((4 * nI (pb_sz dr)).toInt64 &&& 63))
/-- the class, the draft kept as a clause -/
abbrev kp_S (u : XS) : XS := match u with
  | (cc, tc, fc, hc, dr, dO, fC, fO, fT, fH) => (cc + 1, tc + 1, fc, hc, 0, 0, upd fC cc.toNatClampNeg dr, vp_updL fO cc.toNatClampNeg dO, upd fT cc.toNatClampNeg (vp_nar .boolean 1), fH)
def at_var (o9 : Int64) (i : Int32) : Int32 := ((pb_lu o9 (4 * i)) &&& 15).toInt32 + 1
def at_val (x : Int32) (o9 : Int64) (i : Int32) : Int32 := if i < nI (pb_sz x) then (if x &&& mk_bit (at_var o9 i) = 0 then -(at_var o9 i) else at_var o9 i) else 0
def cn_val (cc tc fc hc dr k : Int32) : Int32 := if k = 0 then cc else if k = 1 then tc else if k = 2 then fc else if k = 3 then nI (pb_sz dr) else hc
theorem th_in {cc k : Int32} {fT : Nat → Int32} {n : Nat} (e : cc = nI n) (hn : n ≤ 600) (h : th_b cc fT k ≠ 0) : vp_in k 600 := by
  by_cases z : ¬ k < 0 ∧ ¬ cc ≤ k ∧ fT k.toNatClampNeg ≠ 0
  · exact in_c e hn (by decide) z.1 z.2.1
  · rw [th_b, if_neg z] at h
    exact absurd rfl h
set_option maxHeartbeats 4000000 in
set_option maxRecDepth 100000 in
/-- refuseIfFull, where there is room -/
theorem m_refuseIfFull (l : Launch) (dC : Nat → ClassId) (dI : Nat → Nat → Nat) (ax : Nat → Nat) (yx : Nat → ClassId) (cc tc fc hc dr : Int32) (dO : Int64) (fC : Nat → Int32) (fO : Nat → Int64) (fT fH : Nat → Int32)  (n : Nat) (hn : n < 600) (ecc : cc = nI n) : Met l yX0_refuseIfFull wsX0_refuseIfFull (rmN 0 0 0) (va_Pc [.ref (ax 0)] (rdX dC dI ax yx (cc, tc, fc, hc, dr, dO, fC, fO, fT, fH))) (va_Sv (fun _ => True)) 0 0 (fun _ => False) := by
  refine Met.ofW (cc := cX0_refuseIfFull) (maxL := 1) (ret := none) (by decide) rfl ?_
  intro p e s m args below meth c s₁ B hml hv
  obtain ⟨rfl, hP, hK⟩ := hv
  have hx := B.exec
  have hb := B.bytes
  have hrt := B.returns
  have hlocks := B.notSynchronized
  have hts := atoms_spec (ws := wsX0_refuseIfFull) B.pre
  have hw : ∀ w ∈ WB, w.before ([.ref (ax 0)] : List Value).toArray s = true := fun w h => hts w (List.mem_cons_of_mem _ h)
  have hown : s.vm.findClass "ProofBench" = some m.cls := findClass_of_methodNamed B.named
  have hP : va_P (dC, dI) cls2 (XW ax yx (cc, tc, fc, hc, dr, dO, fC, fO, fT, fH)) s.heap := hP
  have hl := lv_entry ([.ref (ax 0)]) (n := 1) (Nat.le_of_ble_eq_true rfl)
  rw [lg_entry_eq]
  generalize (lg_sl ([.ref (ax 0)]) ++ List.replicate (1 - (lg_sl ([.ref (ax 0)])).length) Slot.unset).toArray = ls at hl ⊢
  have hl : lv_has ls 1 [(0, .ref (ax 0))] := hl
  refine lv_aload_n hx hb dX0_refuseIfFull_0 rfl (lv_at hl 0 rfl) ?_
  refine va_get (D := (dC, dI)) (ci := 0) (v := .int cc) (C := RX0) (T := TX0) (N := 10) hx hb hw inX0 hown hK hP 0 rfl rfl 4 (by decide) (hw _ wb_21) (fun _ h9 => h9) rfl dX0_refuseIfFull_1 ?_
  refine lv_sipush (v := 600) hx hb dX0_refuseIfFull_4 (by decide) ?_
  refine lv_icmp_lt (tgt := 20) hx hb dX0_refuseIfFull_7 (by decide) (fun c1 => ?_) (fun c1 => ?_)
  · skip
    exact W.vret hx hb hrt (fun t ht hW => ⟨rfl, trivial, ht⟩) (fun q h => nomatch h) dX0_refuseIfFull_20
  · skip
    exact absurd (by rw [ecc]; exact nI_lt (b := 600) hn (by decide)) c1
set_option maxHeartbeats 4000000 in
set_option maxRecDepth 100000 in
/-- refuseIfNotThere -/
theorem m_refuseIfNotThere (l : Launch) (hl9 : l.stackTraces = false) (dC : Nat → ClassId) (dI : Nat → Nat → Nat) (ax : Nat → Nat) (yx : Nat → ClassId) (sz0 : Nat) (cc tc fc hc dr : Int32) (dO : Int64) (fC : Nat → Int32) (fO : Nat → Int64) (fT fH : Nat → Int32) (k : Int32) (n : Nat) (hn : n ≤ 600) (ecc : cc = nI n) : vx_Met l yX0_refuseIfNotThere wsX0_refuseIfNotThere (rmN 6 1 6) (va_Pc [.ref (ax 0), .int k] (fun U => U.heap.size = sz0 ∧ rdX dC dI ax yx (cc, tc, fc, hc, dr, dO, fC, fO, fT, fH) U ∧ ThU U)) (va_Sv (fun _ => th_b cc fT k ≠ 0)) (vx_X (fun (_ : Unit) => th_b cc fT k = 0) (fun E _ _ => E = IAE) (fun q => sz0 ≤ q)) 1 6 (fun _ => False) := by
  refine vx_ofW (cc := cX0_refuseIfNotThere) (maxL := 2) (ret := none) (by decide) rfl ?_
  intro p e s m args below meth c s₁ B hml hnt hv
  obtain ⟨rfl, hsz, ⟨hP, hK⟩, hT⟩ := hv
  have hx := B.exec
  have hb := B.bytes
  have hrt := B.returns
  have hlocks := B.notSynchronized
  have hts := atoms_spec (ws := wsX0_refuseIfNotThere) B.pre
  have hw : ∀ w ∈ WB, w.before ([.ref (ax 0), .int k] : List Value).toArray s = true := fun w h => hts w (List.mem_cons_of_mem _ h)
  have hown : s.vm.findClass "ProofBench" = some m.cls := findClass_of_methodNamed B.named
  have hP : va_P (dC, dI) cls2 (XW ax yx (cc, tc, fc, hc, dr, dO, fC, fO, fT, fH)) s.heap := hP
  have hl := lv_entry ([.ref (ax 0), .int k]) (n := 2) (Nat.le_of_ble_eq_true rfl)
  rw [lg_entry_eq]
  generalize (lg_sl ([.ref (ax 0), .int k]) ++ List.replicate (2 - (lg_sl ([.ref (ax 0), .int k])).length) Slot.unset).toArray = ls at hl ⊢
  have hl : lv_has ls 2 [(0, .ref (ax 0)), (1, .int k)] := hl
  refine lv_aload_n hx hb dX0_refuseIfNotThere_0 rfl (lv_at hl 0 rfl) ?_
  refine lv_iload_n hx hb dX0_refuseIfNotThere_1 rfl (lv_at hl 1 rfl) ?_
  refine vp_callSi (W.runV (As := [.int k]) (rest := []) ⟨hx, hb, hml, hown, hw⟩ (m_isThere l dC dI ax yx cc tc fc hc dr dO fC fO fT fH k n hn ecc) (cwV 1 hw (gw_V wb_228 wb_230 wbs_5 wb_1 wb_231) rfl rfl rfl (by decide +kernel) ⟨Nat.le_of_ble_eq_true rfl, Nat.le_of_ble_eq_true rfl⟩) ⟨blind_rdX, va_recv hK hP (ci := 0) (q0 := 0) rfl rfl, fun U hU hW => ⟨rfl, by rw [hU]; exact hP, va_K.moved hW.alike hK⟩⟩ rfl rfl hl.1 rfl (lv_room (Nat.le_of_ble_eq_true rfl)) dX0_refuseIfNotThere_2 ⟨Nat.le_of_ble_eq_true rfl, Nat.le_of_ble_eq_true rfl⟩) (fun r1 h1 => ?_)
  subst h1
  refine lv_if_ne (tgt := 18) hx hb dX0_refuseIfNotThere_5 (by decide) (fun c1 => ?_) (fun c1 => ?_)
  · skip
    refine vx_ret ?_
    refine W.widen (k := 1) (n := 6) (by decide) (by decide) ?_
    exact W.vret hx hb hrt (fun t ht hW => ⟨rfl, c1, ht⟩) (fun q h => nomatch h) dX0_refuseIfNotThere_18
  · skip
    exact thr_I 113 "no clause that is there" (by decide) hx hb hl9 hown hw hT (by rw [hml]; exact hl.1) dX0_refuseIfNotThere_8 dX0_refuseIfNotThere_11 dX0_refuseIfNotThere_12 dX0_refuseIfNotThere_14 dX0_refuseIfNotThere_17 hnt (Nat.le_of_ble_eq_true rfl) (Nat.le_of_ble_eq_true rfl) (Nat.le_of_ble_eq_true rfl) (Nat.le_of_ble_eq_true rfl) hlocks (fun t h2 h3 => ⟨(), c1, rfl, h2, fun q h1 _ => h3 q h1⟩) (Nat.le_of_ble_eq_true rfl) (Nat.le_of_ble_eq_true rfl)
set_option maxHeartbeats 4000000 in
set_option maxRecDepth 100000 in
/-- literal -/
theorem m_literal (l : Launch) (hl9 : l.stackTraces = false) (dC : Nat → ClassId) (dI : Nat → Nat → Nat) (ax : Nat → Nat) (yx : Nat → ClassId) (sz0 : Nat) (cc tc fc hc dr : Int32) (dO : Int64) (fC : Nat → Int32) (fO : Nat → Int64) (fT fH : Nat → Int32) (k : Int32) : vx_Met l yX0_literal wsX0_literal (rmN 6 1 6) (va_Pc [.ref (ax 0), .int k] (fun U => preX dC dI ax yx sz0 (cc, tc, fc, hc, dr, dO, fC, fO, fT, fH) U ∧ ThU U)) (va_Qi (fun (r : Int32) (u : XS) => ¬ lt_bad dr k ∧ r = nI (pb_sz (dr ||| mk_bit k)) ∧ u = (cc, tc, fc, hc, dr ||| mk_bit k, lt_ord dr dO k, fC, fO, fT, fH)) (atX dC dI (va_A (XW ax yx (cc, tc, fc, hc, dr, dO, fC, fO, fT, fH)) sz0) ax yx) (va_A (XW ax yx (cc, tc, fc, hc, dr, dO, fC, fO, fT, fH)) sz0)) (vx_X (fun (_ : Unit) => lt_bad dr k) (fun E _ _ => E = IAE) (fun q => sz0 ≤ q)) 1 6 (va_A (XW ax yx (cc, tc, fc, hc, dr, dO, fC, fO, fT, fH)) sz0) := by
  refine vx_ofW (cc := cX0_literal) (maxL := 4) (ret := (some .int)) (by decide) rfl ?_
  intro p e s m args below meth c s₁ B hml hnt hv
  obtain ⟨rfl, ⟨hsz, hP, hK, hD0⟩, hT⟩ := hv
  have hx := B.exec
  have hb := B.bytes
  have hrt := B.returns
  have hlocks := B.notSynchronized
  have hts := atoms_spec (ws := wsX0_literal) B.pre
  have hw : ∀ w ∈ WB, w.before ([.ref (ax 0), .int k] : List Value).toArray s = true := fun w h => hts w (List.mem_cons_of_mem _ h)
  have hown : s.vm.findClass "ProofBench" = some m.cls := findClass_of_methodNamed B.named
  subst hsz
  have hD := hD0.self (sz := s.heap.size)
  generalize hAe : va_A (XW ax yx (cc, tc, fc, hc, dr, dO, fC, fO, fT, fH)) s.heap.size = A at hD ⊢
  have hA : ∀ q : Nat, s.heap.size ≤ q → A q := fun q h => by rw [← hAe]; exact Or.inr h
  have hS : va_S A s.heap s.heap [] := va_S.rf
  have hP : va_P (dC, dI) cls2 (XW ax yx (cc, tc, fc, hc, dr, dO, fC, fO, fT, fH)) s.heap := hP
  have hl := lv_entry ([.ref (ax 0), .int k]) (n := 4) (Nat.le_of_ble_eq_true rfl)
  rw [lg_entry_eq]
  generalize (lg_sl ([.ref (ax 0), .int k]) ++ List.replicate (4 - (lg_sl ([.ref (ax 0), .int k])).length) Slot.unset).toArray = ls at hl ⊢
  have hl : lv_has ls 4 [(0, .ref (ax 0)), (1, .int k)] := hl
  refine lv_iload_n hx hb dX0_literal_0 rfl (lv_at hl 1 rfl) ?_
  refine lv_if_eq (tgt := 16) hx hb dX0_literal_1 (by decide) (fun c1 => ?_) (fun c1 => ?_)
  · skip
    exact thr_I 26 "not a literal" (by decide) hx hb hl9 hown hw hT (by rw [hml]; exact hl.1) dX0_literal_16 dX0_literal_19 dX0_literal_20 dX0_literal_22 dX0_literal_25 hnt (Nat.le_of_ble_eq_true rfl) (Nat.le_of_ble_eq_true rfl) (Nat.le_of_ble_eq_true rfl) (Nat.le_of_ble_eq_true rfl) hlocks (fun t h2 h3 => ⟨(), Or.inl c1, rfl, h2, fun q h1 _ => h3 q h1⟩) (Nat.le_of_ble_eq_true rfl) (Nat.le_of_ble_eq_true rfl)
  · skip
    refine lv_iload_n hx hb dX0_literal_4 rfl (lv_at hl 1 rfl) ?_
    refine lv_bipush (v := (-16)) hx hb dX0_literal_5 (by decide) ?_
    refine lv_icmp_lt (tgt := 16) hx hb dX0_literal_7 (by decide) (fun c2 => ?_) (fun c2 => ?_)
    · skip
      exact thr_I 26 "not a literal" (by decide) hx hb hl9 hown hw hT (by rw [hml]; exact hl.1) dX0_literal_16 dX0_literal_19 dX0_literal_20 dX0_literal_22 dX0_literal_25 hnt (Nat.le_of_ble_eq_true rfl) (Nat.le_of_ble_eq_true rfl) (Nat.le_of_ble_eq_true rfl) (Nat.le_of_ble_eq_true rfl) hlocks (fun t h2 h3 => ⟨(), Or.inr (Or.inl c2), rfl, h2, fun q h1 _ => h3 q h1⟩) (Nat.le_of_ble_eq_true rfl) (Nat.le_of_ble_eq_true rfl)
    · skip
      refine lv_iload_n hx hb dX0_literal_10 rfl (lv_at hl 1 rfl) ?_
      refine lv_bipush (v := 16) hx hb dX0_literal_11 (by decide) ?_
      refine lv_icmp_le (tgt := 26) hx hb dX0_literal_13 (by decide) (fun c3 => ?_) (fun c3 => ?_)
      · skip
        refine lv_iload_n hx hb dX0_literal_26 rfl (lv_at hl 1 rfl) ?_
        refine vp_callSi (W.runS (As := [.int k]) (rest := []) ⟨hx, hb, hml, hown, hw⟩ (m_bitOf l k) (va_cwS 1 hw (gw_S wb_164 wb_165 wb_1 wb_166) rfl rfl rfl (by decide +kernel) ⟨Nat.le_of_ble_eq_true rfl, Nat.le_of_ble_eq_true rfl⟩) preEq rfl rfl hl.1 rfl (lv_room (Nat.le_of_ble_eq_true rfl)) dX0_literal_27 ⟨Nat.le_of_ble_eq_true rfl, Nat.le_of_ble_eq_true rfl⟩) (fun r1 h1 => ?_)
        subst h1
        refine lv_istore_n (lv' := [(2, .int (mk_bit k)), (0, .ref (ax 0)), (1, .int k)]) hx hb dX0_literal_30 rfl hl (by decide) rfl (fun ls hl => ?_)
        refine lv_aload_n hx hb dX0_literal_31 rfl (lv_at hl 1 rfl) ?_
        refine va_get (D := (dC, dI)) (ci := 0) (v := .int dr) (C := RX0) (T := TX0) (N := 10) hx hb hw inX0 hown hK hP 0 rfl rfl 8 (by decide) (hw _ wb_25) (fun _ h9 => h9) rfl dX0_literal_32 ?_
        refine lv_aload_n hx hb dX0_literal_35 rfl (lv_at hl 1 rfl) ?_
        refine va_get (D := (dC, dI)) (ci := 0) (v := .int dr) (C := RX0) (T := TX0) (N := 10) hx hb hw inX0 hown hK hP 0 rfl rfl 8 (by decide) (hw _ wb_25) (fun _ h9 => h9) rfl dX0_literal_36 ?_
        refine vp_callSi (W.runS (As := [.int dr]) (rest := [.int dr]) ⟨hx, hb, hml, hown, hw⟩ (m_negated l dr) (va_cwS 1 hw (gw_S wb_78 wb_79 wb_1 wb_80) rfl rfl rfl (by decide +kernel) ⟨Nat.le_of_ble_eq_true rfl, Nat.le_of_ble_eq_true rfl⟩) preEq rfl rfl hl.1 rfl (lv_room (Nat.le_of_ble_eq_true rfl)) dX0_literal_39 ⟨Nat.le_of_ble_eq_true rfl, Nat.le_of_ble_eq_true rfl⟩) (fun r2 h2 => ?_)
        subst h2
        refine lv_ior hx hb dX0_literal_42 ?_
        refine lv_iload_n hx hb dX0_literal_43 rfl (lv_at hl 0 rfl) ?_
        refine lv_iand hx hb dX0_literal_44 ?_
        refine lv_if_eq (tgt := 58) hx hb dX0_literal_45 (by decide) (fun c4 => ?_) (fun c4 => ?_)
        · skip
          refine lv_iload_n hx hb dX0_literal_58 rfl (lv_at hl 2 rfl) ?_
          refine lv_if_le (tgt := 66) hx hb dX0_literal_59 (by decide) (fun c5 => ?_) (fun c5 => ?_)
          · skip
            have eab : lt_abs k = -k := by rw [lt_abs, if_neg (Int32.not_lt.mpr c5)]
            refine lv_iload_n hx hb dX0_literal_66 rfl (lv_at hl 2 rfl) ?_
            refine lv_ineg hx hb dX0_literal_67 ?_
            refine lv_topi (fun v9 ev9 => ?_)
            have ev9 : v9 = lt_abs k := ev9.trans eab.symm
            subst ev9
            refine lv_istore_n (lv' := [(3, .int (lt_abs k)), (2, .int (mk_bit k)), (0, .ref (ax 0)), (1, .int k)]) hx hb dX0_literal_68 rfl hl (by decide) rfl (fun ls hl => ?_)
            refine lv_aload_n hx hb dX0_literal_69 rfl (lv_at hl 2 rfl) ?_
            refine lv_dup hx hb dX0_literal_70 rfl ?_
            refine va_get (D := (dC, dI)) (ci := 0) (v := .long dO) (C := RX0) (T := TX0) (N := 10) hx hb hw inX0 hown hK hP 0 rfl rfl 9 (by decide) (hw _ wb_26) (fun _ h9 => h9) rfl dX0_literal_71 ?_
            refine lv_iload_n hx hb dX0_literal_74 rfl (lv_at hl 0 rfl) ?_
            refine lv_iconst (v := 1) hx hb dX0_literal_75 (by decide) ?_
            refine lv_isub hx hb dX0_literal_76 ?_
            refine lv_i2l (v := ((lt_abs k) - 1).toInt64) hx hb dX0_literal_77 rfl ?_
            refine lv_iconst (v := 4) hx hb dX0_literal_78 (by decide) ?_
            refine lv_aload_n hx hb dX0_literal_79 rfl (lv_at hl 2 rfl) ?_
            refine va_get (D := (dC, dI)) (ci := 0) (v := .int dr) (C := RX0) (T := TX0) (N := 10) hx hb hw inX0 hown hK hP 0 rfl rfl 8 (by decide) (hw _ wb_25) (fun _ h9 => h9) rfl dX0_literal_80 ?_
            refine vp_callSi (W.runS (As := [.int dr]) (rest := [.int 4, .long (((lt_abs k) - 1).toInt64), .long dO, .ref (ax 0)]) ⟨hx, hb, hml, hown, hw⟩ (m_sizeOf l dr) (va_cwS 1 hw (gw_S wb_55 wb_56 wb_1 wb_57) rfl rfl rfl (by decide +kernel) ⟨Nat.le_of_ble_eq_true rfl, Nat.le_of_ble_eq_true rfl⟩) preEq rfl rfl hl.1 rfl (lv_room (Nat.le_of_ble_eq_true rfl)) dX0_literal_83 ⟨Nat.le_of_ble_eq_true rfl, Nat.le_of_ble_eq_true rfl⟩) (fun r3 h3 => ?_)
            subst h3
            refine lv_imul hx hb dX0_literal_86 ?_
            refine lv_lshl (v := (((lt_abs k) - 1).toInt64) <<< ((4 * (nI (pb_sz dr))).toInt64 &&& 63)) hx hb dX0_literal_87 rfl ?_
            refine lv_lor hx hb dX0_literal_88 ?_
            refine va_put (D := (dC, dI)) (ci := 0) (v := .long (dO ||| ((((lt_abs k) - 1).toInt64) <<< ((4 * (nI (pb_sz dr))).toInt64 &&& 63)))) (ty := .long) (C := RX0) (T := TX0) (N := 10) hx hb hw inX0 tyX0 tyX0_ok nmX0 hown hK hP hD hS 0 rfl rfl 9 (by decide) (hw _ wb_26) (fun _ h9 => h9) rfl (by decide +kernel) rfl rfl (Nat.le_of_ble_eq_true rfl) dX0_literal_89 (fun H locs hP hD hS => ?_)
            have hP : va_P (dC, dI) cls2 (XW ax yx (cc, tc, fc, hc, dr, dO ||| ((((lt_abs k) - 1).toInt64) <<< ((4 * (nI (pb_sz dr))).toInt64 &&& 63)), fC, fO, fT, fH)) H := hP
            have hD : va_D A (XW ax yx (cc, tc, fc, hc, dr, dO ||| ((((lt_abs k) - 1).toInt64) <<< ((4 * (nI (pb_sz dr))).toInt64 &&& 63)), fC, fO, fT, fH)) := hD
            refine lv_aload_n hx hb dX0_literal_92 rfl (lv_at hl 2 rfl) ?_
            refine lv_dup hx hb dX0_literal_93 rfl ?_
            refine va_get (D := (dC, dI)) (ci := 0) (v := .int dr) (C := RX0) (T := TX0) (N := 10) hx hb hw inX0 hown hK hP 0 rfl rfl 8 (by decide) (hw _ wb_25) (fun _ h9 => h9) rfl dX0_literal_94 ?_
            refine lv_iload_n hx hb dX0_literal_97 rfl (lv_at hl 1 rfl) ?_
            refine lv_ior hx hb dX0_literal_98 ?_
            refine va_put (D := (dC, dI)) (ci := 0) (v := .int (dr ||| (mk_bit k))) (ty := .int) (C := RX0) (T := TX0) (N := 10) hx hb hw inX0 tyX0 tyX0_ok nmX0 hown hK hP hD hS 0 rfl rfl 8 (by decide) (hw _ wb_25) (fun _ h9 => h9) rfl (by decide +kernel) rfl rfl (Nat.le_of_ble_eq_true rfl) dX0_literal_99 (fun H locs hP hD hS => ?_)
            have hP : va_P (dC, dI) cls2 (XW ax yx (cc, tc, fc, hc, dr ||| (mk_bit k), dO ||| ((((lt_abs k) - 1).toInt64) <<< ((4 * (nI (pb_sz dr))).toInt64 &&& 63)), fC, fO, fT, fH)) H := hP
            have hD : va_D A (XW ax yx (cc, tc, fc, hc, dr ||| (mk_bit k), dO ||| ((((lt_abs k) - 1).toInt64) <<< ((4 * (nI (pb_sz dr))).toInt64 &&& 63)), fC, fO, fT, fH)) := hD
            refine lv_aload_n hx hb dX0_literal_102 rfl (lv_at hl 2 rfl) ?_
            refine va_get (D := (dC, dI)) (ci := 0) (v := .int (dr ||| (mk_bit k))) (C := RX0) (T := TX0) (N := 10) hx hb hw inX0 hown hK hP 0 rfl rfl 8 (by decide) (hw _ wb_25) (fun _ h9 => h9) rfl dX0_literal_103 ?_
            refine vp_callSi (W.runS (As := [.int (dr ||| (mk_bit k))]) (rest := []) ⟨hx, hb, hml, hown, hw⟩ (m_sizeOf l (dr ||| mk_bit k)) (va_cwS 1 hw (gw_S wb_55 wb_56 wb_1 wb_57) rfl rfl rfl (by decide +kernel) ⟨Nat.le_of_ble_eq_true rfl, Nat.le_of_ble_eq_true rfl⟩) preEq rfl rfl hl.1 rfl (lv_room (Nat.le_of_ble_eq_true rfl)) dX0_literal_106 ⟨Nat.le_of_ble_eq_true rfl, Nat.le_of_ble_eq_true rfl⟩) (fun r4 h4 => ?_)
            refine vx_ret ?_
            refine W.widen (k := 1) (n := 6) (by decide) (by decide) ?_
            exact W.iret (v := r4) hx hb hrt (fun t ht hW => ⟨⟨_, _, rfl, ⟨fun h => h.elim c1 (fun h => h.elim c2 (fun h => h.elim (fun h => absurd h (Int32.not_lt.mpr c3)) (fun h => h c4))), h4, rfl⟩, by rw [ht]; exact hP, va_K.moved hW.alike hK, hD⟩, hS.F ht⟩) hS.2.2 dX0_literal_109
          · skip
            have eab : lt_abs k = k := by rw [lt_abs, if_pos (Int32.not_le.mp c5)]
            refine lv_iload_n hx hb dX0_literal_62 rfl (lv_at hl 2 rfl) ?_
            refine lv_goto (tgt := 68) hx hb dX0_literal_63 (by decide) ?_
            refine lv_topi (fun v9 ev9 => ?_)
            have ev9 : v9 = lt_abs k := ev9.trans eab.symm
            subst ev9
            refine lv_istore_n (lv' := [(3, .int (lt_abs k)), (2, .int (mk_bit k)), (0, .ref (ax 0)), (1, .int k)]) hx hb dX0_literal_68 rfl hl (by decide) rfl (fun ls hl => ?_)
            refine lv_aload_n hx hb dX0_literal_69 rfl (lv_at hl 2 rfl) ?_
            refine lv_dup hx hb dX0_literal_70 rfl ?_
            refine va_get (D := (dC, dI)) (ci := 0) (v := .long dO) (C := RX0) (T := TX0) (N := 10) hx hb hw inX0 hown hK hP 0 rfl rfl 9 (by decide) (hw _ wb_26) (fun _ h9 => h9) rfl dX0_literal_71 ?_
            refine lv_iload_n hx hb dX0_literal_74 rfl (lv_at hl 0 rfl) ?_
            refine lv_iconst (v := 1) hx hb dX0_literal_75 (by decide) ?_
            refine lv_isub hx hb dX0_literal_76 ?_
            refine lv_i2l (v := ((lt_abs k) - 1).toInt64) hx hb dX0_literal_77 rfl ?_
            refine lv_iconst (v := 4) hx hb dX0_literal_78 (by decide) ?_
            refine lv_aload_n hx hb dX0_literal_79 rfl (lv_at hl 2 rfl) ?_
            refine va_get (D := (dC, dI)) (ci := 0) (v := .int dr) (C := RX0) (T := TX0) (N := 10) hx hb hw inX0 hown hK hP 0 rfl rfl 8 (by decide) (hw _ wb_25) (fun _ h9 => h9) rfl dX0_literal_80 ?_
            refine vp_callSi (W.runS (As := [.int dr]) (rest := [.int 4, .long (((lt_abs k) - 1).toInt64), .long dO, .ref (ax 0)]) ⟨hx, hb, hml, hown, hw⟩ (m_sizeOf l dr) (va_cwS 1 hw (gw_S wb_55 wb_56 wb_1 wb_57) rfl rfl rfl (by decide +kernel) ⟨Nat.le_of_ble_eq_true rfl, Nat.le_of_ble_eq_true rfl⟩) preEq rfl rfl hl.1 rfl (lv_room (Nat.le_of_ble_eq_true rfl)) dX0_literal_83 ⟨Nat.le_of_ble_eq_true rfl, Nat.le_of_ble_eq_true rfl⟩) (fun r3 h3 => ?_)
            subst h3
            refine lv_imul hx hb dX0_literal_86 ?_
            refine lv_lshl (v := (((lt_abs k) - 1).toInt64) <<< ((4 * (nI (pb_sz dr))).toInt64 &&& 63)) hx hb dX0_literal_87 rfl ?_
            refine lv_lor hx hb dX0_literal_88 ?_
            refine va_put (D := (dC, dI)) (ci := 0) (v := .long (dO ||| ((((lt_abs k) - 1).toInt64) <<< ((4 * (nI (pb_sz dr))).toInt64 &&& 63)))) (ty := .long) (C := RX0) (T := TX0) (N := 10) hx hb hw inX0 tyX0 tyX0_ok nmX0 hown hK hP hD hS 0 rfl rfl 9 (by decide) (hw _ wb_26) (fun _ h9 => h9) rfl (by decide +kernel) rfl rfl (Nat.le_of_ble_eq_true rfl) dX0_literal_89 (fun H locs hP hD hS => ?_)
            have hP : va_P (dC, dI) cls2 (XW ax yx (cc, tc, fc, hc, dr, dO ||| ((((lt_abs k) - 1).toInt64) <<< ((4 * (nI (pb_sz dr))).toInt64 &&& 63)), fC, fO, fT, fH)) H := hP
            have hD : va_D A (XW ax yx (cc, tc, fc, hc, dr, dO ||| ((((lt_abs k) - 1).toInt64) <<< ((4 * (nI (pb_sz dr))).toInt64 &&& 63)), fC, fO, fT, fH)) := hD
            refine lv_aload_n hx hb dX0_literal_92 rfl (lv_at hl 2 rfl) ?_
            refine lv_dup hx hb dX0_literal_93 rfl ?_
            refine va_get (D := (dC, dI)) (ci := 0) (v := .int dr) (C := RX0) (T := TX0) (N := 10) hx hb hw inX0 hown hK hP 0 rfl rfl 8 (by decide) (hw _ wb_25) (fun _ h9 => h9) rfl dX0_literal_94 ?_
            refine lv_iload_n hx hb dX0_literal_97 rfl (lv_at hl 1 rfl) ?_
            refine lv_ior hx hb dX0_literal_98 ?_
            refine va_put (D := (dC, dI)) (ci := 0) (v := .int (dr ||| (mk_bit k))) (ty := .int) (C := RX0) (T := TX0) (N := 10) hx hb hw inX0 tyX0 tyX0_ok nmX0 hown hK hP hD hS 0 rfl rfl 8 (by decide) (hw _ wb_25) (fun _ h9 => h9) rfl (by decide +kernel) rfl rfl (Nat.le_of_ble_eq_true rfl) dX0_literal_99 (fun H locs hP hD hS => ?_)
            have hP : va_P (dC, dI) cls2 (XW ax yx (cc, tc, fc, hc, dr ||| (mk_bit k), dO ||| ((((lt_abs k) - 1).toInt64) <<< ((4 * (nI (pb_sz dr))).toInt64 &&& 63)), fC, fO, fT, fH)) H := hP
            have hD : va_D A (XW ax yx (cc, tc, fc, hc, dr ||| (mk_bit k), dO ||| ((((lt_abs k) - 1).toInt64) <<< ((4 * (nI (pb_sz dr))).toInt64 &&& 63)), fC, fO, fT, fH)) := hD
            refine lv_aload_n hx hb dX0_literal_102 rfl (lv_at hl 2 rfl) ?_
            refine va_get (D := (dC, dI)) (ci := 0) (v := .int (dr ||| (mk_bit k))) (C := RX0) (T := TX0) (N := 10) hx hb hw inX0 hown hK hP 0 rfl rfl 8 (by decide) (hw _ wb_25) (fun _ h9 => h9) rfl dX0_literal_103 ?_
            refine vp_callSi (W.runS (As := [.int (dr ||| (mk_bit k))]) (rest := []) ⟨hx, hb, hml, hown, hw⟩ (m_sizeOf l (dr ||| mk_bit k)) (va_cwS 1 hw (gw_S wb_55 wb_56 wb_1 wb_57) rfl rfl rfl (by decide +kernel) ⟨Nat.le_of_ble_eq_true rfl, Nat.le_of_ble_eq_true rfl⟩) preEq rfl rfl hl.1 rfl (lv_room (Nat.le_of_ble_eq_true rfl)) dX0_literal_106 ⟨Nat.le_of_ble_eq_true rfl, Nat.le_of_ble_eq_true rfl⟩) (fun r4 h4 => ?_)
            refine vx_ret ?_
            refine W.widen (k := 1) (n := 6) (by decide) (by decide) ?_
            exact W.iret (v := r4) hx hb hrt (fun t ht hW => ⟨⟨_, _, rfl, ⟨fun h => h.elim c1 (fun h => h.elim c2 (fun h => h.elim (fun h => absurd h (Int32.not_lt.mpr c3)) (fun h => h c4))), h4, rfl⟩, by rw [ht]; exact hP, va_K.moved hW.alike hK, hD⟩, hS.F ht⟩) hS.2.2 dX0_literal_109
        · skip
          exact thr_I 42 "the draft has this variable" (by decide) hx hb hl9 hown hw hT (by rw [hml]; exact hl.1) dX0_literal_48 dX0_literal_51 dX0_literal_52 dX0_literal_54 dX0_literal_57 hnt (Nat.le_of_ble_eq_true rfl) (Nat.le_of_ble_eq_true rfl) (Nat.le_of_ble_eq_true rfl) (Nat.le_of_ble_eq_true rfl) hlocks (fun t h2 h3 => ⟨(), Or.inr (Or.inr (Or.inr c4)), rfl, h2, fun q h1 _ => h3 q h1⟩) (Nat.le_of_ble_eq_true rfl) (Nat.le_of_ble_eq_true rfl)
      · skip
        exact thr_I 26 "not a literal" (by decide) hx hb hl9 hown hw hT (by rw [hml]; exact hl.1) dX0_literal_16 dX0_literal_19 dX0_literal_20 dX0_literal_22 dX0_literal_25 hnt (Nat.le_of_ble_eq_true rfl) (Nat.le_of_ble_eq_true rfl) (Nat.le_of_ble_eq_true rfl) (Nat.le_of_ble_eq_true rfl) hlocks (fun t h2 h3 => ⟨(), Or.inr (Or.inr (Or.inl (Int32.not_le.mp c3))), rfl, h2, fun q h1 _ => h3 q h1⟩) (Nat.le_of_ble_eq_true rfl) (Nat.le_of_ble_eq_true rfl)
set_option maxHeartbeats 4000000 in
set_option maxRecDepth 100000 in
/-- hint -/
theorem m_hint (l : Launch) (hl9 : l.stackTraces = false) (dC : Nat → ClassId) (dI : Nat → Nat → Nat) (ax : Nat → Nat) (yx : Nat → ClassId) (sz0 : Nat) (cc tc fc hc dr : Int32) (dO : Int64) (fC : Nat → Int32) (fO : Nat → Int64) (fT fH : Nat → Int32) (k : Int32) (q : Nat) (ehc : hc = nI q) (hq40 : q ≤ 40) : vx_Met l yX0_hint wsX0_hint (rmN 6 1 6) (va_Pc [.ref (ax 0), .int k] (fun U => preX dC dI ax yx sz0 (cc, tc, fc, hc, dr, dO, fC, fO, fT, fH) U ∧ ThU U)) (va_Qi (fun (r : Int32) (u : XS) => ¬ (k < 0 ∨ ¬ k < 600) ∧ hc < 40 ∧ r = hc + 1 ∧ u = (cc, tc, fc, hc + 1, dr, dO, fC, fO, fT, upd fH hc.toNatClampNeg k)) (atX dC dI (va_A (XW ax yx (cc, tc, fc, hc, dr, dO, fC, fO, fT, fH)) sz0) ax yx) (va_A (XW ax yx (cc, tc, fc, hc, dr, dO, fC, fO, fT, fH)) sz0)) (vx_X (fun (_ : Unit) => True) (fun E _ _ => (E = IAE ∧ (k < 0 ∨ ¬ k < 600)) ∨ (E = ISE ∧ ¬ (k < 0 ∨ ¬ k < 600) ∧ ¬ hc < 40)) (fun q => sz0 ≤ q)) 1 6 (va_A (XW ax yx (cc, tc, fc, hc, dr, dO, fC, fO, fT, fH)) sz0) := by
  refine vx_ofW (cc := cX0_hint) (maxL := 2) (ret := (some .int)) (by decide) rfl ?_
  intro p e s m args below meth c s₁ B hml hnt hv
  obtain ⟨rfl, ⟨hsz, hP, hK, hD0⟩, hT⟩ := hv
  have hx := B.exec
  have hb := B.bytes
  have hrt := B.returns
  have hlocks := B.notSynchronized
  have hts := atoms_spec (ws := wsX0_hint) B.pre
  have hw : ∀ w ∈ WB, w.before ([.ref (ax 0), .int k] : List Value).toArray s = true := fun w h => hts w (List.mem_cons_of_mem _ h)
  have hown : s.vm.findClass "ProofBench" = some m.cls := findClass_of_methodNamed B.named
  subst hsz
  have hD := hD0.self (sz := s.heap.size)
  generalize hAe : va_A (XW ax yx (cc, tc, fc, hc, dr, dO, fC, fO, fT, fH)) s.heap.size = A at hD ⊢
  have hA : ∀ q : Nat, s.heap.size ≤ q → A q := fun q h => by rw [← hAe]; exact Or.inr h
  have hS : va_S A s.heap s.heap [] := va_S.rf
  have hP : va_P (dC, dI) cls2 (XW ax yx (cc, tc, fc, hc, dr, dO, fC, fO, fT, fH)) s.heap := hP
  have hl := lv_entry ([.ref (ax 0), .int k]) (n := 2) (Nat.le_of_ble_eq_true rfl)
  rw [lg_entry_eq]
  generalize (lg_sl ([.ref (ax 0), .int k]) ++ List.replicate (2 - (lg_sl ([.ref (ax 0), .int k])).length) Slot.unset).toArray = ls at hl ⊢
  have hl : lv_has ls 2 [(0, .ref (ax 0)), (1, .int k)] := hl
  refine lv_iload_n hx hb dX0_hint_0 rfl (lv_at hl 1 rfl) ?_
  refine lv_if_lt (tgt := 11) hx hb dX0_hint_1 (by decide) (fun c1 => ?_) (fun c1 => ?_)
  · skip
    exact thr_I 51 "not a clause's number" (by decide) hx hb hl9 hown hw hT (by rw [hml]; exact hl.1) dX0_hint_11 dX0_hint_14 dX0_hint_15 dX0_hint_17 dX0_hint_20 hnt (Nat.le_of_ble_eq_true rfl) (Nat.le_of_ble_eq_true rfl) (Nat.le_of_ble_eq_true rfl) (Nat.le_of_ble_eq_true rfl) hlocks (fun t h2 h3 => ⟨(), trivial, Or.inl ⟨rfl, Or.inl c1⟩, h2, fun q h1 _ => h3 q h1⟩) (Nat.le_of_ble_eq_true rfl) (Nat.le_of_ble_eq_true rfl)
  · skip
    refine lv_iload_n hx hb dX0_hint_4 rfl (lv_at hl 1 rfl) ?_
    refine lv_sipush (v := 600) hx hb dX0_hint_5 (by decide) ?_
    refine lv_icmp_lt (tgt := 21) hx hb dX0_hint_8 (by decide) (fun c2 => ?_) (fun c2 => ?_)
    · skip
      refine lv_aload_n hx hb dX0_hint_21 rfl (lv_at hl 0 rfl) ?_
      refine va_get (D := (dC, dI)) (ci := 0) (v := .int hc) (C := RX0) (T := TX0) (N := 10) hx hb hw inX0 hown hK hP 0 rfl rfl 7 (by decide) (hw _ wb_24) (fun _ h9 => h9) rfl dX0_hint_22 ?_
      refine lv_bipush (v := 40) hx hb dX0_hint_25 (by decide) ?_
      refine lv_icmp_lt (tgt := 40) hx hb dX0_hint_27 (by decide) (fun c3 => ?_) (fun c3 => ?_)
      · skip
        have hin : vp_in hc 40 := in_c (cc := 40) (n := 40) (by decide) (Nat.le_refl _) (by decide) (by rw [ehc]; exact nI_pos (by omega)) (Int32.not_le.mpr c3)
        refine lv_aload_n hx hb dX0_hint_40 rfl (lv_at hl 0 rfl) ?_
        refine va_get (D := (dC, dI)) (ci := 0) (v := .ref (ax 4)) (C := RX0) (T := TX0) (N := 10) hx hb hw inX0 hown hK hP 0 rfl rfl 3 (by decide) (hw _ wb_20) (fun _ h9 => h9) rfl dX0_hint_41 ?_
        refine lv_aload_n hx hb dX0_hint_44 rfl (lv_at hl 0 rfl) ?_
        refine va_get (D := (dC, dI)) (ci := 0) (v := .int hc) (C := RX0) (T := TX0) (N := 10) hx hb hw inX0 hown hK hP 0 rfl rfl 7 (by decide) (hw _ wb_24) (fun _ h9 => h9) rfl dX0_hint_45 ?_
        refine lv_iload_n hx hb dX0_hint_48 rfl (lv_at hl 1 rfl) ?_
        refine va_iast hx hb hK hP hD hS 4 3 rfl rfl hin dX0_hint_49 (fun H locs hP hD hS => ?_)
        have hP : va_P (dC, dI) cls2 (XW ax yx (cc, tc, fc, hc, dr, dO, fC, fO, fT, upd fH hc.toNatClampNeg k)) H := hP
        have hD : va_D A (XW ax yx (cc, tc, fc, hc, dr, dO, fC, fO, fT, upd fH hc.toNatClampNeg k)) := hD
        refine lv_aload_n hx hb dX0_hint_50 rfl (lv_at hl 0 rfl) ?_
        refine lv_dup hx hb dX0_hint_51 rfl ?_
        refine va_get (D := (dC, dI)) (ci := 0) (v := .int hc) (C := RX0) (T := TX0) (N := 10) hx hb hw inX0 hown hK hP 0 rfl rfl 7 (by decide) (hw _ wb_24) (fun _ h9 => h9) rfl dX0_hint_52 ?_
        refine lv_iconst (v := 1) hx hb dX0_hint_55 (by decide) ?_
        refine lv_iadd hx hb dX0_hint_56 ?_
        refine va_put (D := (dC, dI)) (ci := 0) (v := .int (hc + 1)) (ty := .int) (C := RX0) (T := TX0) (N := 10) hx hb hw inX0 tyX0 tyX0_ok nmX0 hown hK hP hD hS 0 rfl rfl 7 (by decide) (hw _ wb_24) (fun _ h9 => h9) rfl (by decide +kernel) rfl rfl (Nat.le_of_ble_eq_true rfl) dX0_hint_57 (fun H locs hP hD hS => ?_)
        have hP : va_P (dC, dI) cls2 (XW ax yx (cc, tc, fc, hc + 1, dr, dO, fC, fO, fT, upd fH hc.toNatClampNeg k)) H := hP
        have hD : va_D A (XW ax yx (cc, tc, fc, hc + 1, dr, dO, fC, fO, fT, upd fH hc.toNatClampNeg k)) := hD
        refine lv_aload_n hx hb dX0_hint_60 rfl (lv_at hl 0 rfl) ?_
        refine va_get (D := (dC, dI)) (ci := 0) (v := .int (hc + 1)) (C := RX0) (T := TX0) (N := 10) hx hb hw inX0 hown hK hP 0 rfl rfl 7 (by decide) (hw _ wb_24) (fun _ h9 => h9) rfl dX0_hint_61 ?_
        refine vx_ret ?_
        refine W.widen (k := 1) (n := 6) (by decide) (by decide) ?_
        exact W.iret (v := hc + 1) hx hb hrt (fun t ht hW => ⟨⟨_, _, rfl, ⟨fun h => h.elim c1 (fun h => h c2), c3, rfl, rfl⟩, by rw [ht]; exact hP, va_K.moved hW.alike hK, hD⟩, hS.F ht⟩) hS.2.2 dX0_hint_64
      · skip
        exact thr_S 58 "no room for another hint" (by decide) hx hb hl9 hown hw hT (by rw [hml]; exact hl.1) dX0_hint_30 dX0_hint_33 dX0_hint_34 dX0_hint_36 dX0_hint_39 hnt (Nat.le_of_ble_eq_true rfl) (Nat.le_of_ble_eq_true rfl) (Nat.le_of_ble_eq_true rfl) (Nat.le_of_ble_eq_true rfl) hlocks (fun t h2 h3 => ⟨(), trivial, Or.inr ⟨rfl, fun h => h.elim c1 (fun h => h c2), c3⟩, h2, fun q h1 _ => h3 q h1⟩) (Nat.le_of_ble_eq_true rfl) (Nat.le_of_ble_eq_true rfl)
    · skip
      exact thr_I 51 "not a clause's number" (by decide) hx hb hl9 hown hw hT (by rw [hml]; exact hl.1) dX0_hint_11 dX0_hint_14 dX0_hint_15 dX0_hint_17 dX0_hint_20 hnt (Nat.le_of_ble_eq_true rfl) (Nat.le_of_ble_eq_true rfl) (Nat.le_of_ble_eq_true rfl) (Nat.le_of_ble_eq_true rfl) hlocks (fun t h2 h3 => ⟨(), trivial, Or.inl ⟨rfl, Or.inr c2⟩, h2, fun q h1 _ => h3 q h1⟩) (Nat.le_of_ble_eq_true rfl) (Nat.le_of_ble_eq_true rfl)
set_option maxHeartbeats 4000000 in
set_option maxRecDepth 100000 in
/-- drop -/
theorem m_drop (l : Launch) (hl9 : l.stackTraces = false) (dC : Nat → ClassId) (dI : Nat → Nat → Nat) (ax : Nat → Nat) (yx : Nat → ClassId) (sz0 : Nat) (cc tc fc hc dr : Int32) (dO : Int64) (fC : Nat → Int32) (fO : Nat → Int64) (fT fH : Nat → Int32) (k : Int32) (n : Nat) (hn : n ≤ 600) (ecc : cc = nI n) : vx_Met l yX0_drop wsX0_drop (rmN 7 1 6) (va_Pc [.ref (ax 0), .int k] (fun U => preX dC dI ax yx sz0 (cc, tc, fc, hc, dr, dO, fC, fO, fT, fH) U ∧ ThU U)) (va_Qi (fun (r : Int32) (u : XS) => th_b cc fT k ≠ 0 ∧ r = nI (pb_sz (fC k.toNatClampNeg)) ∧ u = (cc, tc - 1, fc, hc, dr, dO, fC, fO, upd fT k.toNatClampNeg (vp_nar .boolean 0), fH)) (atX dC dI (va_A (XW ax yx (cc, tc, fc, hc, dr, dO, fC, fO, fT, fH)) sz0) ax yx) (va_A (XW ax yx (cc, tc, fc, hc, dr, dO, fC, fO, fT, fH)) sz0)) (vx_X (fun (_ : Unit) => th_b cc fT k = 0) (fun E _ _ => E = IAE) (fun q => sz0 ≤ q)) 1 6 (va_A (XW ax yx (cc, tc, fc, hc, dr, dO, fC, fO, fT, fH)) sz0) := by
  refine vx_ofW (cc := cX0_drop) (maxL := 2) (ret := (some .int)) (by decide) rfl ?_
  intro p e s m args below meth c s₁ B hml hnt hv
  obtain ⟨rfl, ⟨hsz, hP, hK, hD0⟩, hT⟩ := hv
  have hx := B.exec
  have hb := B.bytes
  have hrt := B.returns
  have hlocks := B.notSynchronized
  have hts := atoms_spec (ws := wsX0_drop) B.pre
  have hw : ∀ w ∈ WB, w.before ([.ref (ax 0), .int k] : List Value).toArray s = true := fun w h => hts w (List.mem_cons_of_mem _ h)
  have hown : s.vm.findClass "ProofBench" = some m.cls := findClass_of_methodNamed B.named
  subst hsz
  have hD := hD0.self (sz := s.heap.size)
  generalize hAe : va_A (XW ax yx (cc, tc, fc, hc, dr, dO, fC, fO, fT, fH)) s.heap.size = A at hD ⊢
  have hA : ∀ q : Nat, s.heap.size ≤ q → A q := fun q h => by rw [← hAe]; exact Or.inr h
  have hS : va_S A s.heap s.heap [] := va_S.rf
  have hP : va_P (dC, dI) cls2 (XW ax yx (cc, tc, fc, hc, dr, dO, fC, fO, fT, fH)) s.heap := hP
  have hl := lv_entry ([.ref (ax 0), .int k]) (n := 2) (Nat.le_of_ble_eq_true rfl)
  rw [lg_entry_eq]
  generalize (lg_sl ([.ref (ax 0), .int k]) ++ List.replicate (2 - (lg_sl ([.ref (ax 0), .int k])).length) Slot.unset).toArray = ls at hl ⊢
  have hl : lv_has ls 2 [(0, .ref (ax 0)), (1, .int k)] := hl
  refine lv_aload_n hx hb dX0_drop_0 rfl (lv_at hl 0 rfl) ?_
  refine lv_iload_n hx hb dX0_drop_1 rfl (lv_at hl 1 rfl) ?_
  refine vx_csv (A0 := fun q => s.heap.size ≤ q) (H0 := s.heap) (vx_runV (As := [.int k]) (rest := []) ⟨hx, hb, hml, hown, hw⟩ (m_refuseIfNotThere l hl9 dC dI ax yx s.heap.size cc tc fc hc dr dO fC fO fT fH k n hn ecc) (cwV 1 hw (gw_V wb_239 wb_241 wbs_6 wb_1 wb_242) rfl rfl rfl (by decide +kernel) ⟨Nat.le_of_ble_eq_true rfl, Nat.le_of_ble_eq_true rfl⟩) ⟨blind_rdXT, va_recv hK hP (ci := 0) (q0 := 0) rfl rfl, fun U hU hW => ⟨rfl, by rw [hU], ⟨by rw [hU]; exact hP, va_K.moved hW.alike hK⟩, ThU.at hU hW hT⟩⟩ rfl rfl hl.1 rfl (lv_room (Nat.le_of_ble_eq_true rfl)) dX0_drop_2 ⟨(Nat.le_of_ble_eq_true rfl), (Nat.le_of_ble_eq_true rfl)⟩) va_S.rf (fun q _ h => h) ?_ (fun h1 => ?_)
  · intro E ce q9 u t H1 ht ha hpx hBX h1 h2 h3 hce hcv hcl
    exact vx_out (fun x hx => (hnt x hx).elim) hlocks hce hcv hcl (fun t ht ha => ⟨(), hpx, hBX, by rw [ht]; exact h1, fun q hq hn => by rw [ht]; exact h2 q hq hn⟩) (fun _ h => nomatch h) (Nat.le_of_ble_eq_true rfl) (Nat.le_of_ble_eq_true rfl)
  have hin : vp_in k 600 := th_in ecc hn h1
  refine lv_aload_n hx hb dX0_drop_5 rfl (lv_at hl 0 rfl) ?_
  refine va_get (D := (dC, dI)) (ci := 0) (v := .ref (ax 3)) (C := RX0) (T := TX0) (N := 10) hx hb hw inX0 hown hK hP 0 rfl rfl 2 (by decide) (hw _ wb_19) (fun _ h9 => h9) rfl dX0_drop_6 ?_
  refine lv_iload_n hx hb dX0_drop_9 rfl (lv_at hl 1 rfl) ?_
  refine lv_iconst (v := 0) hx hb dX0_drop_10 (by decide) ?_
  refine va_zast hx hb hK hP hD hS 3 2 rfl rfl hin dX0_drop_11 (fun H locs hP hD hS => ?_)
  have hP : va_P (dC, dI) cls2 (XW ax yx (cc, tc, fc, hc, dr, dO, fC, fO, upd fT k.toNatClampNeg (vp_nar .boolean 0), fH)) H := hP
  have hD : va_D A (XW ax yx (cc, tc, fc, hc, dr, dO, fC, fO, upd fT k.toNatClampNeg (vp_nar .boolean 0), fH)) := hD
  refine lv_aload_n hx hb dX0_drop_12 rfl (lv_at hl 0 rfl) ?_
  refine lv_dup hx hb dX0_drop_13 rfl ?_
  refine va_get (D := (dC, dI)) (ci := 0) (v := .int tc) (C := RX0) (T := TX0) (N := 10) hx hb hw inX0 hown hK hP 0 rfl rfl 5 (by decide) (hw _ wb_22) (fun _ h9 => h9) rfl dX0_drop_14 ?_
  refine lv_iconst (v := 1) hx hb dX0_drop_17 (by decide) ?_
  refine lv_isub hx hb dX0_drop_18 ?_
  refine va_put (D := (dC, dI)) (ci := 0) (v := .int (tc - 1)) (ty := .int) (C := RX0) (T := TX0) (N := 10) hx hb hw inX0 tyX0 tyX0_ok nmX0 hown hK hP hD hS 0 rfl rfl 5 (by decide) (hw _ wb_22) (fun _ h9 => h9) rfl (by decide +kernel) rfl rfl (Nat.le_of_ble_eq_true rfl) dX0_drop_19 (fun H locs hP hD hS => ?_)
  have hP : va_P (dC, dI) cls2 (XW ax yx (cc, tc - 1, fc, hc, dr, dO, fC, fO, upd fT k.toNatClampNeg (vp_nar .boolean 0), fH)) H := hP
  have hD : va_D A (XW ax yx (cc, tc - 1, fc, hc, dr, dO, fC, fO, upd fT k.toNatClampNeg (vp_nar .boolean 0), fH)) := hD
  refine lv_aload_n hx hb dX0_drop_22 rfl (lv_at hl 0 rfl) ?_
  refine va_get (D := (dC, dI)) (ci := 0) (v := .ref (ax 1)) (C := RX0) (T := TX0) (N := 10) hx hb hw inX0 hown hK hP 0 rfl rfl 0 (by decide) (hw _ wb_17) (fun _ h9 => h9) rfl dX0_drop_23 ?_
  refine lv_iload_n hx hb dX0_drop_26 rfl (lv_at hl 1 rfl) ?_
  refine va_iald hx hb hK hP 1 0 rfl rfl hin dX0_drop_27 ?_
  refine vp_callSi (W.runS (As := [.int (fC k.toNatClampNeg)]) (rest := []) ⟨hx, hb, hml, hown, hw⟩ (m_sizeOf l (fC k.toNatClampNeg)) (va_cwS 1 hw (gw_S wb_55 wb_56 wb_1 wb_57) rfl rfl rfl (by decide +kernel) ⟨Nat.le_of_ble_eq_true rfl, Nat.le_of_ble_eq_true rfl⟩) preEq rfl rfl hl.1 rfl (lv_room (Nat.le_of_ble_eq_true rfl)) dX0_drop_28 ⟨Nat.le_of_ble_eq_true rfl, Nat.le_of_ble_eq_true rfl⟩) (fun r4 h4 => ?_)
  refine vx_ret ?_
  refine W.widen (k := 1) (n := 6) (by decide) (by decide) ?_
  exact W.iret (v := r4) hx hb hrt (fun t ht hW => ⟨⟨_, _, rfl, ⟨h1, h4, rfl⟩, by rw [ht]; exact hP, va_K.moved hW.alike hK, hD⟩, hS.F ht⟩) hS.2.2 dX0_drop_31
set_option maxHeartbeats 4000000 in
set_option maxRecDepth 100000 in
/-- at -/
theorem m_at (l : Launch) (hl9 : l.stackTraces = false) (dC : Nat → ClassId) (dI : Nat → Nat → Nat) (ax : Nat → Nat) (yx : Nat → ClassId) (sz0 : Nat) (cc tc fc hc dr : Int32) (dO : Int64) (fC : Nat → Int32) (fO : Nat → Int64) (fT fH : Nat → Int32) (k : Int32) (i : Int32) (n : Nat) (hn : n ≤ 600) (ecc : cc = nI n) : vx_Met l yX0_at wsX0_at (rmN 7 2 12) (va_Pc [.ref (ax 0), .int k, .int i] (fun U => U.heap.size = sz0 ∧ rdX dC dI ax yx (cc, tc, fc, hc, dr, dO, fC, fO, fT, fH) U ∧ ThU U)) (vp_Si (fun r => th_b cc fT k ≠ 0 ∧ ¬ i < 0 ∧ r = at_val (fC k.toNatClampNeg) (fO k.toNatClampNeg) i)) (vx_X (fun (_ : Unit) => th_b cc fT k = 0 ∨ i < 0) (fun E _ _ => E = IAE) (fun q => sz0 ≤ q)) 2 12 (fun _ => False) := by
  refine vx_ofW (cc := cX0_at) (maxL := 5) (ret := (some .int)) (by decide) rfl ?_
  intro p e s m args below meth c s₁ B hml hnt hv
  obtain ⟨rfl, hsz, ⟨hP, hK⟩, hT⟩ := hv
  have hx := B.exec
  have hb := B.bytes
  have hrt := B.returns
  have hlocks := B.notSynchronized
  have hts := atoms_spec (ws := wsX0_at) B.pre
  have hw : ∀ w ∈ WB, w.before ([.ref (ax 0), .int k, .int i] : List Value).toArray s = true := fun w h => hts w (List.mem_cons_of_mem _ h)
  have hown : s.vm.findClass "ProofBench" = some m.cls := findClass_of_methodNamed B.named
  have hP : va_P (dC, dI) cls2 (XW ax yx (cc, tc, fc, hc, dr, dO, fC, fO, fT, fH)) s.heap := hP
  have hl := lv_entry ([.ref (ax 0), .int k, .int i]) (n := 5) (Nat.le_of_ble_eq_true rfl)
  rw [lg_entry_eq]
  generalize (lg_sl ([.ref (ax 0), .int k, .int i]) ++ List.replicate (5 - (lg_sl ([.ref (ax 0), .int k, .int i])).length) Slot.unset).toArray = ls at hl ⊢
  have hl : lv_has ls 5 [(0, .ref (ax 0)), (1, .int k), (2, .int i)] := hl
  refine lv_aload_n hx hb dX0_at_0 rfl (lv_at hl 0 rfl) ?_
  refine lv_iload_n hx hb dX0_at_1 rfl (lv_at hl 1 rfl) ?_
  refine vx_csv (A0 := fun q => s.heap.size ≤ q) (H0 := s.heap) (vx_runV (As := [.int k]) (rest := []) ⟨hx, hb, hml, hown, hw⟩ (m_refuseIfNotThere l hl9 dC dI ax yx s.heap.size cc tc fc hc dr dO fC fO fT fH k n hn ecc) (cwV 1 hw (gw_V wb_239 wb_241 wbs_6 wb_1 wb_242) rfl rfl rfl (by decide +kernel) ⟨Nat.le_of_ble_eq_true rfl, Nat.le_of_ble_eq_true rfl⟩) ⟨blind_rdXT, va_recv hK hP (ci := 0) (q0 := 0) rfl rfl, fun U hU hW => ⟨rfl, by rw [hU], ⟨by rw [hU]; exact hP, va_K.moved hW.alike hK⟩, ThU.at hU hW hT⟩⟩ rfl rfl hl.1 rfl (lv_room (Nat.le_of_ble_eq_true rfl)) dX0_at_2 ⟨(Nat.le_of_ble_eq_true rfl), (Nat.le_of_ble_eq_true rfl)⟩) va_S.rf (fun q _ h => h) ?_ (fun h1 => ?_)
  · intro E ce q9 u t H1 ht ha hpx hBX h1 h2 h3 hce hcv hcl
    exact vx_out (fun x hx => (hnt x hx).elim) hlocks hce hcv hcl (fun t ht ha => ⟨(), Or.inl hpx, hBX, by rw [ht]; exact h1, fun q hq hn => by rw [ht]; exact h2 q hq (by rw [hsz]; exact hn)⟩) (fun _ h => nomatch h) (Nat.le_of_ble_eq_true rfl) (Nat.le_of_ble_eq_true rfl)
  have hin : vp_in k 600 := th_in ecc hn h1
  refine lv_iload_n hx hb dX0_at_5 rfl (lv_at hl 2 rfl) ?_
  refine lv_if_ge (tgt := 19) hx hb dX0_at_6 (by decide) (fun c1 => ?_) (fun c1 => ?_)
  · skip
    refine lv_aload_n hx hb dX0_at_19 rfl (lv_at hl 0 rfl) ?_
    refine va_get (D := (dC, dI)) (ci := 0) (v := .ref (ax 1)) (C := RX0) (T := TX0) (N := 10) hx hb hw inX0 hown hK hP 0 rfl rfl 0 (by decide) (hw _ wb_17) (fun _ h9 => h9) rfl dX0_at_20 ?_
    refine lv_iload_n hx hb dX0_at_23 rfl (lv_at hl 1 rfl) ?_
    refine va_iald hx hb hK hP 1 0 rfl rfl hin dX0_at_24 ?_
    refine lv_topi (fun x9 ex9 => ?_)
    refine lv_istore_n (lv' := [(3, .int x9), (0, .ref (ax 0)), (1, .int k), (2, .int i)]) hx hb dX0_at_25 rfl hl (by decide) rfl (fun ls hl => ?_)
    refine lv_iload_n hx hb dX0_at_26 rfl (lv_at hl 3 rfl) ?_
    refine lv_iload_n hx hb dX0_at_27 rfl (lv_at hl 0 rfl) ?_
    refine vp_callSi (W.runS (As := [.int x9]) (rest := [.int i]) ⟨hx, hb, hml, hown, hw⟩ (m_sizeOf l x9) (va_cwS 1 hw (gw_S wb_55 wb_56 wb_1 wb_57) rfl rfl rfl (by decide +kernel) ⟨Nat.le_of_ble_eq_true rfl, Nat.le_of_ble_eq_true rfl⟩) preEq rfl rfl hl.1 rfl (lv_room (Nat.le_of_ble_eq_true rfl)) dX0_at_28 ⟨Nat.le_of_ble_eq_true rfl, Nat.le_of_ble_eq_true rfl⟩) (fun r1 hr1 => ?_)
    subst hr1
    refine lv_icmp_lt (tgt := 36) hx hb dX0_at_31 (by decide) (fun c2 => ?_) (fun c2 => ?_)
    · skip
      refine lv_aload_n hx hb dX0_at_36 rfl (lv_at hl 1 rfl) ?_
      refine va_get (D := (dC, dI)) (ci := 0) (v := .ref (ax 2)) (C := RX0) (T := TX0) (N := 10) hx hb hw inX0 hown hK hP 0 rfl rfl 1 (by decide) (hw _ wb_18) (fun _ h9 => h9) rfl dX0_at_37 ?_
      refine lv_iload_n hx hb dX0_at_40 rfl (lv_at hl 2 rfl) ?_
      refine va_lald hx hb hK hP 2 1 rfl rfl hin dX0_at_41 ?_
      refine lv_iconst (v := 4) hx hb dX0_at_42 (by decide) ?_
      refine lv_iload_n hx hb dX0_at_43 rfl (lv_at hl 3 rfl) ?_
      refine lv_imul hx hb dX0_at_44 ?_
      refine lv_lushr (v := pb_lu (fO k.toNatClampNeg) (4 * i)) hx hb dX0_at_45 rfl ?_
      refine lv_ldc2 (v := 15) hx hb hown (hw _ wb_252) dX0_at_46 ?_
      refine lv_land hx hb dX0_at_49 ?_
      refine lv_l2i (v := ((pb_lu (fO k.toNatClampNeg) (4 * i)) &&& 15).toInt32) hx hb dX0_at_50 rfl ?_
      refine lv_iconst (v := 1) hx hb dX0_at_51 (by decide) ?_
      refine lv_iadd hx hb dX0_at_52 ?_
      refine lv_topi (fun v9 ev9 => ?_)
      have ev9 : v9 = at_var (fO k.toNatClampNeg) i := ev9
      refine lv_istore (lv' := [(4, .int v9), (3, .int x9), (0, .ref (ax 0)), (1, .int k), (2, .int i)]) hx hb dX0_at_53 hl (by decide) rfl (fun ls hl => ?_)
      refine lv_iload_n hx hb dX0_at_55 rfl (lv_at hl 1 rfl) ?_
      refine lv_iload hx hb dX0_at_56 (lv_at hl 0 rfl) ?_
      refine vp_callSi (W.runS (As := [.int v9]) (rest := [.int x9]) ⟨hx, hb, hml, hown, hw⟩ (m_bitOf l v9) (va_cwS 1 hw (gw_S wb_164 wb_165 wb_1 wb_166) rfl rfl rfl (by decide +kernel) ⟨Nat.le_of_ble_eq_true rfl, Nat.le_of_ble_eq_true rfl⟩) preEq rfl rfl hl.1 rfl (lv_room (Nat.le_of_ble_eq_true rfl)) dX0_at_58 ⟨Nat.le_of_ble_eq_true rfl, Nat.le_of_ble_eq_true rfl⟩) (fun r2 hr2 => ?_)
      subst hr2
      refine lv_iand hx hb dX0_at_61 ?_
      refine lv_if_eq (tgt := 70) hx hb dX0_at_62 (by decide) (fun c3 => ?_) (fun c3 => ?_)
      · skip
        refine lv_iload hx hb dX0_at_70 (lv_at hl 0 rfl) ?_
        refine lv_ineg hx hb dX0_at_72 ?_
        refine vx_ret ?_
        refine W.widen (k := 2) (n := 12) (by decide) (by decide) ?_
        exact W.iret (v := -v9) hx hb hrt (fun t ht hW => ⟨_, rfl, ⟨h1, Int32.not_lt.mpr c1, by rw [at_val, ← ex9, if_pos c2, ← ev9, if_pos c3]⟩, ht⟩) (fun q h => nomatch h) dX0_at_73
      · skip
        refine lv_iload hx hb dX0_at_65 (lv_at hl 0 rfl) ?_
        refine lv_goto (tgt := 73) hx hb dX0_at_67 (by decide) ?_
        refine vx_ret ?_
        refine W.widen (k := 2) (n := 12) (by decide) (by decide) ?_
        exact W.iret (v := v9) hx hb hrt (fun t ht hW => ⟨_, rfl, ⟨h1, Int32.not_lt.mpr c1, by rw [at_val, ← ex9, if_pos c2, ← ev9, if_neg c3]⟩, ht⟩) (fun q h => nomatch h) dX0_at_73
    · skip
      refine lv_iconst (v := 0) hx hb dX0_at_34 (by decide) ?_
      refine vx_ret ?_
      refine W.widen (k := 2) (n := 12) (by decide) (by decide) ?_
      exact W.iret (v := 0) hx hb hrt (fun t ht hW => ⟨_, rfl, ⟨h1, Int32.not_lt.mpr c1, by rw [at_val, ← ex9, if_neg c2]⟩, ht⟩) (fun q h => nomatch h) dX0_at_35
  · skip
    exact thr_I 87 "no place in a clause" (by decide) hx hb hl9 hown hw hT (by rw [hml]; exact hl.1) dX0_at_9 dX0_at_12 dX0_at_13 dX0_at_15 dX0_at_18 hnt (Nat.le_of_ble_eq_true rfl) (Nat.le_of_ble_eq_true rfl) (Nat.le_of_ble_eq_true rfl) (Nat.le_of_ble_eq_true rfl) hlocks (fun t h2 h3 => ⟨(), Or.inr (Int32.not_le.mp c1), rfl, h2, fun q h1 _ => h3 q h1⟩) (Nat.le_of_ble_eq_true rfl) (Nat.le_of_ble_eq_true rfl)
set_option maxHeartbeats 4000000 in
set_option maxRecDepth 100000 in
/-- count -/
theorem m_count (l : Launch) (hl9 : l.stackTraces = false) (dC : Nat → ClassId) (dI : Nat → Nat → Nat) (ax : Nat → Nat) (yx : Nat → ClassId) (sz0 : Nat) (cc tc fc hc dr : Int32) (dO : Int64) (fC : Nat → Int32) (fO : Nat → Int64) (fT fH : Nat → Int32) (k : Int32) : vx_Met l yX0_count wsX0_count (rmN 6 1 6) (va_Pc [.ref (ax 0), .int k] (fun U => U.heap.size = sz0 ∧ rdX dC dI ax yx (cc, tc, fc, hc, dr, dO, fC, fO, fT, fH) U ∧ ThU U)) (vp_Si (fun r => ¬ (k < 0 ∨ 4 < k) ∧ r = cn_val cc tc fc hc dr k)) (vx_X (fun (_ : Unit) => k < 0 ∨ 4 < k) (fun E _ _ => E = IAE) (fun q => sz0 ≤ q)) 1 6 (fun _ => False) := by
  refine vx_ofW (cc := cX0_count) (maxL := 2) (ret := (some .int)) (by decide) rfl ?_
  intro p e s m args below meth c s₁ B hml hnt hv
  obtain ⟨rfl, hsz, ⟨hP, hK⟩, hT⟩ := hv
  have hx := B.exec
  have hb := B.bytes
  have hrt := B.returns
  have hlocks := B.notSynchronized
  have hts := atoms_spec (ws := wsX0_count) B.pre
  have hw : ∀ w ∈ WB, w.before ([.ref (ax 0), .int k] : List Value).toArray s = true := fun w h => hts w (List.mem_cons_of_mem _ h)
  have hown : s.vm.findClass "ProofBench" = some m.cls := findClass_of_methodNamed B.named
  have hP : va_P (dC, dI) cls2 (XW ax yx (cc, tc, fc, hc, dr, dO, fC, fO, fT, fH)) s.heap := hP
  have hl := lv_entry ([.ref (ax 0), .int k]) (n := 2) (Nat.le_of_ble_eq_true rfl)
  rw [lg_entry_eq]
  generalize (lg_sl ([.ref (ax 0), .int k]) ++ List.replicate (2 - (lg_sl ([.ref (ax 0), .int k])).length) Slot.unset).toArray = ls at hl ⊢
  have hl : lv_has ls 2 [(0, .ref (ax 0)), (1, .int k)] := hl
  refine lv_iload_n hx hb dX0_count_0 rfl (lv_at hl 1 rfl) ?_
  by_cases hbad : k < 0 ∨ 4 < k
  · refine lv_tableOut (tgt := 64) hx hb dX0_count_1 (hbad.elim (fun h => Or.inl (Int32.lt_iff_toInt_lt.mp h)) (fun h => Or.inr (Int32.lt_iff_toInt_lt.mp h))) (by decide) ?_
    exact thr_I 102 "nothing that is counted" (by decide) hx hb hl9 hown hw hT (by rw [hml]; exact hl.1) dX0_count_64 dX0_count_67 dX0_count_68 dX0_count_70 dX0_count_73 hnt (Nat.le_of_ble_eq_true rfl) (Nat.le_of_ble_eq_true rfl) (Nat.le_of_ble_eq_true rfl) (Nat.le_of_ble_eq_true rfl) hlocks (fun t h2 h3 => ⟨(), hbad, rfl, h2, fun q h1 _ => h3 q h1⟩) (Nat.le_of_ble_eq_true rfl) (Nat.le_of_ble_eq_true rfl)
  · obtain ⟨j, hj, ej⟩ := nI_of2 (x := k) (M := 4) (n := 4) (by decide) (fun h => hbad (Or.inl h)) (Int32.not_lt.mp (fun h => hbad (Or.inr h)))
    have h5 : j = 0 ∨ j = 1 ∨ j = 2 ∨ j = 3 ∨ j = 4 := by omega
    rcases h5 with e5 | e5 | e5 | e5 | e5 <;> subst e5
    · subst ej
      refine lv_tableIn (off := 35) (tgt := 36) hx hb dX0_count_1 (by decide) (by decide) (by decide) (by decide) ?_
      refine lv_aload_n hx hb dX0_count_36 rfl (lv_at hl 0 rfl) ?_
      refine va_get (D := (dC, dI)) (ci := 0) (v := .int cc) (C := RX0) (T := TX0) (N := 10) hx hb hw inX0 hown hK hP 0 rfl rfl 4 (by decide) (hw _ wb_21) (fun _ h9 => h9) rfl dX0_count_37 ?_
      refine vx_ret ?_
      refine W.widen (k := 1) (n := 6) (by decide) (by decide) ?_
      exact W.iret (v := cc) hx hb hrt (fun t ht hW => ⟨_, rfl, ⟨hbad, rfl⟩, ht⟩) (fun q h => nomatch h) dX0_count_40
    · subst ej
      refine lv_tableIn (off := 40) (tgt := 41) hx hb dX0_count_1 (by decide) (by decide) (by decide) (by decide) ?_
      refine lv_aload_n hx hb dX0_count_41 rfl (lv_at hl 0 rfl) ?_
      refine va_get (D := (dC, dI)) (ci := 0) (v := .int tc) (C := RX0) (T := TX0) (N := 10) hx hb hw inX0 hown hK hP 0 rfl rfl 5 (by decide) (hw _ wb_22) (fun _ h9 => h9) rfl dX0_count_42 ?_
      refine vx_ret ?_
      refine W.widen (k := 1) (n := 6) (by decide) (by decide) ?_
      exact W.iret (v := tc) hx hb hrt (fun t ht hW => ⟨_, rfl, ⟨hbad, rfl⟩, ht⟩) (fun q h => nomatch h) dX0_count_45
    · subst ej
      refine lv_tableIn (off := 45) (tgt := 46) hx hb dX0_count_1 (by decide) (by decide) (by decide) (by decide) ?_
      refine lv_aload_n hx hb dX0_count_46 rfl (lv_at hl 0 rfl) ?_
      refine va_get (D := (dC, dI)) (ci := 0) (v := .int fc) (C := RX0) (T := TX0) (N := 10) hx hb hw inX0 hown hK hP 0 rfl rfl 6 (by decide) (hw _ wb_23) (fun _ h9 => h9) rfl dX0_count_47 ?_
      refine vx_ret ?_
      refine W.widen (k := 1) (n := 6) (by decide) (by decide) ?_
      exact W.iret (v := fc) hx hb hrt (fun t ht hW => ⟨_, rfl, ⟨hbad, rfl⟩, ht⟩) (fun q h => nomatch h) dX0_count_50
    · subst ej
      refine lv_tableIn (off := 50) (tgt := 51) hx hb dX0_count_1 (by decide) (by decide) (by decide) (by decide) ?_
      refine lv_aload_n hx hb dX0_count_51 rfl (lv_at hl 0 rfl) ?_
      refine va_get (D := (dC, dI)) (ci := 0) (v := .int dr) (C := RX0) (T := TX0) (N := 10) hx hb hw inX0 hown hK hP 0 rfl rfl 8 (by decide) (hw _ wb_25) (fun _ h9 => h9) rfl dX0_count_52 ?_
      refine vp_callSi (W.runS (As := [.int dr]) (rest := []) ⟨hx, hb, hml, hown, hw⟩ (m_sizeOf l dr) (va_cwS 1 hw (gw_S wb_55 wb_56 wb_1 wb_57) rfl rfl rfl (by decide +kernel) ⟨Nat.le_of_ble_eq_true rfl, Nat.le_of_ble_eq_true rfl⟩) preEq rfl rfl hl.1 rfl (lv_room (Nat.le_of_ble_eq_true rfl)) dX0_count_55 ⟨Nat.le_of_ble_eq_true rfl, Nat.le_of_ble_eq_true rfl⟩) (fun r4 h4 => ?_)
      subst h4
      refine vx_ret ?_
      refine W.widen (k := 1) (n := 6) (by decide) (by decide) ?_
      exact W.iret (v := nI (pb_sz dr)) hx hb hrt (fun t ht hW => ⟨_, rfl, ⟨hbad, rfl⟩, ht⟩) (fun q h => nomatch h) dX0_count_58
    · subst ej
      refine lv_tableIn (off := 58) (tgt := 59) hx hb dX0_count_1 (by decide) (by decide) (by decide) (by decide) ?_
      refine lv_aload_n hx hb dX0_count_59 rfl (lv_at hl 0 rfl) ?_
      refine va_get (D := (dC, dI)) (ci := 0) (v := .int hc) (C := RX0) (T := TX0) (N := 10) hx hb hw inX0 hown hK hP 0 rfl rfl 7 (by decide) (hw _ wb_24) (fun _ h9 => h9) rfl dX0_count_60 ?_
      refine vx_ret ?_
      refine W.widen (k := 1) (n := 6) (by decide) (by decide) ?_
      exact W.iret (v := hc) hx hb hrt (fun t ht hW => ⟨_, rfl, ⟨hbad, rfl⟩, ht⟩) (fun q h => nomatch h) dX0_count_63
set_option maxHeartbeats 4000000 in
set_option maxRecDepth 100000 in
/-- give -/
theorem m_give (l : Launch) (dC : Nat → ClassId) (dI : Nat → Nat → Nat) (ax : Nat → Nat) (yx : Nat → ClassId) (sz0 : Nat) (cc tc fc hc dr : Int32) (dO : Int64) (fC : Nat → Int32) (fO : Nat → Int64) (fT fH : Nat → Int32)  (n : Nat) (hn : n < 600) (ecc : cc = nI n) : Met l yX0_give wsX0_give (rmN 2 0 0) (va_Pc [.ref (ax 0)] (preX dC dI ax yx sz0 (cc, tc, fc, hc, dr, dO, fC, fO, fT, fH))) (va_Qi (fun (r : Int32) (u : XS) => r = cc ∧ u = kp_S (cc, tc, fc, hc, dr, dO, fC, fO, fT, fH)) (atX dC dI (va_A (XW ax yx (cc, tc, fc, hc, dr, dO, fC, fO, fT, fH)) sz0) ax yx) (va_A (XW ax yx (cc, tc, fc, hc, dr, dO, fC, fO, fT, fH)) sz0)) 0 0 (va_A (XW ax yx (cc, tc, fc, hc, dr, dO, fC, fO, fT, fH)) sz0) := by
  refine Met.ofW (cc := cX0_give) (maxL := 1) (ret := (some .int)) (by decide) rfl ?_
  intro p e s m args below meth c s₁ B hml hv
  obtain ⟨rfl, hsz, hP, hK, hD0⟩ := hv
  have hx := B.exec
  have hb := B.bytes
  have hrt := B.returns
  have hlocks := B.notSynchronized
  have hts := atoms_spec (ws := wsX0_give) B.pre
  have hw : ∀ w ∈ WB, w.before ([.ref (ax 0)] : List Value).toArray s = true := fun w h => hts w (List.mem_cons_of_mem _ h)
  have hown : s.vm.findClass "ProofBench" = some m.cls := findClass_of_methodNamed B.named
  subst hsz
  have hD := hD0.self (sz := s.heap.size)
  generalize hAe : va_A (XW ax yx (cc, tc, fc, hc, dr, dO, fC, fO, fT, fH)) s.heap.size = A at hD ⊢
  have hA : ∀ q : Nat, s.heap.size ≤ q → A q := fun q h => by rw [← hAe]; exact Or.inr h
  have hS : va_S A s.heap s.heap [] := va_S.rf
  have hP : va_P (dC, dI) cls2 (XW ax yx (cc, tc, fc, hc, dr, dO, fC, fO, fT, fH)) s.heap := hP
  have hl := lv_entry ([.ref (ax 0)]) (n := 1) (Nat.le_of_ble_eq_true rfl)
  rw [lg_entry_eq]
  generalize (lg_sl ([.ref (ax 0)]) ++ List.replicate (1 - (lg_sl ([.ref (ax 0)])).length) Slot.unset).toArray = ls at hl ⊢
  have hl : lv_has ls 1 [(0, .ref (ax 0))] := hl
  refine lv_aload_n hx hb dX0_give_0 rfl (lv_at hl 0 rfl) ?_
  refine va_csv (W.runV (As := []) (rest := []) ⟨hx, hb, hml, hown, hw⟩ (m_refuseIfFull l dC dI ax yx cc tc fc hc dr dO fC fO fT fH n hn ecc) (cwV 0 hw (gw_V wb_200 wb_202 wbs_2 wb_1 wb_203) rfl rfl rfl (by decide +kernel) ⟨Nat.le_of_ble_eq_true rfl, Nat.le_of_ble_eq_true rfl⟩) ⟨blind_rdX, va_recv hK hP (ci := 0) (q0 := 0) rfl rfl, fun U hU hW => ⟨rfl, by rw [hU]; exact hP, va_K.moved hW.alike hK⟩⟩ rfl rfl hl.1 rfl (lv_room (Nat.le_of_ble_eq_true rfl)) dX0_give_1 ⟨Nat.le_of_ble_eq_true rfl, Nat.le_of_ble_eq_true rfl⟩) (fun _ => ?_)
  refine lv_aload_n hx hb dX0_give_4 rfl (lv_at hl 0 rfl) ?_
  have hFc := va_free (wc := XW ax yx (cc, tc, fc, hc, dr, dO, fC, fO, fT, fH)) hD hS hA [0, 1, 2, 3, 4] rfl
  refine va_calli (va_runV (As := []) (rest := []) ⟨hx, hb, hml, hown, hw⟩ (m_keepDraft l dC dI ax yx s.heap.size cc tc fc hc dr dO fC fO fT fH n hn ecc) (cwV 0 hw (gw_V wb_205 wb_207 wbs_3 wb_1 wb_208) rfl rfl rfl (by decide +kernel) ⟨Nat.le_of_ble_eq_true rfl, Nat.le_of_ble_eq_true rfl⟩) ⟨blind_preX, va_recv hK hP (ci := 0) (q0 := 0) rfl rfl, fun U hU hW => ⟨rfl, by rw [hU], by rw [hU]; exact hP, va_K.moved hW.alike hK, hD.weaken (fun _ _ _ _ => trivial)⟩⟩ rfl rfl hl.1 rfl (lv_room (Nat.le_of_ble_eq_true rfl)) dX0_give_5 ⟨Nat.le_of_ble_eq_true rfl, Nat.le_of_ble_eq_true rfl⟩) hS (fun q _ h => hFc q h) hFc (fun r1 u t H1 locs ht hvm hq hB hz1 hk1 hS => ?_)
  obtain ⟨hr1, rfl⟩ := hq
  obtain ⟨hP1, hK1, hD1⟩ := hB
  rw [ht] at hP1
  have hP : va_P (dC, dI) cls2 (XW ax yx (cc + 1, tc + 1, fc, hc, 0, 0, upd fC cc.toNatClampNeg dr, vp_updL fO cc.toNatClampNeg dO, upd fT cc.toNatClampNeg (vp_nar .boolean 1), fH)) H1 := hP1
  have hD : va_D A (XW ax yx (cc + 1, tc + 1, fc, hc, 0, 0, upd fC cc.toNatClampNeg dr, vp_updL fO cc.toNatClampNeg dO, upd fT cc.toNatClampNeg (vp_nar .boolean 1), fH)) := hD1.weaken (fun k q h _ => hFc q.1 (hD1.2 k q h))
  generalize H1 = H at hP hS ⊢
  exact W.iret (v := r1) hx hb hrt (fun t ht hW => ⟨⟨_, _, rfl, ⟨hr1, rfl⟩, by rw [ht]; exact hP, va_K.moved hW.alike hK, hD⟩, hS.F ht⟩) hS.2.2 dX0_give_8
set_option maxHeartbeats 4000000 in
set_option maxRecDepth 100000 in
/-- step -/
theorem m_step (l : Launch) (dC : Nat → ClassId) (dI : Nat → Nat → Nat) (ax : Nat → Nat) (yx : Nat → ClassId) (sz0 : Nat) (cc tc fc hc dr : Int32) (dO : Int64) (fC : Nat → Int32) (fO : Nat → Int64) (fT fH : Nat → Int32)  (n : Nat) (hn : n < 600) (ecc : cc = nI n) : Met l yX0_step wsX0_step (rmN 4 0 0) (va_Pc [.ref (ax 0)] (preX dC dI ax yx sz0 (cc, tc, fc, hc, dr, dO, fC, fO, fT, fH))) (va_Qi (fun (r : Int32) (u : XS) => (td_val (tl_rounds fC fT n 17 dr) dr = 17 ∧ r = cc ∧ u = kp_S (cc, tc, fc + 1, hc, dr, dO, fC, fO, fT, fH)) ∨ (¬ td_val (tl_rounds fC fT n 17 dr) dr = 17 ∧ r = -1 ∧ u = (cc, tc, fc, hc, dr, dO, fC, fO, fT, fH))) (atX dC dI (va_A (XW ax yx (cc, tc, fc, hc, dr, dO, fC, fO, fT, fH)) sz0) ax yx) (va_A (XW ax yx (cc, tc, fc, hc, dr, dO, fC, fO, fT, fH)) sz0)) 0 0 (va_A (XW ax yx (cc, tc, fc, hc, dr, dO, fC, fO, fT, fH)) sz0) := by
  refine Met.ofW (cc := cX0_step) (maxL := 1) (ret := (some .int)) (by decide) rfl ?_
  intro p e s m args below meth c s₁ B hml hv
  obtain ⟨rfl, hsz, hP, hK, hD0⟩ := hv
  have hx := B.exec
  have hb := B.bytes
  have hrt := B.returns
  have hlocks := B.notSynchronized
  have hts := atoms_spec (ws := wsX0_step) B.pre
  have hw : ∀ w ∈ WB, w.before ([.ref (ax 0)] : List Value).toArray s = true := fun w h => hts w (List.mem_cons_of_mem _ h)
  have hown : s.vm.findClass "ProofBench" = some m.cls := findClass_of_methodNamed B.named
  subst hsz
  have hD := hD0.self (sz := s.heap.size)
  generalize hAe : va_A (XW ax yx (cc, tc, fc, hc, dr, dO, fC, fO, fT, fH)) s.heap.size = A at hD ⊢
  have hA : ∀ q : Nat, s.heap.size ≤ q → A q := fun q h => by rw [← hAe]; exact Or.inr h
  have hS : va_S A s.heap s.heap [] := va_S.rf
  have hP : va_P (dC, dI) cls2 (XW ax yx (cc, tc, fc, hc, dr, dO, fC, fO, fT, fH)) s.heap := hP
  have hl := lv_entry ([.ref (ax 0)]) (n := 1) (Nat.le_of_ble_eq_true rfl)
  rw [lg_entry_eq]
  generalize (lg_sl ([.ref (ax 0)]) ++ List.replicate (1 - (lg_sl ([.ref (ax 0)])).length) Slot.unset).toArray = ls at hl ⊢
  have hl : lv_has ls 1 [(0, .ref (ax 0))] := hl
  refine lv_aload_n hx hb dX0_step_0 rfl (lv_at hl 0 rfl) ?_
  refine va_csv (W.runV (As := []) (rest := []) ⟨hx, hb, hml, hown, hw⟩ (m_refuseIfFull l dC dI ax yx cc tc fc hc dr dO fC fO fT fH n hn ecc) (cwV 0 hw (gw_V wb_200 wb_202 wbs_2 wb_1 wb_203) rfl rfl rfl (by decide +kernel) ⟨Nat.le_of_ble_eq_true rfl, Nat.le_of_ble_eq_true rfl⟩) ⟨blind_rdX, va_recv hK hP (ci := 0) (q0 := 0) rfl rfl, fun U hU hW => ⟨rfl, by rw [hU]; exact hP, va_K.moved hW.alike hK⟩⟩ rfl rfl hl.1 rfl (lv_room (Nat.le_of_ble_eq_true rfl)) dX0_step_1 ⟨Nat.le_of_ble_eq_true rfl, Nat.le_of_ble_eq_true rfl⟩) (fun _ => ?_)
  refine lv_aload_n hx hb dX0_step_4 rfl (lv_at hl 0 rfl) ?_
  refine vp_callSi (W.runV (As := []) (rest := []) ⟨hx, hb, hml, hown, hw⟩ (m_told l dC dI ax yx cc tc fc hc dr dO fC fO fT fH n (Nat.le_of_lt hn) ecc) (cwV 0 hw (gw_V wb_216 wb_69 wb_70 wb_1 wb_71) rfl rfl rfl (by decide +kernel) ⟨Nat.le_of_ble_eq_true rfl, Nat.le_of_ble_eq_true rfl⟩) ⟨blind_rdX, va_recv hK hP (ci := 0) (q0 := 0) rfl rfl, fun U hU hW => ⟨rfl, by rw [hU]; exact hP, va_K.moved hW.alike hK⟩⟩ rfl rfl hl.1 rfl (lv_room (Nat.le_of_ble_eq_true rfl)) dX0_step_5 ⟨Nat.le_of_ble_eq_true rfl, Nat.le_of_ble_eq_true rfl⟩) (fun r1 h1 => ?_)
  subst h1
  refine lv_bipush (v := 17) hx hb dX0_step_8 (by decide) ?_
  refine lv_icmp_eq (tgt := 15) hx hb dX0_step_10 (by decide) (fun c1 => ?_) (fun c1 => ?_)
  · skip
    refine lv_aload_n hx hb dX0_step_15 rfl (lv_at hl 0 rfl) ?_
    refine lv_dup hx hb dX0_step_16 rfl ?_
    refine va_get (D := (dC, dI)) (ci := 0) (v := .int fc) (C := RX0) (T := TX0) (N := 10) hx hb hw inX0 hown hK hP 0 rfl rfl 6 (by decide) (hw _ wb_23) (fun _ h9 => h9) rfl dX0_step_17 ?_
    refine lv_iconst (v := 1) hx hb dX0_step_20 (by decide) ?_
    refine lv_iadd hx hb dX0_step_21 ?_
    refine va_put (D := (dC, dI)) (ci := 0) (v := .int (fc + 1)) (ty := .int) (C := RX0) (T := TX0) (N := 10) hx hb hw inX0 tyX0 tyX0_ok nmX0 hown hK hP hD hS 0 rfl rfl 6 (by decide) (hw _ wb_23) (fun _ h9 => h9) rfl (by decide +kernel) rfl rfl (Nat.le_of_ble_eq_true rfl) dX0_step_22 (fun H locs hP hD hS => ?_)
    have hP : va_P (dC, dI) cls2 (XW ax yx (cc, tc, fc + 1, hc, dr, dO, fC, fO, fT, fH)) H := hP
    have hD : va_D A (XW ax yx (cc, tc, fc + 1, hc, dr, dO, fC, fO, fT, fH)) := hD
    refine lv_aload_n hx hb dX0_step_25 rfl (lv_at hl 0 rfl) ?_
    have hFc := va_free (wc := XW ax yx (cc, tc, fc + 1, hc, dr, dO, fC, fO, fT, fH)) hD hS hA [0, 1, 2, 3, 4] rfl
    refine va_calli (va_runV (As := []) (rest := []) ⟨hx, hb, hml, hown, hw⟩ (m_keepDraft l dC dI ax yx H.size cc tc (fc + 1) hc dr dO fC fO fT fH n hn ecc) (cwV 0 hw (gw_V wb_205 wb_207 wbs_3 wb_1 wb_208) rfl rfl rfl (by decide +kernel) ⟨Nat.le_of_ble_eq_true rfl, Nat.le_of_ble_eq_true rfl⟩) ⟨blind_preX, va_recv hK hP (ci := 0) (q0 := 0) rfl rfl, fun U hU hW => ⟨rfl, by rw [hU], by rw [hU]; exact hP, va_K.moved hW.alike hK, hD.weaken (fun _ _ _ _ => trivial)⟩⟩ rfl rfl hl.1 rfl (lv_room (Nat.le_of_ble_eq_true rfl)) dX0_step_26 ⟨Nat.le_of_ble_eq_true rfl, Nat.le_of_ble_eq_true rfl⟩) hS (fun q _ h => hFc q h) hFc (fun r1 u t H1 locs ht hvm hq hB hz1 hk1 hS => ?_)
    obtain ⟨hr1, rfl⟩ := hq
    obtain ⟨hP1, hK1, hD1⟩ := hB
    rw [ht] at hP1
    have hP : va_P (dC, dI) cls2 (XW ax yx (cc + 1, tc + 1, fc + 1, hc, 0, 0, upd fC cc.toNatClampNeg dr, vp_updL fO cc.toNatClampNeg dO, upd fT cc.toNatClampNeg (vp_nar .boolean 1), fH)) H1 := hP1
    have hD : va_D A (XW ax yx (cc + 1, tc + 1, fc + 1, hc, 0, 0, upd fC cc.toNatClampNeg dr, vp_updL fO cc.toNatClampNeg dO, upd fT cc.toNatClampNeg (vp_nar .boolean 1), fH)) := hD1.weaken (fun k q h _ => hFc q.1 (hD1.2 k q h))
    generalize H1 = H at hP hS ⊢
    exact W.iret (v := r1) hx hb hrt (fun t ht hW => ⟨⟨_, _, rfl, Or.inl ⟨c1, hr1, rfl⟩, by rw [ht]; exact hP, va_K.moved hW.alike hK, hD⟩, hS.F ht⟩) hS.2.2 dX0_step_29
  · skip
    refine lv_iconst (v := (-1)) hx hb dX0_step_13 (by decide) ?_
    exact W.iret (v := (-1)) hx hb hrt (fun t ht hW => ⟨⟨_, _, rfl, Or.inr ⟨c1, rfl, rfl⟩, by rw [ht]; exact hP, va_K.moved hW.alike hK, hD⟩, hS.F ht⟩) hS.2.2 dX0_step_14
set_option maxHeartbeats 4000000 in
set_option maxRecDepth 100000 in
/-- along -/
theorem m_along (l : Launch) (dC : Nat → ClassId) (dI : Nat → Nat → Nat) (ax : Nat → Nat) (yx : Nat → ClassId) (sz0 : Nat) (cc tc fc hc dr : Int32) (dO : Int64) (fC : Nat → Int32) (fO : Nat → Int64) (fT fH : Nat → Int32)  (n : Nat) (hn : n < 600) (ecc : cc = nI n) (q : Nat) (hq40 : q ≤ 40) (ehc : hc = nI q) : Met l yX0_along wsX0_along (rmN 4 0 0) (va_Pc [.ref (ax 0)] (preX dC dI ax yx sz0 (cc, tc, fc, hc, dr, dO, fC, fO, fT, fH))) (va_Qi (fun (r : Int32) (u : XS) => (bh_scan cc fC fT fH q 0 dr = -1 ∧ r = cc ∧ u = kp_S (cc, tc, fc + 1, 0, dr, dO, fC, fO, fT, fH)) ∨ (¬ bh_scan cc fC fT fH q 0 dr = -1 ∧ r = -1 - bh_scan cc fC fT fH q 0 dr ∧ u = (cc, tc, fc, hc, dr, dO, fC, fO, fT, fH))) (atX dC dI (va_A (XW ax yx (cc, tc, fc, hc, dr, dO, fC, fO, fT, fH)) sz0) ax yx) (va_A (XW ax yx (cc, tc, fc, hc, dr, dO, fC, fO, fT, fH)) sz0)) 0 0 (va_A (XW ax yx (cc, tc, fc, hc, dr, dO, fC, fO, fT, fH)) sz0) := by
  refine Met.ofW (cc := cX0_along) (maxL := 2) (ret := (some .int)) (by decide) rfl ?_
  intro p e s m args below meth c s₁ B hml hv
  obtain ⟨rfl, hsz, hP, hK, hD0⟩ := hv
  have hx := B.exec
  have hb := B.bytes
  have hrt := B.returns
  have hlocks := B.notSynchronized
  have hts := atoms_spec (ws := wsX0_along) B.pre
  have hw : ∀ w ∈ WB, w.before ([.ref (ax 0)] : List Value).toArray s = true := fun w h => hts w (List.mem_cons_of_mem _ h)
  have hown : s.vm.findClass "ProofBench" = some m.cls := findClass_of_methodNamed B.named
  subst hsz
  have hD := hD0.self (sz := s.heap.size)
  generalize hAe : va_A (XW ax yx (cc, tc, fc, hc, dr, dO, fC, fO, fT, fH)) s.heap.size = A at hD ⊢
  have hA : ∀ q : Nat, s.heap.size ≤ q → A q := fun q h => by rw [← hAe]; exact Or.inr h
  have hS : va_S A s.heap s.heap [] := va_S.rf
  have hP : va_P (dC, dI) cls2 (XW ax yx (cc, tc, fc, hc, dr, dO, fC, fO, fT, fH)) s.heap := hP
  have hl := lv_entry ([.ref (ax 0)]) (n := 2) (Nat.le_of_ble_eq_true rfl)
  rw [lg_entry_eq]
  generalize (lg_sl ([.ref (ax 0)]) ++ List.replicate (2 - (lg_sl ([.ref (ax 0)])).length) Slot.unset).toArray = ls at hl ⊢
  have hl : lv_has ls 2 [(0, .ref (ax 0))] := hl
  refine lv_aload_n hx hb dX0_along_0 rfl (lv_at hl 0 rfl) ?_
  refine va_csv (W.runV (As := []) (rest := []) ⟨hx, hb, hml, hown, hw⟩ (m_refuseIfFull l dC dI ax yx cc tc fc hc dr dO fC fO fT fH n hn ecc) (cwV 0 hw (gw_V wb_200 wb_202 wbs_2 wb_1 wb_203) rfl rfl rfl (by decide +kernel) ⟨Nat.le_of_ble_eq_true rfl, Nat.le_of_ble_eq_true rfl⟩) ⟨blind_rdX, va_recv hK hP (ci := 0) (q0 := 0) rfl rfl, fun U hU hW => ⟨rfl, by rw [hU]; exact hP, va_K.moved hW.alike hK⟩⟩ rfl rfl hl.1 rfl (lv_room (Nat.le_of_ble_eq_true rfl)) dX0_along_1 ⟨Nat.le_of_ble_eq_true rfl, Nat.le_of_ble_eq_true rfl⟩) (fun _ => ?_)
  refine lv_aload_n hx hb dX0_along_4 rfl (lv_at hl 0 rfl) ?_
  refine vp_callSi (W.runV (As := []) (rest := []) ⟨hx, hb, hml, hown, hw⟩ (m_firstBadHint l dC dI ax yx cc tc fc hc dr dO fC fO fT fH n (Nat.le_of_lt hn) ecc q hq40 ehc) (cwV 0 hw (gw_V wb_224 wb_226 wbs_4 wb_1 wb_227) rfl rfl rfl (by decide +kernel) ⟨Nat.le_of_ble_eq_true rfl, Nat.le_of_ble_eq_true rfl⟩) ⟨blind_rdX, va_recv hK hP (ci := 0) (q0 := 0) rfl rfl, fun U hU hW => ⟨rfl, by rw [hU]; exact hP, va_K.moved hW.alike hK⟩⟩ rfl rfl hl.1 rfl (lv_room (Nat.le_of_ble_eq_true rfl)) dX0_along_5 ⟨Nat.le_of_ble_eq_true rfl, Nat.le_of_ble_eq_true rfl⟩) (fun r1 h1 => ?_)
  subst h1
  refine lv_istore_n (lv' := [(1, .int (bh_scan cc fC fT fH q 0 dr)), (0, .ref (ax 0))]) hx hb dX0_along_8 rfl hl (by decide) rfl (fun ls hl => ?_)
  refine lv_iload_n hx hb dX0_along_9 rfl (lv_at hl 0 rfl) ?_
  refine lv_iconst (v := (-1)) hx hb dX0_along_10 (by decide) ?_
  refine lv_icmp_eq (tgt := 18) hx hb dX0_along_11 (by decide) (fun c1 => ?_) (fun c1 => ?_)
  · skip
    refine lv_aload_n hx hb dX0_along_18 rfl (lv_at hl 1 rfl) ?_
    refine lv_dup hx hb dX0_along_19 rfl ?_
    refine va_get (D := (dC, dI)) (ci := 0) (v := .int fc) (C := RX0) (T := TX0) (N := 10) hx hb hw inX0 hown hK hP 0 rfl rfl 6 (by decide) (hw _ wb_23) (fun _ h9 => h9) rfl dX0_along_20 ?_
    refine lv_iconst (v := 1) hx hb dX0_along_23 (by decide) ?_
    refine lv_iadd hx hb dX0_along_24 ?_
    refine va_put (D := (dC, dI)) (ci := 0) (v := .int (fc + 1)) (ty := .int) (C := RX0) (T := TX0) (N := 10) hx hb hw inX0 tyX0 tyX0_ok nmX0 hown hK hP hD hS 0 rfl rfl 6 (by decide) (hw _ wb_23) (fun _ h9 => h9) rfl (by decide +kernel) rfl rfl (Nat.le_of_ble_eq_true rfl) dX0_along_25 (fun H locs hP hD hS => ?_)
    have hP : va_P (dC, dI) cls2 (XW ax yx (cc, tc, fc + 1, hc, dr, dO, fC, fO, fT, fH)) H := hP
    have hD : va_D A (XW ax yx (cc, tc, fc + 1, hc, dr, dO, fC, fO, fT, fH)) := hD
    refine lv_aload_n hx hb dX0_along_28 rfl (lv_at hl 1 rfl) ?_
    refine lv_iconst (v := 0) hx hb dX0_along_29 (by decide) ?_
    refine va_put (D := (dC, dI)) (ci := 0) (v := .int 0) (ty := .int) (C := RX0) (T := TX0) (N := 10) hx hb hw inX0 tyX0 tyX0_ok nmX0 hown hK hP hD hS 0 rfl rfl 7 (by decide) (hw _ wb_24) (fun _ h9 => h9) rfl (by decide +kernel) rfl rfl (Nat.le_of_ble_eq_true rfl) dX0_along_30 (fun H locs hP hD hS => ?_)
    have hP : va_P (dC, dI) cls2 (XW ax yx (cc, tc, fc + 1, 0, dr, dO, fC, fO, fT, fH)) H := hP
    have hD : va_D A (XW ax yx (cc, tc, fc + 1, 0, dr, dO, fC, fO, fT, fH)) := hD
    refine lv_aload_n hx hb dX0_along_33 rfl (lv_at hl 1 rfl) ?_
    have hFc := va_free (wc := XW ax yx (cc, tc, fc + 1, 0, dr, dO, fC, fO, fT, fH)) hD hS hA [0, 1, 2, 3, 4] rfl
    refine va_calli (va_runV (As := []) (rest := []) ⟨hx, hb, hml, hown, hw⟩ (m_keepDraft l dC dI ax yx H.size cc tc (fc + 1) 0 dr dO fC fO fT fH n hn ecc) (cwV 0 hw (gw_V wb_205 wb_207 wbs_3 wb_1 wb_208) rfl rfl rfl (by decide +kernel) ⟨Nat.le_of_ble_eq_true rfl, Nat.le_of_ble_eq_true rfl⟩) ⟨blind_preX, va_recv hK hP (ci := 0) (q0 := 0) rfl rfl, fun U hU hW => ⟨rfl, by rw [hU], by rw [hU]; exact hP, va_K.moved hW.alike hK, hD.weaken (fun _ _ _ _ => trivial)⟩⟩ rfl rfl hl.1 rfl (lv_room (Nat.le_of_ble_eq_true rfl)) dX0_along_34 ⟨Nat.le_of_ble_eq_true rfl, Nat.le_of_ble_eq_true rfl⟩) hS (fun q _ h => hFc q h) hFc (fun r1 u t H1 locs ht hvm hq hB hz1 hk1 hS => ?_)
    obtain ⟨hr1, rfl⟩ := hq
    obtain ⟨hP1, hK1, hD1⟩ := hB
    rw [ht] at hP1
    have hP : va_P (dC, dI) cls2 (XW ax yx (cc + 1, tc + 1, fc + 1, 0, 0, 0, upd fC cc.toNatClampNeg dr, vp_updL fO cc.toNatClampNeg dO, upd fT cc.toNatClampNeg (vp_nar .boolean 1), fH)) H1 := hP1
    have hD : va_D A (XW ax yx (cc + 1, tc + 1, fc + 1, 0, 0, 0, upd fC cc.toNatClampNeg dr, vp_updL fO cc.toNatClampNeg dO, upd fT cc.toNatClampNeg (vp_nar .boolean 1), fH)) := hD1.weaken (fun k q h _ => hFc q.1 (hD1.2 k q h))
    generalize H1 = H at hP hS ⊢
    exact W.iret (v := r1) hx hb hrt (fun t ht hW => ⟨⟨_, _, rfl, Or.inl ⟨c1, hr1, rfl⟩, by rw [ht]; exact hP, va_K.moved hW.alike hK, hD⟩, hS.F ht⟩) hS.2.2 dX0_along_37
  · skip
    refine lv_iconst (v := (-1)) hx hb dX0_along_14 (by decide) ?_
    refine lv_iload_n hx hb dX0_along_15 rfl (lv_at hl 0 rfl) ?_
    refine lv_isub hx hb dX0_along_16 ?_
    exact W.iret (v := (-1) - (bh_scan cc fC fT fH q 0 dr)) hx hb hrt (fun t ht hW => ⟨⟨_, _, rfl, Or.inr ⟨c1, rfl, rfl⟩, by rw [ht]; exact hP, va_K.moved hW.alike hK, hD⟩, hS.F ht⟩) hS.2.2 dX0_along_17
end
section
/-! the reference's methods without loops -/
theorem lit33 {k : Int32} (h1 : ¬ k < -16) (h2 : ¬ 16 < k) : ∃ j : Nat, j < 33 ∧ k = nI j - 16 := by
  have a1 : -16 ≤ k.toInt := Int32.le_iff_toInt_le.mp (Int32.not_lt.mp h1)
  have a2 : k.toInt ≤ 16 := Int32.le_iff_toInt_le.mp (Int32.not_lt.mp h2)
  refine ⟨(k.toInt + 16).toNat, by omega, ?_⟩
  have e : nI (k.toInt + 16).toNat = k + 16 := by
    apply Int32.toInt_inj.mp
    rw [nI_toInt (by omega), Int32.toInt_add]
    have e16 : (16 : Int32).toInt = 16 := by decide
    rw [e16, Int.bmod_eq_of_le (by omega) (by omega)]
    omega
  rw [e]
  apply Int32.toBitVec_inj.mp
  simp
theorem ab33 : ∀ j, j < 33 → vp_in (lt_abs (nI j - 16)) 17 := by
  intro j hj
  exact (by decide +kernel : ∀ j, j < 33 → ¬ (lt_abs (nI j - 16) < 0 ∨ 17 ≤ (lt_abs (nI j - 16)).toNatClampNeg)) j hj
theorem ab_in {k : Int32} (h1 : ¬ k < -16) (h2 : ¬ 16 < k) : vp_in (lt_abs k) 17 := by
  obtain ⟨j, hj, e⟩ := lit33 h1 h2
  rw [e]
  exact ab33 j hj
/-- of(l): what a literal is under the values -/
def of_v (fV : Nat → Int32) (k : Int32) : Int32 := if fV (lt_abs k).toNatClampNeg = 0 then 0 else if 0 < k then fV (lt_abs k).toNatClampNeg else 3 - fV (lt_abs k).toNatClampNeg
def tell_v (fV : Nat → Int32) (k : Int32) : Nat → Int32 := upd fV (lt_abs k).toNatClampNeg (if 0 < k then 1 else 2)
def mt_b (ct : Int32) (fN : Nat → Int32) (k : Int32) : Int32 := if ¬ k < 0 ∧ ¬ ct ≤ k ∧ ¬ fN k.toNatClampNeg < 0 then 1 else 0
def tr_v (fW : Nat → Int64) (v c : Int32) : Int64 := if 7 ≤ v then (if (c >>> ((v - 7) &&& 31)) &&& 1 = 1 then -1 else 0) else fW v.toNatClampNeg
theorem mt_in {ct k : Int32} {fN : Nat → Int32} {n : Nat} (e : ct = nI n) (hn : n ≤ 600) (h : mt_b ct fN k ≠ 0) : vp_in k 600 := by
  by_cases z : ¬ k < 0 ∧ ¬ ct ≤ k ∧ ¬ fN k.toNatClampNeg < 0
  · exact in_c e hn (by decide) z.1 z.2.1
  · rw [mt_b, if_neg z] at h
    exact absurd rfl h
set_option maxHeartbeats 4000000 in
set_option maxRecDepth 100000 in
/-- thrown -/
theorem n_thrown (l : Launch) (dC : Nat → ClassId) (dI : Nat → Nat → Nat) (am : Nat → Nat) (ym : Nat → ClassId) (co ct th fo sg sz hc : Int32) (fL fN fD fH fV : Nat → Int32) (fM fW : Nat → Int64)  : Met l yX1_thrown wsX1_thrown (rmN 0 0 0) (va_Pc [.ref (am 0)] (rdM dC dI am ym (co, ct, th, fo, sg, sz, hc, fL, fN, fD, fH, fV, fM, fW))) (vp_Si (fun r => r = co)) 0 0 (fun _ => False) := by
  refine Met.ofW (cc := cX1_thrown) (maxL := 1) (ret := (some .int)) (by decide) rfl ?_
  intro p e s m args below meth c s₁ B hml hv
  obtain ⟨rfl, hP, hK⟩ := hv
  have hx := B.exec
  have hb := B.bytes
  have hrt := B.returns
  have hlocks := B.notSynchronized
  have hts := atoms_spec (ws := wsX1_thrown) B.pre
  have hw : ∀ w ∈ WB, w.before ([.ref (am 0)] : List Value).toArray s = true := fun w h => hts w (List.mem_cons_of_mem _ h)
  have hown : s.vm.findClass "ProofBenchModel" = some m.cls := findClass_of_methodNamed B.named
  have hP : va_P (dC, dI) cls2 (MW am ym (co, ct, th, fo, sg, sz, hc, fL, fN, fD, fH, fV, fM, fW)) s.heap := hP
  have hl := lv_entry ([.ref (am 0)]) (n := 1) (Nat.le_of_ble_eq_true rfl)
  rw [lg_entry_eq]
  generalize (lg_sl ([.ref (am 0)]) ++ List.replicate (1 - (lg_sl ([.ref (am 0)])).length) Slot.unset).toArray = ls at hl ⊢
  have hl : lv_has ls 1 [(0, .ref (am 0))] := hl
  refine lv_aload_n hx hb dX1_thrown_0 rfl (lv_at hl 0 rfl) ?_
  refine va_get (D := (dC, dI)) (ci := 1) (v := .int co) (C := RX1) (T := TX1) (N := 14) hx hb hw inX1 hown hK hP 0 rfl rfl 0 (by decide) (hw _ wb_268) (fun _ h9 => h9) rfl dX1_thrown_1 ?_
  exact W.iret (v := co) hx hb hrt (fun t ht hW => ⟨_, rfl, rfl, ht⟩) (fun q h => nomatch h) dX1_thrown_4
set_option maxHeartbeats 4000000 in
set_option maxRecDepth 100000 in
/-- wrong -/
theorem n_wrong (l : Launch) (dC : Nat → ClassId) (dI : Nat → Nat → Nat) (am : Nat → Nat) (ym : Nat → ClassId) (sz0 : Nat) (co ct th fo sg sz hc : Int32) (fL fN fD fH fV : Nat → Int32) (fM fW : Nat → Int64)  : Met l yX1_wrong wsX1_wrong (rmN 0 0 0) (va_Pc [.ref (am 0)] (preM dC dI am ym sz0 (co, ct, th, fo, sg, sz, hc, fL, fN, fD, fH, fV, fM, fW))) (va_Qi (fun (r : Int32) (u : MS) => r = sg ∧ u = (0, ct, th, fo, sg, sz, hc, fL, fN, fD, fH, fV, fM, fW)) (atM dC dI (va_A (MW am ym (co, ct, th, fo, sg, sz, hc, fL, fN, fD, fH, fV, fM, fW)) sz0) am ym) (va_A (MW am ym (co, ct, th, fo, sg, sz, hc, fL, fN, fD, fH, fV, fM, fW)) sz0)) 0 0 (va_A (MW am ym (co, ct, th, fo, sg, sz, hc, fL, fN, fD, fH, fV, fM, fW)) sz0) := by
  refine Met.ofW (cc := cX1_wrong) (maxL := 1) (ret := (some .int)) (by decide) rfl ?_
  intro p e s m args below meth c s₁ B hml hv
  obtain ⟨rfl, hsz, hP, hK, hD0⟩ := hv
  have hx := B.exec
  have hb := B.bytes
  have hrt := B.returns
  have hlocks := B.notSynchronized
  have hts := atoms_spec (ws := wsX1_wrong) B.pre
  have hw : ∀ w ∈ WB, w.before ([.ref (am 0)] : List Value).toArray s = true := fun w h => hts w (List.mem_cons_of_mem _ h)
  have hown : s.vm.findClass "ProofBenchModel" = some m.cls := findClass_of_methodNamed B.named
  subst hsz
  have hD := hD0.self (sz := s.heap.size)
  generalize hAe : va_A (MW am ym (co, ct, th, fo, sg, sz, hc, fL, fN, fD, fH, fV, fM, fW)) s.heap.size = A at hD ⊢
  have hA : ∀ q : Nat, s.heap.size ≤ q → A q := fun q h => by rw [← hAe]; exact Or.inr h
  have hS : va_S A s.heap s.heap [] := va_S.rf
  have hP : va_P (dC, dI) cls2 (MW am ym (co, ct, th, fo, sg, sz, hc, fL, fN, fD, fH, fV, fM, fW)) s.heap := hP
  have hl := lv_entry ([.ref (am 0)]) (n := 1) (Nat.le_of_ble_eq_true rfl)
  rw [lg_entry_eq]
  generalize (lg_sl ([.ref (am 0)]) ++ List.replicate (1 - (lg_sl ([.ref (am 0)])).length) Slot.unset).toArray = ls at hl ⊢
  have hl : lv_has ls 1 [(0, .ref (am 0))] := hl
  refine lv_aload_n hx hb dX1_wrong_0 rfl (lv_at hl 0 rfl) ?_
  refine lv_iconst (v := 0) hx hb dX1_wrong_1 (by decide) ?_
  refine va_put (D := (dC, dI)) (ci := 1) (v := .int 0) (ty := .int) (C := RX1) (T := TX1) (N := 14) hx hb hw inX1 tyX1 tyX1_ok nmX1 hown hK hP hD hS 0 rfl rfl 0 (by decide) (hw _ wb_268) (fun _ h9 => h9) rfl (by decide +kernel) rfl rfl (Nat.le_of_ble_eq_true rfl) dX1_wrong_2 (fun H locs hP hD hS => ?_)
  have hP : va_P (dC, dI) cls2 (MW am ym (0, ct, th, fo, sg, sz, hc, fL, fN, fD, fH, fV, fM, fW)) H := hP
  have hD : va_D A (MW am ym (0, ct, th, fo, sg, sz, hc, fL, fN, fD, fH, fV, fM, fW)) := hD
  refine lv_aload_n hx hb dX1_wrong_5 rfl (lv_at hl 0 rfl) ?_
  refine va_get (D := (dC, dI)) (ci := 1) (v := .int sg) (C := RX1) (T := TX1) (N := 14) hx hb hw inX1 hown hK hP 0 rfl rfl 4 (by decide) (hw _ wb_272) (fun _ h9 => h9) rfl dX1_wrong_6 ?_
  exact W.iret (v := sg) hx hb hrt (fun t ht hW => ⟨⟨_, _, rfl, ⟨rfl, rfl⟩, by rw [ht]; exact hP, va_K.moved hW.alike hK, hD⟩, hS.F ht⟩) hS.2.2 dX1_wrong_9
set_option maxHeartbeats 4000000 in
set_option maxRecDepth 100000 in
/-- clear -/
theorem n_clear (l : Launch) (dC : Nat → ClassId) (dI : Nat → Nat → Nat) (am : Nat → Nat) (ym : Nat → ClassId) (sz0 : Nat) (co ct th fo sg sz hc : Int32) (fL fN fD fH fV : Nat → Int32) (fM fW : Nat → Int64)  : Met l yX1_clear wsX1_clear (rmN 0 0 0) (va_Pc [.ref (am 0)] (preM dC dI am ym sz0 (co, ct, th, fo, sg, sz, hc, fL, fN, fD, fH, fV, fM, fW))) (va_Qi (fun (r : Int32) (u : MS) => r = sz + hc ∧ u = (0, ct, th, fo, sg, 0, 0, fL, fN, fD, fH, fV, fM, fW)) (atM dC dI (va_A (MW am ym (co, ct, th, fo, sg, sz, hc, fL, fN, fD, fH, fV, fM, fW)) sz0) am ym) (va_A (MW am ym (co, ct, th, fo, sg, sz, hc, fL, fN, fD, fH, fV, fM, fW)) sz0)) 0 0 (va_A (MW am ym (co, ct, th, fo, sg, sz, hc, fL, fN, fD, fH, fV, fM, fW)) sz0) := by
  refine Met.ofW (cc := cX1_clear) (maxL := 2) (ret := (some .int)) (by decide) rfl ?_
  intro p e s m args below meth c s₁ B hml hv
  obtain ⟨rfl, hsz, hP, hK, hD0⟩ := hv
  have hx := B.exec
  have hb := B.bytes
  have hrt := B.returns
  have hlocks := B.notSynchronized
  have hts := atoms_spec (ws := wsX1_clear) B.pre
  have hw : ∀ w ∈ WB, w.before ([.ref (am 0)] : List Value).toArray s = true := fun w h => hts w (List.mem_cons_of_mem _ h)
  have hown : s.vm.findClass "ProofBenchModel" = some m.cls := findClass_of_methodNamed B.named
  subst hsz
  have hD := hD0.self (sz := s.heap.size)
  generalize hAe : va_A (MW am ym (co, ct, th, fo, sg, sz, hc, fL, fN, fD, fH, fV, fM, fW)) s.heap.size = A at hD ⊢
  have hA : ∀ q : Nat, s.heap.size ≤ q → A q := fun q h => by rw [← hAe]; exact Or.inr h
  have hS : va_S A s.heap s.heap [] := va_S.rf
  have hP : va_P (dC, dI) cls2 (MW am ym (co, ct, th, fo, sg, sz, hc, fL, fN, fD, fH, fV, fM, fW)) s.heap := hP
  have hl := lv_entry ([.ref (am 0)]) (n := 2) (Nat.le_of_ble_eq_true rfl)
  rw [lg_entry_eq]
  generalize (lg_sl ([.ref (am 0)]) ++ List.replicate (2 - (lg_sl ([.ref (am 0)])).length) Slot.unset).toArray = ls at hl ⊢
  have hl : lv_has ls 2 [(0, .ref (am 0))] := hl
  refine lv_aload_n hx hb dX1_clear_0 rfl (lv_at hl 0 rfl) ?_
  refine lv_iconst (v := 0) hx hb dX1_clear_1 (by decide) ?_
  refine va_put (D := (dC, dI)) (ci := 1) (v := .int 0) (ty := .int) (C := RX1) (T := TX1) (N := 14) hx hb hw inX1 tyX1 tyX1_ok nmX1 hown hK hP hD hS 0 rfl rfl 0 (by decide) (hw _ wb_268) (fun _ h9 => h9) rfl (by decide +kernel) rfl rfl (Nat.le_of_ble_eq_true rfl) dX1_clear_2 (fun H locs hP hD hS => ?_)
  have hP : va_P (dC, dI) cls2 (MW am ym (0, ct, th, fo, sg, sz, hc, fL, fN, fD, fH, fV, fM, fW)) H := hP
  have hD : va_D A (MW am ym (0, ct, th, fo, sg, sz, hc, fL, fN, fD, fH, fV, fM, fW)) := hD
  refine lv_aload_n hx hb dX1_clear_5 rfl (lv_at hl 0 rfl) ?_
  refine va_get (D := (dC, dI)) (ci := 1) (v := .int sz) (C := RX1) (T := TX1) (N := 14) hx hb hw inX1 hown hK hP 0 rfl rfl 7 (by decide) (hw _ wb_275) (fun _ h9 => h9) rfl dX1_clear_6 ?_
  refine lv_aload_n hx hb dX1_clear_9 rfl (lv_at hl 0 rfl) ?_
  refine va_get (D := (dC, dI)) (ci := 1) (v := .int hc) (C := RX1) (T := TX1) (N := 14) hx hb hw inX1 hown hK hP 0 rfl rfl 9 (by decide) (hw _ wb_277) (fun _ h9 => h9) rfl dX1_clear_10 ?_
  refine lv_iadd hx hb dX1_clear_13 ?_
  refine lv_istore_n (lv' := [(1, .int (sz + hc)), (0, .ref (am 0))]) hx hb dX1_clear_14 rfl hl (by decide) rfl (fun ls hl => ?_)
  refine lv_aload_n hx hb dX1_clear_15 rfl (lv_at hl 1 rfl) ?_
  refine lv_iconst (v := 0) hx hb dX1_clear_16 (by decide) ?_
  refine va_put (D := (dC, dI)) (ci := 1) (v := .int 0) (ty := .int) (C := RX1) (T := TX1) (N := 14) hx hb hw inX1 tyX1 tyX1_ok nmX1 hown hK hP hD hS 0 rfl rfl 7 (by decide) (hw _ wb_275) (fun _ h9 => h9) rfl (by decide +kernel) rfl rfl (Nat.le_of_ble_eq_true rfl) dX1_clear_17 (fun H locs hP hD hS => ?_)
  have hP : va_P (dC, dI) cls2 (MW am ym (0, ct, th, fo, sg, 0, hc, fL, fN, fD, fH, fV, fM, fW)) H := hP
  have hD : va_D A (MW am ym (0, ct, th, fo, sg, 0, hc, fL, fN, fD, fH, fV, fM, fW)) := hD
  refine lv_aload_n hx hb dX1_clear_20 rfl (lv_at hl 1 rfl) ?_
  refine lv_iconst (v := 0) hx hb dX1_clear_21 (by decide) ?_
  refine va_put (D := (dC, dI)) (ci := 1) (v := .int 0) (ty := .int) (C := RX1) (T := TX1) (N := 14) hx hb hw inX1 tyX1 tyX1_ok nmX1 hown hK hP hD hS 0 rfl rfl 9 (by decide) (hw _ wb_277) (fun _ h9 => h9) rfl (by decide +kernel) rfl rfl (Nat.le_of_ble_eq_true rfl) dX1_clear_22 (fun H locs hP hD hS => ?_)
  have hP : va_P (dC, dI) cls2 (MW am ym (0, ct, th, fo, sg, 0, 0, fL, fN, fD, fH, fV, fM, fW)) H := hP
  have hD : va_D A (MW am ym (0, ct, th, fo, sg, 0, 0, fL, fN, fD, fH, fV, fM, fW)) := hD
  refine lv_iload_n hx hb dX1_clear_25 rfl (lv_at hl 0 rfl) ?_
  exact W.iret (v := sz + hc) hx hb hrt (fun t ht hW => ⟨⟨_, _, rfl, ⟨rfl, rfl⟩, by rw [ht]; exact hP, va_K.moved hW.alike hK, hD⟩, hS.F ht⟩) hS.2.2 dX1_clear_26
set_option maxHeartbeats 4000000 in
set_option maxRecDepth 100000 in
/-- isThere -/
theorem n_isThere (l : Launch) (dC : Nat → ClassId) (dI : Nat → Nat → Nat) (am : Nat → Nat) (ym : Nat → ClassId) (co ct th fo sg sz hc : Int32) (fL fN fD fH fV : Nat → Int32) (fM fW : Nat → Int64) (k : Int32) (n : Nat) (hn : n ≤ 600) (ect : ct = nI n) : Met l yX1_isThere wsX1_isThere (rmN 0 0 0) (va_Pc [.ref (am 0), .int k] (rdM dC dI am ym (co, ct, th, fo, sg, sz, hc, fL, fN, fD, fH, fV, fM, fW))) (vp_Si (fun r => r = mt_b ct fN k)) 0 0 (fun _ => False) := by
  refine Met.ofW (cc := cX1_isThere) (maxL := 2) (ret := (some .boolean)) (by decide) rfl ?_
  intro p e s m args below meth c s₁ B hml hv
  obtain ⟨rfl, hP, hK⟩ := hv
  have hx := B.exec
  have hb := B.bytes
  have hrt := B.returns
  have hlocks := B.notSynchronized
  have hts := atoms_spec (ws := wsX1_isThere) B.pre
  have hw : ∀ w ∈ WB, w.before ([.ref (am 0), .int k] : List Value).toArray s = true := fun w h => hts w (List.mem_cons_of_mem _ h)
  have hown : s.vm.findClass "ProofBenchModel" = some m.cls := findClass_of_methodNamed B.named
  have hP : va_P (dC, dI) cls2 (MW am ym (co, ct, th, fo, sg, sz, hc, fL, fN, fD, fH, fV, fM, fW)) s.heap := hP
  have hl := lv_entry ([.ref (am 0), .int k]) (n := 2) (Nat.le_of_ble_eq_true rfl)
  rw [lg_entry_eq]
  generalize (lg_sl ([.ref (am 0), .int k]) ++ List.replicate (2 - (lg_sl ([.ref (am 0), .int k])).length) Slot.unset).toArray = ls at hl ⊢
  have hl : lv_has ls 2 [(0, .ref (am 0)), (1, .int k)] := hl
  refine lv_iload_n hx hb dX1_isThere_0 rfl (lv_at hl 1 rfl) ?_
  refine lv_if_lt (tgt := 25) hx hb dX1_isThere_1 (by decide) (fun c1 => ?_) (fun c1 => ?_)
  · skip
    refine lv_iconst (v := 0) hx hb dX1_isThere_25 (by decide) ?_
    exact W.zret (v := 0) hx hb hrt (by decide) (fun t ht hW => ⟨_, rfl, by rw [mt_b, if_neg (fun h => h.1 c1)], ht⟩) (fun q h => nomatch h) dX1_isThere_26
  · skip
    refine lv_iload_n hx hb dX1_isThere_4 rfl (lv_at hl 1 rfl) ?_
    refine lv_aload_n hx hb dX1_isThere_5 rfl (lv_at hl 0 rfl) ?_
    refine va_get (D := (dC, dI)) (ci := 1) (v := .int ct) (C := RX1) (T := TX1) (N := 14) hx hb hw inX1 hown hK hP 0 rfl rfl 1 (by decide) (hw _ wb_269) (fun _ h9 => h9) rfl dX1_isThere_6 ?_
    refine lv_icmp_ge (tgt := 25) hx hb dX1_isThere_9 (by decide) (fun c2 => ?_) (fun c2 => ?_)
    · skip
      refine lv_iconst (v := 0) hx hb dX1_isThere_25 (by decide) ?_
      exact W.zret (v := 0) hx hb hrt (by decide) (fun t ht hW => ⟨_, rfl, by rw [mt_b, if_neg (fun h => h.2.1 c2)], ht⟩) (fun q h => nomatch h) dX1_isThere_26
    · skip
      refine lv_aload_n hx hb dX1_isThere_12 rfl (lv_at hl 0 rfl) ?_
      refine va_get (D := (dC, dI)) (ci := 1) (v := .ref (am 2)) (C := RX1) (T := TX1) (N := 14) hx hb hw inX1 hown hK hP 0 rfl rfl 6 (by decide) (hw _ wb_274) (fun _ h9 => h9) rfl dX1_isThere_13 ?_
      refine lv_iload_n hx hb dX1_isThere_16 rfl (lv_at hl 1 rfl) ?_
      refine va_iald hx hb hK hP 2 1 rfl rfl (in_c ect hn (by decide) c1 c2) dX1_isThere_17 ?_
      refine lv_if_lt (tgt := 25) hx hb dX1_isThere_18 (by decide) (fun c3 => ?_) (fun c3 => ?_)
      · skip
        refine lv_iconst (v := 0) hx hb dX1_isThere_25 (by decide) ?_
        exact W.zret (v := 0) hx hb hrt (by decide) (fun t ht hW => ⟨_, rfl, by rw [mt_b, if_neg (fun h => h.2.2 c3)], ht⟩) (fun q h => nomatch h) dX1_isThere_26
      · skip
        refine lv_iconst (v := 1) hx hb dX1_isThere_21 (by decide) ?_
        refine lv_goto (tgt := 26) hx hb dX1_isThere_22 (by decide) ?_
        exact W.zret (v := 1) hx hb hrt (by decide) (fun t ht hW => ⟨_, rfl, by rw [mt_b, if_pos ⟨c1, c2, c3⟩], ht⟩) (fun q h => nomatch h) dX1_isThere_26
set_option maxHeartbeats 4000000 in
set_option maxRecDepth 100000 in
/-- hint -/
theorem n_hint (l : Launch) (dC : Nat → ClassId) (dI : Nat → Nat → Nat) (am : Nat → Nat) (ym : Nat → ClassId) (sz0 : Nat) (co ct th fo sg sz hc : Int32) (fL fN fD fH fV : Nat → Int32) (fM fW : Nat → Int64) (k : Int32) (q : Nat) (ehc : hc = nI q) (hq40 : q ≤ 40) : Met l yX1_hint wsX1_hint (rmN 0 0 0) (va_Pc [.ref (am 0), .int k] (preM dC dI am ym sz0 (co, ct, th, fo, sg, sz, hc, fL, fN, fD, fH, fV, fM, fW))) (va_Qi (fun (r : Int32) (u : MS) => ((k < 0 ∨ 599 < k) ∧ r = 0 ∧ u = (1, ct, th, fo, sg, sz, hc, fL, fN, fD, fH, fV, fM, fW)) ∨ (¬ (k < 0 ∨ 599 < k) ∧ hc = 40 ∧ r = 0 ∧ u = (2, ct, th, fo, sg, sz, hc, fL, fN, fD, fH, fV, fM, fW)) ∨ (¬ (k < 0 ∨ 599 < k) ∧ ¬ hc = 40 ∧ r = hc + 1 ∧ u = (0, ct, th, fo, sg, sz, hc + 1, fL, fN, fD, upd fH hc.toNatClampNeg k, fV, fM, fW))) (atM dC dI (va_A (MW am ym (co, ct, th, fo, sg, sz, hc, fL, fN, fD, fH, fV, fM, fW)) sz0) am ym) (va_A (MW am ym (co, ct, th, fo, sg, sz, hc, fL, fN, fD, fH, fV, fM, fW)) sz0)) 0 0 (va_A (MW am ym (co, ct, th, fo, sg, sz, hc, fL, fN, fD, fH, fV, fM, fW)) sz0) := by
  refine Met.ofW (cc := cX1_hint) (maxL := 2) (ret := (some .int)) (by decide) rfl ?_
  intro p e s m args below meth c s₁ B hml hv
  obtain ⟨rfl, hsz, hP, hK, hD0⟩ := hv
  have hx := B.exec
  have hb := B.bytes
  have hrt := B.returns
  have hlocks := B.notSynchronized
  have hts := atoms_spec (ws := wsX1_hint) B.pre
  have hw : ∀ w ∈ WB, w.before ([.ref (am 0), .int k] : List Value).toArray s = true := fun w h => hts w (List.mem_cons_of_mem _ h)
  have hown : s.vm.findClass "ProofBenchModel" = some m.cls := findClass_of_methodNamed B.named
  subst hsz
  have hD := hD0.self (sz := s.heap.size)
  generalize hAe : va_A (MW am ym (co, ct, th, fo, sg, sz, hc, fL, fN, fD, fH, fV, fM, fW)) s.heap.size = A at hD ⊢
  have hA : ∀ q : Nat, s.heap.size ≤ q → A q := fun q h => by rw [← hAe]; exact Or.inr h
  have hS : va_S A s.heap s.heap [] := va_S.rf
  have hP : va_P (dC, dI) cls2 (MW am ym (co, ct, th, fo, sg, sz, hc, fL, fN, fD, fH, fV, fM, fW)) s.heap := hP
  have hl := lv_entry ([.ref (am 0), .int k]) (n := 2) (Nat.le_of_ble_eq_true rfl)
  rw [lg_entry_eq]
  generalize (lg_sl ([.ref (am 0), .int k]) ++ List.replicate (2 - (lg_sl ([.ref (am 0), .int k])).length) Slot.unset).toArray = ls at hl ⊢
  have hl : lv_has ls 2 [(0, .ref (am 0)), (1, .int k)] := hl
  refine lv_aload_n hx hb dX1_hint_0 rfl (lv_at hl 0 rfl) ?_
  refine lv_iload_n hx hb dX1_hint_1 rfl (lv_at hl 1 rfl) ?_
  refine lv_if_lt (tgt := 12) hx hb dX1_hint_2 (by decide) (fun c1 => ?_) (fun c1 => ?_)
  · skip
    refine lv_iconst (v := 1) hx hb dX1_hint_12 (by decide) ?_
    refine lv_goto (tgt := 30) hx hb dX1_hint_13 (by decide) ?_
    refine va_put (D := (dC, dI)) (ci := 1) (v := .int 1) (ty := .int) (C := RX1) (T := TX1) (N := 14) hx hb hw inX1 tyX1 tyX1_ok nmX1 hown hK hP hD hS 0 rfl rfl 0 (by decide) (hw _ wb_268) (fun _ h9 => h9) rfl (by decide +kernel) rfl rfl (Nat.le_of_ble_eq_true rfl) dX1_hint_30 (fun H locs hP hD hS => ?_)
    have hP : va_P (dC, dI) cls2 (MW am ym (1, ct, th, fo, sg, sz, hc, fL, fN, fD, fH, fV, fM, fW)) H := hP
    have hD : va_D A (MW am ym (1, ct, th, fo, sg, sz, hc, fL, fN, fD, fH, fV, fM, fW)) := hD
    refine lv_aload_n hx hb dX1_hint_33 rfl (lv_at hl 0 rfl) ?_
    refine va_get (D := (dC, dI)) (ci := 1) (v := .int 1) (C := RX1) (T := TX1) (N := 14) hx hb hw inX1 hown hK hP 0 rfl rfl 0 (by decide) (hw _ wb_268) (fun _ h9 => h9) rfl dX1_hint_34 ?_
    refine lv_if_le (tgt := 42) hx hb dX1_hint_37 (by decide) (fun c9 => ?_) (fun c9 => ?_)
    · skip
      exact absurd c9 (by decide)
    · skip
      refine lv_iconst (v := 0) hx hb dX1_hint_40 (by decide) ?_
      exact W.iret (v := 0) hx hb hrt (fun t ht hW => ⟨⟨_, _, rfl, Or.inl ⟨Or.inl c1, rfl, rfl⟩, by rw [ht]; exact hP, va_K.moved hW.alike hK, hD⟩, hS.F ht⟩) hS.2.2 dX1_hint_41
  · skip
    refine lv_iload_n hx hb dX1_hint_5 rfl (lv_at hl 1 rfl) ?_
    refine lv_sipush (v := 599) hx hb dX1_hint_6 (by decide) ?_
    refine lv_icmp_le (tgt := 16) hx hb dX1_hint_9 (by decide) (fun c2 => ?_) (fun c2 => ?_)
    · skip
      refine lv_aload_n hx hb dX1_hint_16 rfl (lv_at hl 0 rfl) ?_
      refine va_get (D := (dC, dI)) (ci := 1) (v := .int hc) (C := RX1) (T := TX1) (N := 14) hx hb hw inX1 hown hK hP 0 rfl rfl 9 (by decide) (hw _ wb_277) (fun _ h9 => h9) rfl dX1_hint_17 ?_
      refine lv_bipush (v := 40) hx hb dX1_hint_20 (by decide) ?_
      refine lv_icmp_ne (tgt := 29) hx hb dX1_hint_22 (by decide) (fun c3 => ?_) (fun c3 => ?_)
      · skip
        refine lv_iconst (v := 0) hx hb dX1_hint_29 (by decide) ?_
        refine va_put (D := (dC, dI)) (ci := 1) (v := .int 0) (ty := .int) (C := RX1) (T := TX1) (N := 14) hx hb hw inX1 tyX1 tyX1_ok nmX1 hown hK hP hD hS 0 rfl rfl 0 (by decide) (hw _ wb_268) (fun _ h9 => h9) rfl (by decide +kernel) rfl rfl (Nat.le_of_ble_eq_true rfl) dX1_hint_30 (fun H locs hP hD hS => ?_)
        have hP : va_P (dC, dI) cls2 (MW am ym (0, ct, th, fo, sg, sz, hc, fL, fN, fD, fH, fV, fM, fW)) H := hP
        have hD : va_D A (MW am ym (0, ct, th, fo, sg, sz, hc, fL, fN, fD, fH, fV, fM, fW)) := hD
        refine lv_aload_n hx hb dX1_hint_33 rfl (lv_at hl 0 rfl) ?_
        refine va_get (D := (dC, dI)) (ci := 1) (v := .int 0) (C := RX1) (T := TX1) (N := 14) hx hb hw inX1 hown hK hP 0 rfl rfl 0 (by decide) (hw _ wb_268) (fun _ h9 => h9) rfl dX1_hint_34 ?_
        refine lv_if_le (tgt := 42) hx hb dX1_hint_37 (by decide) (fun c9 => ?_) (fun c9 => ?_)
        · skip
          have q40 : q < 40 := by
            rcases Nat.lt_or_ge q 40 with h | h
            · exact h
            · exact absurd (by rw [ehc, show q = 40 by omega]; rfl) c3
          have hin : vp_in hc 40 := by rw [ehc]; exact vp_in_nI q40 (by decide)
          refine lv_aload_n hx hb dX1_hint_42 rfl (lv_at hl 0 rfl) ?_
          refine va_get (D := (dC, dI)) (ci := 1) (v := .ref (am 4)) (C := RX1) (T := TX1) (N := 14) hx hb hw inX1 hown hK hP 0 rfl rfl 10 (by decide) (hw _ wb_278) (fun _ h9 => h9) rfl dX1_hint_43 ?_
          refine lv_aload_n hx hb dX1_hint_46 rfl (lv_at hl 0 rfl) ?_
          refine va_get (D := (dC, dI)) (ci := 1) (v := .int hc) (C := RX1) (T := TX1) (N := 14) hx hb hw inX1 hown hK hP 0 rfl rfl 9 (by decide) (hw _ wb_277) (fun _ h9 => h9) rfl dX1_hint_47 ?_
          refine lv_iload_n hx hb dX1_hint_50 rfl (lv_at hl 1 rfl) ?_
          refine va_iast hx hb hK hP hD hS 4 3 rfl rfl hin dX1_hint_51 (fun H locs hP hD hS => ?_)
          have hP : va_P (dC, dI) cls2 (MW am ym (0, ct, th, fo, sg, sz, hc, fL, fN, fD, upd fH hc.toNatClampNeg k, fV, fM, fW)) H := hP
          have hD : va_D A (MW am ym (0, ct, th, fo, sg, sz, hc, fL, fN, fD, upd fH hc.toNatClampNeg k, fV, fM, fW)) := hD
          refine lv_aload_n hx hb dX1_hint_52 rfl (lv_at hl 0 rfl) ?_
          refine lv_dup hx hb dX1_hint_53 rfl ?_
          refine va_get (D := (dC, dI)) (ci := 1) (v := .int hc) (C := RX1) (T := TX1) (N := 14) hx hb hw inX1 hown hK hP 0 rfl rfl 9 (by decide) (hw _ wb_277) (fun _ h9 => h9) rfl dX1_hint_54 ?_
          refine lv_iconst (v := 1) hx hb dX1_hint_57 (by decide) ?_
          refine lv_iadd hx hb dX1_hint_58 ?_
          refine va_put (D := (dC, dI)) (ci := 1) (v := .int (hc + 1)) (ty := .int) (C := RX1) (T := TX1) (N := 14) hx hb hw inX1 tyX1 tyX1_ok nmX1 hown hK hP hD hS 0 rfl rfl 9 (by decide) (hw _ wb_277) (fun _ h9 => h9) rfl (by decide +kernel) rfl rfl (Nat.le_of_ble_eq_true rfl) dX1_hint_59 (fun H locs hP hD hS => ?_)
          have hP : va_P (dC, dI) cls2 (MW am ym (0, ct, th, fo, sg, sz, hc + 1, fL, fN, fD, upd fH hc.toNatClampNeg k, fV, fM, fW)) H := hP
          have hD : va_D A (MW am ym (0, ct, th, fo, sg, sz, hc + 1, fL, fN, fD, upd fH hc.toNatClampNeg k, fV, fM, fW)) := hD
          refine lv_aload_n hx hb dX1_hint_62 rfl (lv_at hl 0 rfl) ?_
          refine va_get (D := (dC, dI)) (ci := 1) (v := .int (hc + 1)) (C := RX1) (T := TX1) (N := 14) hx hb hw inX1 hown hK hP 0 rfl rfl 9 (by decide) (hw _ wb_277) (fun _ h9 => h9) rfl dX1_hint_63 ?_
          exact W.iret (v := hc + 1) hx hb hrt (fun t ht hW => ⟨⟨_, _, rfl, Or.inr (Or.inr ⟨(fun h => h.elim c1 (fun h => absurd h (Int32.not_lt.mpr c2))), c3, rfl, rfl⟩), by rw [ht]; exact hP, va_K.moved hW.alike hK, hD⟩, hS.F ht⟩) hS.2.2 dX1_hint_66
        · skip
          exact absurd (by decide) c9
      · skip
        refine lv_iconst (v := 2) hx hb dX1_hint_25 (by decide) ?_
        refine lv_goto (tgt := 30) hx hb dX1_hint_26 (by decide) ?_
        refine va_put (D := (dC, dI)) (ci := 1) (v := .int 2) (ty := .int) (C := RX1) (T := TX1) (N := 14) hx hb hw inX1 tyX1 tyX1_ok nmX1 hown hK hP hD hS 0 rfl rfl 0 (by decide) (hw _ wb_268) (fun _ h9 => h9) rfl (by decide +kernel) rfl rfl (Nat.le_of_ble_eq_true rfl) dX1_hint_30 (fun H locs hP hD hS => ?_)
        have hP : va_P (dC, dI) cls2 (MW am ym (2, ct, th, fo, sg, sz, hc, fL, fN, fD, fH, fV, fM, fW)) H := hP
        have hD : va_D A (MW am ym (2, ct, th, fo, sg, sz, hc, fL, fN, fD, fH, fV, fM, fW)) := hD
        refine lv_aload_n hx hb dX1_hint_33 rfl (lv_at hl 0 rfl) ?_
        refine va_get (D := (dC, dI)) (ci := 1) (v := .int 2) (C := RX1) (T := TX1) (N := 14) hx hb hw inX1 hown hK hP 0 rfl rfl 0 (by decide) (hw _ wb_268) (fun _ h9 => h9) rfl dX1_hint_34 ?_
        refine lv_if_le (tgt := 42) hx hb dX1_hint_37 (by decide) (fun c9 => ?_) (fun c9 => ?_)
        · skip
          exact absurd c9 (by decide)
        · skip
          refine lv_iconst (v := 0) hx hb dX1_hint_40 (by decide) ?_
          exact W.iret (v := 0) hx hb hrt (fun t ht hW => ⟨⟨_, _, rfl, Or.inr (Or.inl ⟨(fun h => h.elim c1 (fun h => absurd h (Int32.not_lt.mpr c2))), c3, rfl, rfl⟩), by rw [ht]; exact hP, va_K.moved hW.alike hK, hD⟩, hS.F ht⟩) hS.2.2 dX1_hint_41
    · skip
      refine lv_iconst (v := 1) hx hb dX1_hint_12 (by decide) ?_
      refine lv_goto (tgt := 30) hx hb dX1_hint_13 (by decide) ?_
      refine va_put (D := (dC, dI)) (ci := 1) (v := .int 1) (ty := .int) (C := RX1) (T := TX1) (N := 14) hx hb hw inX1 tyX1 tyX1_ok nmX1 hown hK hP hD hS 0 rfl rfl 0 (by decide) (hw _ wb_268) (fun _ h9 => h9) rfl (by decide +kernel) rfl rfl (Nat.le_of_ble_eq_true rfl) dX1_hint_30 (fun H locs hP hD hS => ?_)
      have hP : va_P (dC, dI) cls2 (MW am ym (1, ct, th, fo, sg, sz, hc, fL, fN, fD, fH, fV, fM, fW)) H := hP
      have hD : va_D A (MW am ym (1, ct, th, fo, sg, sz, hc, fL, fN, fD, fH, fV, fM, fW)) := hD
      refine lv_aload_n hx hb dX1_hint_33 rfl (lv_at hl 0 rfl) ?_
      refine va_get (D := (dC, dI)) (ci := 1) (v := .int 1) (C := RX1) (T := TX1) (N := 14) hx hb hw inX1 hown hK hP 0 rfl rfl 0 (by decide) (hw _ wb_268) (fun _ h9 => h9) rfl dX1_hint_34 ?_
      refine lv_if_le (tgt := 42) hx hb dX1_hint_37 (by decide) (fun c9 => ?_) (fun c9 => ?_)
      · skip
        exact absurd c9 (by decide)
      · skip
        refine lv_iconst (v := 0) hx hb dX1_hint_40 (by decide) ?_
        exact W.iret (v := 0) hx hb hrt (fun t ht hW => ⟨⟨_, _, rfl, Or.inl ⟨Or.inr (Int32.not_le.mp c2), rfl, rfl⟩, by rw [ht]; exact hP, va_K.moved hW.alike hK, hD⟩, hS.F ht⟩) hS.2.2 dX1_hint_41
set_option maxHeartbeats 4000000 in
set_option maxRecDepth 100000 in
/-- count -/
theorem n_count (l : Launch) (dC : Nat → ClassId) (dI : Nat → Nat → Nat) (am : Nat → Nat) (ym : Nat → ClassId) (sz0 : Nat) (co ct th fo sg sz hc : Int32) (fL fN fD fH fV : Nat → Int32) (fM fW : Nat → Int64) (k : Int32) : Met l yX1_count wsX1_count (rmN 0 0 0) (va_Pc [.ref (am 0), .int k] (preM dC dI am ym sz0 (co, ct, th, fo, sg, sz, hc, fL, fN, fD, fH, fV, fM, fW))) (va_Qi (fun (r : Int32) (u : MS) => ((k < 0 ∨ 4 < k) ∧ r = 0 ∧ u = (1, ct, th, fo, sg, sz, hc, fL, fN, fD, fH, fV, fM, fW)) ∨ (¬ (k < 0 ∨ 4 < k) ∧ r = (if k = 0 then ct else if k = 1 then th else if k = 2 then fo else if k = 3 then sz else hc) ∧ u = (0, ct, th, fo, sg, sz, hc, fL, fN, fD, fH, fV, fM, fW))) (atM dC dI (va_A (MW am ym (co, ct, th, fo, sg, sz, hc, fL, fN, fD, fH, fV, fM, fW)) sz0) am ym) (va_A (MW am ym (co, ct, th, fo, sg, sz, hc, fL, fN, fD, fH, fV, fM, fW)) sz0)) 0 0 (va_A (MW am ym (co, ct, th, fo, sg, sz, hc, fL, fN, fD, fH, fV, fM, fW)) sz0) := by
  refine Met.ofW (cc := cX1_count) (maxL := 2) (ret := (some .int)) (by decide) rfl ?_
  intro p e s m args below meth c s₁ B hml hv
  obtain ⟨rfl, hsz, hP, hK, hD0⟩ := hv
  have hx := B.exec
  have hb := B.bytes
  have hrt := B.returns
  have hlocks := B.notSynchronized
  have hts := atoms_spec (ws := wsX1_count) B.pre
  have hw : ∀ w ∈ WB, w.before ([.ref (am 0), .int k] : List Value).toArray s = true := fun w h => hts w (List.mem_cons_of_mem _ h)
  have hown : s.vm.findClass "ProofBenchModel" = some m.cls := findClass_of_methodNamed B.named
  subst hsz
  have hD := hD0.self (sz := s.heap.size)
  generalize hAe : va_A (MW am ym (co, ct, th, fo, sg, sz, hc, fL, fN, fD, fH, fV, fM, fW)) s.heap.size = A at hD ⊢
  have hA : ∀ q : Nat, s.heap.size ≤ q → A q := fun q h => by rw [← hAe]; exact Or.inr h
  have hS : va_S A s.heap s.heap [] := va_S.rf
  have hP : va_P (dC, dI) cls2 (MW am ym (co, ct, th, fo, sg, sz, hc, fL, fN, fD, fH, fV, fM, fW)) s.heap := hP
  have hl := lv_entry ([.ref (am 0), .int k]) (n := 2) (Nat.le_of_ble_eq_true rfl)
  rw [lg_entry_eq]
  generalize (lg_sl ([.ref (am 0), .int k]) ++ List.replicate (2 - (lg_sl ([.ref (am 0), .int k])).length) Slot.unset).toArray = ls at hl ⊢
  have hl : lv_has ls 2 [(0, .ref (am 0)), (1, .int k)] := hl
  refine lv_aload_n hx hb dX1_count_0 rfl (lv_at hl 0 rfl) ?_
  refine lv_iload_n hx hb dX1_count_1 rfl (lv_at hl 1 rfl) ?_
  refine lv_if_lt (tgt := 14) hx hb dX1_count_2 (by decide) (fun c1 => ?_) (fun c1 => ?_)
  · skip
    refine lv_iconst (v := 1) hx hb dX1_count_14 (by decide) ?_
    refine va_put (D := (dC, dI)) (ci := 1) (v := .int 1) (ty := .int) (C := RX1) (T := TX1) (N := 14) hx hb hw inX1 tyX1 tyX1_ok nmX1 hown hK hP hD hS 0 rfl rfl 0 (by decide) (hw _ wb_268) (fun _ h9 => h9) rfl (by decide +kernel) rfl rfl (Nat.le_of_ble_eq_true rfl) dX1_count_15 (fun H locs hP hD hS => ?_)
    have hP : va_P (dC, dI) cls2 (MW am ym (1, ct, th, fo, sg, sz, hc, fL, fN, fD, fH, fV, fM, fW)) H := hP
    have hD : va_D A (MW am ym (1, ct, th, fo, sg, sz, hc, fL, fN, fD, fH, fV, fM, fW)) := hD
    refine lv_aload_n hx hb dX1_count_18 rfl (lv_at hl 0 rfl) ?_
    refine va_get (D := (dC, dI)) (ci := 1) (v := .int 1) (C := RX1) (T := TX1) (N := 14) hx hb hw inX1 hown hK hP 0 rfl rfl 0 (by decide) (hw _ wb_268) (fun _ h9 => h9) rfl dX1_count_19 ?_
    refine lv_if_le (tgt := 29) hx hb dX1_count_22 (by decide) (fun c9 => ?_) (fun c9 => ?_)
    · skip
      exact absurd c9 (by decide)
    · skip
      refine lv_iconst (v := 0) hx hb dX1_count_25 (by decide) ?_
      refine lv_goto (tgt := 80) hx hb dX1_count_26 (by decide) ?_
      exact W.iret (v := 0) hx hb hrt (fun t ht hW => ⟨⟨_, _, rfl, Or.inl ⟨Or.inl c1, rfl, rfl⟩, by rw [ht]; exact hP, va_K.moved hW.alike hK, hD⟩, hS.F ht⟩) hS.2.2 dX1_count_80
  · skip
    refine lv_iload_n hx hb dX1_count_5 rfl (lv_at hl 1 rfl) ?_
    refine lv_iconst (v := 4) hx hb dX1_count_6 (by decide) ?_
    refine lv_icmp_gt (tgt := 14) hx hb dX1_count_7 (by decide) (fun c2 => ?_) (fun c2 => ?_)
    · skip
      refine lv_iconst (v := 1) hx hb dX1_count_14 (by decide) ?_
      refine va_put (D := (dC, dI)) (ci := 1) (v := .int 1) (ty := .int) (C := RX1) (T := TX1) (N := 14) hx hb hw inX1 tyX1 tyX1_ok nmX1 hown hK hP hD hS 0 rfl rfl 0 (by decide) (hw _ wb_268) (fun _ h9 => h9) rfl (by decide +kernel) rfl rfl (Nat.le_of_ble_eq_true rfl) dX1_count_15 (fun H locs hP hD hS => ?_)
      have hP : va_P (dC, dI) cls2 (MW am ym (1, ct, th, fo, sg, sz, hc, fL, fN, fD, fH, fV, fM, fW)) H := hP
      have hD : va_D A (MW am ym (1, ct, th, fo, sg, sz, hc, fL, fN, fD, fH, fV, fM, fW)) := hD
      refine lv_aload_n hx hb dX1_count_18 rfl (lv_at hl 0 rfl) ?_
      refine va_get (D := (dC, dI)) (ci := 1) (v := .int 1) (C := RX1) (T := TX1) (N := 14) hx hb hw inX1 hown hK hP 0 rfl rfl 0 (by decide) (hw _ wb_268) (fun _ h9 => h9) rfl dX1_count_19 ?_
      refine lv_if_le (tgt := 29) hx hb dX1_count_22 (by decide) (fun c9 => ?_) (fun c9 => ?_)
      · skip
        exact absurd c9 (by decide)
      · skip
        refine lv_iconst (v := 0) hx hb dX1_count_25 (by decide) ?_
        refine lv_goto (tgt := 80) hx hb dX1_count_26 (by decide) ?_
        exact W.iret (v := 0) hx hb hrt (fun t ht hW => ⟨⟨_, _, rfl, Or.inl ⟨Or.inr c2, rfl, rfl⟩, by rw [ht]; exact hP, va_K.moved hW.alike hK, hD⟩, hS.F ht⟩) hS.2.2 dX1_count_80
    · skip
      refine lv_iconst (v := 0) hx hb dX1_count_10 (by decide) ?_
      refine lv_goto (tgt := 15) hx hb dX1_count_11 (by decide) ?_
      refine va_put (D := (dC, dI)) (ci := 1) (v := .int 0) (ty := .int) (C := RX1) (T := TX1) (N := 14) hx hb hw inX1 tyX1 tyX1_ok nmX1 hown hK hP hD hS 0 rfl rfl 0 (by decide) (hw _ wb_268) (fun _ h9 => h9) rfl (by decide +kernel) rfl rfl (Nat.le_of_ble_eq_true rfl) dX1_count_15 (fun H locs hP hD hS => ?_)
      have hP : va_P (dC, dI) cls2 (MW am ym (0, ct, th, fo, sg, sz, hc, fL, fN, fD, fH, fV, fM, fW)) H := hP
      have hD : va_D A (MW am ym (0, ct, th, fo, sg, sz, hc, fL, fN, fD, fH, fV, fM, fW)) := hD
      refine lv_aload_n hx hb dX1_count_18 rfl (lv_at hl 0 rfl) ?_
      refine va_get (D := (dC, dI)) (ci := 1) (v := .int 0) (C := RX1) (T := TX1) (N := 14) hx hb hw inX1 hown hK hP 0 rfl rfl 0 (by decide) (hw _ wb_268) (fun _ h9 => h9) rfl dX1_count_19 ?_
      refine lv_if_le (tgt := 29) hx hb dX1_count_22 (by decide) (fun c9 => ?_) (fun c9 => ?_)
      · skip
        refine lv_iload_n hx hb dX1_count_29 rfl (lv_at hl 1 rfl) ?_
        refine lv_if_ne (tgt := 40) hx hb dX1_count_30 (by decide) (fun k0 => ?_) (fun k0 => ?_)
        · skip
          refine lv_iload_n hx hb dX1_count_40 rfl (lv_at hl 1 rfl) ?_
          refine lv_iconst (v := 1) hx hb dX1_count_41 (by decide) ?_
          refine lv_icmp_ne (tgt := 52) hx hb dX1_count_42 (by decide) (fun k1 => ?_) (fun k1 => ?_)
          · skip
            refine lv_iload_n hx hb dX1_count_52 rfl (lv_at hl 1 rfl) ?_
            refine lv_iconst (v := 2) hx hb dX1_count_53 (by decide) ?_
            refine lv_icmp_ne (tgt := 64) hx hb dX1_count_54 (by decide) (fun k2 => ?_) (fun k2 => ?_)
            · skip
              refine lv_iload_n hx hb dX1_count_64 rfl (lv_at hl 1 rfl) ?_
              refine lv_iconst (v := 3) hx hb dX1_count_65 (by decide) ?_
              refine lv_icmp_ne (tgt := 76) hx hb dX1_count_66 (by decide) (fun k3 => ?_) (fun k3 => ?_)
              · skip
                refine lv_aload_n hx hb dX1_count_76 rfl (lv_at hl 0 rfl) ?_
                refine va_get (D := (dC, dI)) (ci := 1) (v := .int hc) (C := RX1) (T := TX1) (N := 14) hx hb hw inX1 hown hK hP 0 rfl rfl 9 (by decide) (hw _ wb_277) (fun _ h9 => h9) rfl dX1_count_77 ?_
                exact W.iret (v := hc) hx hb hrt (fun t ht hW => ⟨⟨_, _, rfl, Or.inr ⟨fun h => h.elim c1 c2, by rw [if_neg k0, if_neg k1, if_neg k2, if_neg k3], rfl⟩, by rw [ht]; exact hP, va_K.moved hW.alike hK, hD⟩, hS.F ht⟩) hS.2.2 dX1_count_80
              · skip
                refine lv_aload_n hx hb dX1_count_69 rfl (lv_at hl 0 rfl) ?_
                refine va_get (D := (dC, dI)) (ci := 1) (v := .int sz) (C := RX1) (T := TX1) (N := 14) hx hb hw inX1 hown hK hP 0 rfl rfl 7 (by decide) (hw _ wb_275) (fun _ h9 => h9) rfl dX1_count_70 ?_
                refine lv_goto (tgt := 80) hx hb dX1_count_73 (by decide) ?_
                exact W.iret (v := sz) hx hb hrt (fun t ht hW => ⟨⟨_, _, rfl, Or.inr ⟨fun h => h.elim c1 c2, by rw [if_neg k0, if_neg k1, if_neg k2, if_pos k3], rfl⟩, by rw [ht]; exact hP, va_K.moved hW.alike hK, hD⟩, hS.F ht⟩) hS.2.2 dX1_count_80
            · skip
              refine lv_aload_n hx hb dX1_count_57 rfl (lv_at hl 0 rfl) ?_
              refine va_get (D := (dC, dI)) (ci := 1) (v := .int fo) (C := RX1) (T := TX1) (N := 14) hx hb hw inX1 hown hK hP 0 rfl rfl 3 (by decide) (hw _ wb_271) (fun _ h9 => h9) rfl dX1_count_58 ?_
              refine lv_goto (tgt := 80) hx hb dX1_count_61 (by decide) ?_
              exact W.iret (v := fo) hx hb hrt (fun t ht hW => ⟨⟨_, _, rfl, Or.inr ⟨fun h => h.elim c1 c2, by rw [if_neg k0, if_neg k1, if_pos k2], rfl⟩, by rw [ht]; exact hP, va_K.moved hW.alike hK, hD⟩, hS.F ht⟩) hS.2.2 dX1_count_80
          · skip
            refine lv_aload_n hx hb dX1_count_45 rfl (lv_at hl 0 rfl) ?_
            refine va_get (D := (dC, dI)) (ci := 1) (v := .int th) (C := RX1) (T := TX1) (N := 14) hx hb hw inX1 hown hK hP 0 rfl rfl 2 (by decide) (hw _ wb_270) (fun _ h9 => h9) rfl dX1_count_46 ?_
            refine lv_goto (tgt := 80) hx hb dX1_count_49 (by decide) ?_
            exact W.iret (v := th) hx hb hrt (fun t ht hW => ⟨⟨_, _, rfl, Or.inr ⟨fun h => h.elim c1 c2, by rw [if_neg k0, if_pos k1], rfl⟩, by rw [ht]; exact hP, va_K.moved hW.alike hK, hD⟩, hS.F ht⟩) hS.2.2 dX1_count_80
        · skip
          refine lv_aload_n hx hb dX1_count_33 rfl (lv_at hl 0 rfl) ?_
          refine va_get (D := (dC, dI)) (ci := 1) (v := .int ct) (C := RX1) (T := TX1) (N := 14) hx hb hw inX1 hown hK hP 0 rfl rfl 1 (by decide) (hw _ wb_269) (fun _ h9 => h9) rfl dX1_count_34 ?_
          refine lv_goto (tgt := 80) hx hb dX1_count_37 (by decide) ?_
          exact W.iret (v := ct) hx hb hrt (fun t ht hW => ⟨⟨_, _, rfl, Or.inr ⟨fun h => h.elim c1 c2, by rw [if_pos k0], rfl⟩, by rw [ht]; exact hP, va_K.moved hW.alike hK, hD⟩, hS.F ht⟩) hS.2.2 dX1_count_80
      · skip
        exact absurd (by decide) c9
set_option maxHeartbeats 4000000 in
set_option maxRecDepth 100000 in
/-- drop -/
theorem n_drop (l : Launch) (dC : Nat → ClassId) (dI : Nat → Nat → Nat) (am : Nat → Nat) (ym : Nat → ClassId) (sz0 : Nat) (co ct th fo sg sz hc : Int32) (fL fN fD fH fV : Nat → Int32) (fM fW : Nat → Int64) (k : Int32) (n : Nat) (hn : n ≤ 600) (ect : ct = nI n) : Met l yX1_drop wsX1_drop (rmN 1 0 0) (va_Pc [.ref (am 0), .int k] (preM dC dI am ym sz0 (co, ct, th, fo, sg, sz, hc, fL, fN, fD, fH, fV, fM, fW))) (va_Qi (fun (r : Int32) (u : MS) => (mt_b ct fN k = 0 ∧ r = 0 ∧ u = (1, ct, th, fo, sg, sz, hc, fL, fN, fD, fH, fV, fM, fW)) ∨ (mt_b ct fN k ≠ 0 ∧ r = fN k.toNatClampNeg ∧ u = (0, ct, th - 1, fo, sg, sz, hc, fL, upd fN k.toNatClampNeg (-1), fD, fH, fV, fM, fW))) (atM dC dI (va_A (MW am ym (co, ct, th, fo, sg, sz, hc, fL, fN, fD, fH, fV, fM, fW)) sz0) am ym) (va_A (MW am ym (co, ct, th, fo, sg, sz, hc, fL, fN, fD, fH, fV, fM, fW)) sz0)) 0 0 (va_A (MW am ym (co, ct, th, fo, sg, sz, hc, fL, fN, fD, fH, fV, fM, fW)) sz0) := by
  refine Met.ofW (cc := cX1_drop) (maxL := 3) (ret := (some .int)) (by decide) rfl ?_
  intro p e s m args below meth c s₁ B hml hv
  obtain ⟨rfl, hsz, hP, hK, hD0⟩ := hv
  have hx := B.exec
  have hb := B.bytes
  have hrt := B.returns
  have hlocks := B.notSynchronized
  have hts := atoms_spec (ws := wsX1_drop) B.pre
  have hw : ∀ w ∈ WB, w.before ([.ref (am 0), .int k] : List Value).toArray s = true := fun w h => hts w (List.mem_cons_of_mem _ h)
  have hown : s.vm.findClass "ProofBenchModel" = some m.cls := findClass_of_methodNamed B.named
  subst hsz
  have hD := hD0.self (sz := s.heap.size)
  generalize hAe : va_A (MW am ym (co, ct, th, fo, sg, sz, hc, fL, fN, fD, fH, fV, fM, fW)) s.heap.size = A at hD ⊢
  have hA : ∀ q : Nat, s.heap.size ≤ q → A q := fun q h => by rw [← hAe]; exact Or.inr h
  have hS : va_S A s.heap s.heap [] := va_S.rf
  have hP : va_P (dC, dI) cls2 (MW am ym (co, ct, th, fo, sg, sz, hc, fL, fN, fD, fH, fV, fM, fW)) s.heap := hP
  have hl := lv_entry ([.ref (am 0), .int k]) (n := 3) (Nat.le_of_ble_eq_true rfl)
  rw [lg_entry_eq]
  generalize (lg_sl ([.ref (am 0), .int k]) ++ List.replicate (3 - (lg_sl ([.ref (am 0), .int k])).length) Slot.unset).toArray = ls at hl ⊢
  have hl : lv_has ls 3 [(0, .ref (am 0)), (1, .int k)] := hl
  refine lv_aload_n hx hb dX1_drop_0 rfl (lv_at hl 0 rfl) ?_
  refine lv_aload_n hx hb dX1_drop_1 rfl (lv_at hl 0 rfl) ?_
  refine lv_iload_n hx hb dX1_drop_2 rfl (lv_at hl 1 rfl) ?_
  refine vp_callSi (W.runV (As := [.int k]) (rest := [.ref (am 0)]) ⟨hx, hb, hml, hown, hw⟩ (n_isThere l dC dI am ym co ct th fo sg sz hc fL fN fD fH fV fM fW k n hn ect) (cwV 1 hw (gw_V wb_375 wb_377 wbs_16 wb_2 wb_378) rfl rfl rfl (by decide +kernel) ⟨Nat.le_of_ble_eq_true rfl, Nat.le_of_ble_eq_true rfl⟩) ⟨blind_rdM, va_recv hK hP (ci := 1) (q0 := 0) rfl rfl, fun U hU hW => ⟨rfl, by rw [hU]; exact hP, va_K.moved hW.alike hK⟩⟩ rfl rfl hl.1 rfl (lv_room (Nat.le_of_ble_eq_true rfl)) dX1_drop_3 ⟨Nat.le_of_ble_eq_true rfl, Nat.le_of_ble_eq_true rfl⟩) (fun r1 h1 => ?_)
  subst h1
  refine lv_if_eq (tgt := 13) hx hb dX1_drop_6 (by decide) (fun c1 => ?_) (fun c1 => ?_)
  · skip
    refine lv_iconst (v := 1) hx hb dX1_drop_13 (by decide) ?_
    refine va_put (D := (dC, dI)) (ci := 1) (v := .int 1) (ty := .int) (C := RX1) (T := TX1) (N := 14) hx hb hw inX1 tyX1 tyX1_ok nmX1 hown hK hP hD hS 0 rfl rfl 0 (by decide) (hw _ wb_268) (fun _ h9 => h9) rfl (by decide +kernel) rfl rfl (Nat.le_of_ble_eq_true rfl) dX1_drop_14 (fun H locs hP hD hS => ?_)
    have hP : va_P (dC, dI) cls2 (MW am ym (1, ct, th, fo, sg, sz, hc, fL, fN, fD, fH, fV, fM, fW)) H := hP
    have hD : va_D A (MW am ym (1, ct, th, fo, sg, sz, hc, fL, fN, fD, fH, fV, fM, fW)) := hD
    refine lv_aload_n hx hb dX1_drop_17 rfl (lv_at hl 0 rfl) ?_
    refine va_get (D := (dC, dI)) (ci := 1) (v := .int 1) (C := RX1) (T := TX1) (N := 14) hx hb hw inX1 hown hK hP 0 rfl rfl 0 (by decide) (hw _ wb_268) (fun _ h9 => h9) rfl dX1_drop_18 ?_
    refine lv_if_le (tgt := 26) hx hb dX1_drop_21 (by decide) (fun c9 => ?_) (fun c9 => ?_)
    · skip
      exact absurd c9 (by decide)
    · skip
      refine lv_iconst (v := 0) hx hb dX1_drop_24 (by decide) ?_
      exact W.iret (v := 0) hx hb hrt (fun t ht hW => ⟨⟨_, _, rfl, Or.inl ⟨c1, rfl, rfl⟩, by rw [ht]; exact hP, va_K.moved hW.alike hK, hD⟩, hS.F ht⟩) hS.2.2 dX1_drop_25
  · skip
    refine lv_iconst (v := 0) hx hb dX1_drop_9 (by decide) ?_
    refine lv_goto (tgt := 14) hx hb dX1_drop_10 (by decide) ?_
    refine va_put (D := (dC, dI)) (ci := 1) (v := .int 0) (ty := .int) (C := RX1) (T := TX1) (N := 14) hx hb hw inX1 tyX1 tyX1_ok nmX1 hown hK hP hD hS 0 rfl rfl 0 (by decide) (hw _ wb_268) (fun _ h9 => h9) rfl (by decide +kernel) rfl rfl (Nat.le_of_ble_eq_true rfl) dX1_drop_14 (fun H locs hP hD hS => ?_)
    have hP : va_P (dC, dI) cls2 (MW am ym (0, ct, th, fo, sg, sz, hc, fL, fN, fD, fH, fV, fM, fW)) H := hP
    have hD : va_D A (MW am ym (0, ct, th, fo, sg, sz, hc, fL, fN, fD, fH, fV, fM, fW)) := hD
    refine lv_aload_n hx hb dX1_drop_17 rfl (lv_at hl 0 rfl) ?_
    refine va_get (D := (dC, dI)) (ci := 1) (v := .int 0) (C := RX1) (T := TX1) (N := 14) hx hb hw inX1 hown hK hP 0 rfl rfl 0 (by decide) (hw _ wb_268) (fun _ h9 => h9) rfl dX1_drop_18 ?_
    refine lv_if_le (tgt := 26) hx hb dX1_drop_21 (by decide) (fun c9 => ?_) (fun c9 => ?_)
    · skip
      have hin : vp_in k 600 := mt_in ect hn c1
      refine lv_aload_n hx hb dX1_drop_26 rfl (lv_at hl 0 rfl) ?_
      refine va_get (D := (dC, dI)) (ci := 1) (v := .ref (am 2)) (C := RX1) (T := TX1) (N := 14) hx hb hw inX1 hown hK hP 0 rfl rfl 6 (by decide) (hw _ wb_274) (fun _ h9 => h9) rfl dX1_drop_27 ?_
      refine lv_iload_n hx hb dX1_drop_30 rfl (lv_at hl 1 rfl) ?_
      refine va_iald hx hb hK hP 2 1 rfl rfl hin dX1_drop_31 ?_
      refine lv_istore_n (lv' := [(2, .int (fN k.toNatClampNeg)), (0, .ref (am 0)), (1, .int k)]) hx hb dX1_drop_32 rfl hl (by decide) rfl (fun ls hl => ?_)
      refine lv_aload_n hx hb dX1_drop_33 rfl (lv_at hl 1 rfl) ?_
      refine va_get (D := (dC, dI)) (ci := 1) (v := .ref (am 2)) (C := RX1) (T := TX1) (N := 14) hx hb hw inX1 hown hK hP 0 rfl rfl 6 (by decide) (hw _ wb_274) (fun _ h9 => h9) rfl dX1_drop_34 ?_
      refine lv_iload_n hx hb dX1_drop_37 rfl (lv_at hl 2 rfl) ?_
      refine lv_iconst (v := (-1)) hx hb dX1_drop_38 (by decide) ?_
      refine va_iast hx hb hK hP hD hS 2 1 rfl rfl hin dX1_drop_39 (fun H locs hP hD hS => ?_)
      have hP : va_P (dC, dI) cls2 (MW am ym (0, ct, th, fo, sg, sz, hc, fL, upd fN k.toNatClampNeg (-1), fD, fH, fV, fM, fW)) H := hP
      have hD : va_D A (MW am ym (0, ct, th, fo, sg, sz, hc, fL, upd fN k.toNatClampNeg (-1), fD, fH, fV, fM, fW)) := hD
      refine lv_aload_n hx hb dX1_drop_40 rfl (lv_at hl 1 rfl) ?_
      refine lv_dup hx hb dX1_drop_41 rfl ?_
      refine va_get (D := (dC, dI)) (ci := 1) (v := .int th) (C := RX1) (T := TX1) (N := 14) hx hb hw inX1 hown hK hP 0 rfl rfl 2 (by decide) (hw _ wb_270) (fun _ h9 => h9) rfl dX1_drop_42 ?_
      refine lv_iconst (v := 1) hx hb dX1_drop_45 (by decide) ?_
      refine lv_isub hx hb dX1_drop_46 ?_
      refine va_put (D := (dC, dI)) (ci := 1) (v := .int (th - 1)) (ty := .int) (C := RX1) (T := TX1) (N := 14) hx hb hw inX1 tyX1 tyX1_ok nmX1 hown hK hP hD hS 0 rfl rfl 2 (by decide) (hw _ wb_270) (fun _ h9 => h9) rfl (by decide +kernel) rfl rfl (Nat.le_of_ble_eq_true rfl) dX1_drop_47 (fun H locs hP hD hS => ?_)
      have hP : va_P (dC, dI) cls2 (MW am ym (0, ct, th - 1, fo, sg, sz, hc, fL, upd fN k.toNatClampNeg (-1), fD, fH, fV, fM, fW)) H := hP
      have hD : va_D A (MW am ym (0, ct, th - 1, fo, sg, sz, hc, fL, upd fN k.toNatClampNeg (-1), fD, fH, fV, fM, fW)) := hD
      refine lv_iload_n hx hb dX1_drop_50 rfl (lv_at hl 0 rfl) ?_
      exact W.iret (v := fN k.toNatClampNeg) hx hb hrt (fun t ht hW => ⟨⟨_, _, rfl, Or.inr ⟨c1, rfl, rfl⟩, by rw [ht]; exact hP, va_K.moved hW.alike hK, hD⟩, hS.F ht⟩) hS.2.2 dX1_drop_51
    · skip
      exact absurd (by decide) c9
set_option maxHeartbeats 4000000 in
set_option maxRecDepth 100000 in
/-- at -/
theorem n_at (l : Launch) (dC : Nat → ClassId) (dI : Nat → Nat → Nat) (am : Nat → Nat) (ym : Nat → ClassId) (sz0 : Nat) (co ct th fo sg sz hc : Int32) (fL fN fD fH fV : Nat → Int32) (fM fW : Nat → Int64) (k : Int32) (i : Int32) (n : Nat) (hn : n ≤ 600) (ect : ct = nI n) (hat : mt_b ct fN k ≠ 0 → ¬ i < 0 → i < fN k.toNatClampNeg → vp_in (16 * k + i) 9600) : Met l yX1_at wsX1_at (rmN 1 0 0) (va_Pc [.ref (am 0), .int k, .int i] (preM dC dI am ym sz0 (co, ct, th, fo, sg, sz, hc, fL, fN, fD, fH, fV, fM, fW))) (va_Qi (fun (r : Int32) (u : MS) => ((mt_b ct fN k = 0 ∨ i < 0) ∧ r = 0 ∧ u = (1, ct, th, fo, sg, sz, hc, fL, fN, fD, fH, fV, fM, fW)) ∨ (mt_b ct fN k ≠ 0 ∧ ¬ i < 0 ∧ r = (if i < fN k.toNatClampNeg then fL (16 * k + i).toNatClampNeg else 0) ∧ u = (0, ct, th, fo, sg, sz, hc, fL, fN, fD, fH, fV, fM, fW))) (atM dC dI (va_A (MW am ym (co, ct, th, fo, sg, sz, hc, fL, fN, fD, fH, fV, fM, fW)) sz0) am ym) (va_A (MW am ym (co, ct, th, fo, sg, sz, hc, fL, fN, fD, fH, fV, fM, fW)) sz0)) 0 0 (va_A (MW am ym (co, ct, th, fo, sg, sz, hc, fL, fN, fD, fH, fV, fM, fW)) sz0) := by
  refine Met.ofW (cc := cX1_at) (maxL := 3) (ret := (some .int)) (by decide) rfl ?_
  intro p e s m args below meth c s₁ B hml hv
  obtain ⟨rfl, hsz, hP, hK, hD0⟩ := hv
  have hx := B.exec
  have hb := B.bytes
  have hrt := B.returns
  have hlocks := B.notSynchronized
  have hts := atoms_spec (ws := wsX1_at) B.pre
  have hw : ∀ w ∈ WB, w.before ([.ref (am 0), .int k, .int i] : List Value).toArray s = true := fun w h => hts w (List.mem_cons_of_mem _ h)
  have hown : s.vm.findClass "ProofBenchModel" = some m.cls := findClass_of_methodNamed B.named
  subst hsz
  have hD := hD0.self (sz := s.heap.size)
  generalize hAe : va_A (MW am ym (co, ct, th, fo, sg, sz, hc, fL, fN, fD, fH, fV, fM, fW)) s.heap.size = A at hD ⊢
  have hA : ∀ q : Nat, s.heap.size ≤ q → A q := fun q h => by rw [← hAe]; exact Or.inr h
  have hS : va_S A s.heap s.heap [] := va_S.rf
  have hP : va_P (dC, dI) cls2 (MW am ym (co, ct, th, fo, sg, sz, hc, fL, fN, fD, fH, fV, fM, fW)) s.heap := hP
  have hl := lv_entry ([.ref (am 0), .int k, .int i]) (n := 3) (Nat.le_of_ble_eq_true rfl)
  rw [lg_entry_eq]
  generalize (lg_sl ([.ref (am 0), .int k, .int i]) ++ List.replicate (3 - (lg_sl ([.ref (am 0), .int k, .int i])).length) Slot.unset).toArray = ls at hl ⊢
  have hl : lv_has ls 3 [(0, .ref (am 0)), (1, .int k), (2, .int i)] := hl
  refine lv_aload_n hx hb dX1_at_0 rfl (lv_at hl 0 rfl) ?_
  refine lv_aload_n hx hb dX1_at_1 rfl (lv_at hl 0 rfl) ?_
  refine lv_iload_n hx hb dX1_at_2 rfl (lv_at hl 1 rfl) ?_
  refine vp_callSi (W.runV (As := [.int k]) (rest := [.ref (am 0)]) ⟨hx, hb, hml, hown, hw⟩ (n_isThere l dC dI am ym co ct th fo sg sz hc fL fN fD fH fV fM fW k n hn ect) (cwV 1 hw (gw_V wb_375 wb_377 wbs_16 wb_2 wb_378) rfl rfl rfl (by decide +kernel) ⟨Nat.le_of_ble_eq_true rfl, Nat.le_of_ble_eq_true rfl⟩) ⟨blind_rdM, va_recv hK hP (ci := 1) (q0 := 0) rfl rfl, fun U hU hW => ⟨rfl, by rw [hU]; exact hP, va_K.moved hW.alike hK⟩⟩ rfl rfl hl.1 rfl (lv_room (Nat.le_of_ble_eq_true rfl)) dX1_at_3 ⟨Nat.le_of_ble_eq_true rfl, Nat.le_of_ble_eq_true rfl⟩) (fun r1 h1 => ?_)
  subst h1
  refine lv_if_eq (tgt := 17) hx hb dX1_at_6 (by decide) (fun c1 => ?_) (fun c1 => ?_)
  · skip
    refine lv_iconst (v := 1) hx hb dX1_at_17 (by decide) ?_
    refine va_put (D := (dC, dI)) (ci := 1) (v := .int 1) (ty := .int) (C := RX1) (T := TX1) (N := 14) hx hb hw inX1 tyX1 tyX1_ok nmX1 hown hK hP hD hS 0 rfl rfl 0 (by decide) (hw _ wb_268) (fun _ h9 => h9) rfl (by decide +kernel) rfl rfl (Nat.le_of_ble_eq_true rfl) dX1_at_18 (fun H locs hP hD hS => ?_)
    have hP : va_P (dC, dI) cls2 (MW am ym (1, ct, th, fo, sg, sz, hc, fL, fN, fD, fH, fV, fM, fW)) H := hP
    have hD : va_D A (MW am ym (1, ct, th, fo, sg, sz, hc, fL, fN, fD, fH, fV, fM, fW)) := hD
    refine lv_aload_n hx hb dX1_at_21 rfl (lv_at hl 0 rfl) ?_
    refine va_get (D := (dC, dI)) (ci := 1) (v := .int 1) (C := RX1) (T := TX1) (N := 14) hx hb hw inX1 hown hK hP 0 rfl rfl 0 (by decide) (hw _ wb_268) (fun _ h9 => h9) rfl dX1_at_22 ?_
    refine lv_if_gt (tgt := 38) hx hb dX1_at_25 (by decide) (fun c9 => ?_) (fun c9 => ?_)
    · skip
      refine lv_iconst (v := 0) hx hb dX1_at_38 (by decide) ?_
      refine lv_goto (tgt := 53) hx hb dX1_at_39 (by decide) ?_
      exact W.iret (v := 0) hx hb hrt (fun t ht hW => ⟨⟨_, _, rfl, Or.inl ⟨Or.inl c1, rfl, rfl⟩, by rw [ht]; exact hP, va_K.moved hW.alike hK, hD⟩, hS.F ht⟩) hS.2.2 dX1_at_53
    · skip
      exact absurd (by decide) c9
  · skip
    refine lv_iload_n hx hb dX1_at_9 rfl (lv_at hl 2 rfl) ?_
    refine lv_if_lt (tgt := 17) hx hb dX1_at_10 (by decide) (fun c2 => ?_) (fun c2 => ?_)
    · skip
      refine lv_iconst (v := 1) hx hb dX1_at_17 (by decide) ?_
      refine va_put (D := (dC, dI)) (ci := 1) (v := .int 1) (ty := .int) (C := RX1) (T := TX1) (N := 14) hx hb hw inX1 tyX1 tyX1_ok nmX1 hown hK hP hD hS 0 rfl rfl 0 (by decide) (hw _ wb_268) (fun _ h9 => h9) rfl (by decide +kernel) rfl rfl (Nat.le_of_ble_eq_true rfl) dX1_at_18 (fun H locs hP hD hS => ?_)
      have hP : va_P (dC, dI) cls2 (MW am ym (1, ct, th, fo, sg, sz, hc, fL, fN, fD, fH, fV, fM, fW)) H := hP
      have hD : va_D A (MW am ym (1, ct, th, fo, sg, sz, hc, fL, fN, fD, fH, fV, fM, fW)) := hD
      refine lv_aload_n hx hb dX1_at_21 rfl (lv_at hl 0 rfl) ?_
      refine va_get (D := (dC, dI)) (ci := 1) (v := .int 1) (C := RX1) (T := TX1) (N := 14) hx hb hw inX1 hown hK hP 0 rfl rfl 0 (by decide) (hw _ wb_268) (fun _ h9 => h9) rfl dX1_at_22 ?_
      refine lv_if_gt (tgt := 38) hx hb dX1_at_25 (by decide) (fun c9 => ?_) (fun c9 => ?_)
      · skip
        refine lv_iconst (v := 0) hx hb dX1_at_38 (by decide) ?_
        refine lv_goto (tgt := 53) hx hb dX1_at_39 (by decide) ?_
        exact W.iret (v := 0) hx hb hrt (fun t ht hW => ⟨⟨_, _, rfl, Or.inl ⟨Or.inr c2, rfl, rfl⟩, by rw [ht]; exact hP, va_K.moved hW.alike hK, hD⟩, hS.F ht⟩) hS.2.2 dX1_at_53
      · skip
        exact absurd (by decide) c9
    · skip
      refine lv_iconst (v := 0) hx hb dX1_at_13 (by decide) ?_
      refine lv_goto (tgt := 18) hx hb dX1_at_14 (by decide) ?_
      refine va_put (D := (dC, dI)) (ci := 1) (v := .int 0) (ty := .int) (C := RX1) (T := TX1) (N := 14) hx hb hw inX1 tyX1 tyX1_ok nmX1 hown hK hP hD hS 0 rfl rfl 0 (by decide) (hw _ wb_268) (fun _ h9 => h9) rfl (by decide +kernel) rfl rfl (Nat.le_of_ble_eq_true rfl) dX1_at_18 (fun H locs hP hD hS => ?_)
      have hP : va_P (dC, dI) cls2 (MW am ym (0, ct, th, fo, sg, sz, hc, fL, fN, fD, fH, fV, fM, fW)) H := hP
      have hD : va_D A (MW am ym (0, ct, th, fo, sg, sz, hc, fL, fN, fD, fH, fV, fM, fW)) := hD
      refine lv_aload_n hx hb dX1_at_21 rfl (lv_at hl 0 rfl) ?_
      refine va_get (D := (dC, dI)) (ci := 1) (v := .int 0) (C := RX1) (T := TX1) (N := 14) hx hb hw inX1 hown hK hP 0 rfl rfl 0 (by decide) (hw _ wb_268) (fun _ h9 => h9) rfl dX1_at_22 ?_
      refine lv_if_gt (tgt := 38) hx hb dX1_at_25 (by decide) (fun c9 => ?_) (fun c9 => ?_)
      · skip
        exact absurd c9 (by decide)
      · skip
        have hin : vp_in k 600 := mt_in ect hn c1
        refine lv_iload_n hx hb dX1_at_28 rfl (lv_at hl 2 rfl) ?_
        refine lv_aload_n hx hb dX1_at_29 rfl (lv_at hl 0 rfl) ?_
        refine va_get (D := (dC, dI)) (ci := 1) (v := .ref (am 2)) (C := RX1) (T := TX1) (N := 14) hx hb hw inX1 hown hK hP 0 rfl rfl 6 (by decide) (hw _ wb_274) (fun _ h9 => h9) rfl dX1_at_30 ?_
        refine lv_iload_n hx hb dX1_at_33 rfl (lv_at hl 1 rfl) ?_
        refine va_iald hx hb hK hP 2 1 rfl rfl hin dX1_at_34 ?_
        refine lv_icmp_lt (tgt := 42) hx hb dX1_at_35 (by decide) (fun c3 => ?_) (fun c3 => ?_)
        · skip
          refine lv_aload_n hx hb dX1_at_42 rfl (lv_at hl 0 rfl) ?_
          refine va_get (D := (dC, dI)) (ci := 1) (v := .ref (am 1)) (C := RX1) (T := TX1) (N := 14) hx hb hw inX1 hown hK hP 0 rfl rfl 5 (by decide) (hw _ wb_273) (fun _ h9 => h9) rfl dX1_at_43 ?_
          refine lv_bipush (v := 16) hx hb dX1_at_46 (by decide) ?_
          refine lv_iload_n hx hb dX1_at_48 rfl (lv_at hl 1 rfl) ?_
          refine lv_imul hx hb dX1_at_49 ?_
          refine lv_iload_n hx hb dX1_at_50 rfl (lv_at hl 2 rfl) ?_
          refine lv_iadd hx hb dX1_at_51 ?_
          refine va_iald hx hb hK hP 1 0 rfl rfl (hat c1 c2 c3) dX1_at_52 ?_
          exact W.iret (v := fL ((16 * k) + i).toNatClampNeg) hx hb hrt (fun t ht hW => ⟨⟨_, _, rfl, Or.inr ⟨c1, c2, by rw [if_pos c3], rfl⟩, by rw [ht]; exact hP, va_K.moved hW.alike hK, hD⟩, hS.F ht⟩) hS.2.2 dX1_at_53
        · skip
          refine lv_iconst (v := 0) hx hb dX1_at_38 (by decide) ?_
          refine lv_goto (tgt := 53) hx hb dX1_at_39 (by decide) ?_
          exact W.iret (v := 0) hx hb hrt (fun t ht hW => ⟨⟨_, _, rfl, Or.inr ⟨c1, c2, by rw [if_neg c3], rfl⟩, by rw [ht]; exact hP, va_K.moved hW.alike hK, hD⟩, hS.F ht⟩) hS.2.2 dX1_at_53
set_option maxHeartbeats 4000000 in
set_option maxRecDepth 100000 in
/-- of -/
theorem n_of (l : Launch) (dC : Nat → ClassId) (dI : Nat → Nat → Nat) (am : Nat → Nat) (ym : Nat → ClassId) (co ct th fo sg sz hc : Int32) (fL fN fD fH fV : Nat → Int32) (fM fW : Nat → Int64) (k : Int32) (hb1 : ¬ k < -16) (hb2 : ¬ 16 < k) : Met l yX1_of wsX1_of (rmN 0 0 0) (va_Pc [.ref (am 0), .int k] (rdM dC dI am ym (co, ct, th, fo, sg, sz, hc, fL, fN, fD, fH, fV, fM, fW))) (vp_Si (fun r => r = of_v fV k)) 0 0 (fun _ => False) := by
  refine Met.ofW (cc := cX1_of) (maxL := 3) (ret := (some .int)) (by decide) rfl ?_
  intro p e s m args below meth c s₁ B hml hv
  obtain ⟨rfl, hP, hK⟩ := hv
  have hx := B.exec
  have hb := B.bytes
  have hrt := B.returns
  have hlocks := B.notSynchronized
  have hts := atoms_spec (ws := wsX1_of) B.pre
  have hw : ∀ w ∈ WB, w.before ([.ref (am 0), .int k] : List Value).toArray s = true := fun w h => hts w (List.mem_cons_of_mem _ h)
  have hown : s.vm.findClass "ProofBenchModel" = some m.cls := findClass_of_methodNamed B.named
  have hP : va_P (dC, dI) cls2 (MW am ym (co, ct, th, fo, sg, sz, hc, fL, fN, fD, fH, fV, fM, fW)) s.heap := hP
  have hl := lv_entry ([.ref (am 0), .int k]) (n := 3) (Nat.le_of_ble_eq_true rfl)
  rw [lg_entry_eq]
  generalize (lg_sl ([.ref (am 0), .int k]) ++ List.replicate (3 - (lg_sl ([.ref (am 0), .int k])).length) Slot.unset).toArray = ls at hl ⊢
  have hl : lv_has ls 3 [(0, .ref (am 0)), (1, .int k)] := hl
  refine lv_aload_n hx hb dX1_of_0 rfl (lv_at hl 0 rfl) ?_
  refine va_get (D := (dC, dI)) (ci := 1) (v := .ref (am 5)) (C := RX1) (T := TX1) (N := 14) hx hb hw inX1 hown hK hP 0 rfl rfl 11 (by decide) (hw _ wb_279) (fun _ h9 => h9) rfl dX1_of_1 ?_
  refine lv_iload_n hx hb dX1_of_4 rfl (lv_at hl 1 rfl) ?_
  refine lv_if_le (tgt := 12) hx hb dX1_of_5 (by decide) (fun c1 => ?_) (fun c1 => ?_)
  · skip
    have eab : lt_abs k = -k := by rw [lt_abs, if_neg (Int32.not_lt.mpr c1)]
    refine lv_iload_n hx hb dX1_of_12 rfl (lv_at hl 1 rfl) ?_
    refine lv_ineg hx hb dX1_of_13 ?_
    refine lv_topi (fun v9 ev9 => ?_)
    have ev9 : v9 = lt_abs k := ev9.trans eab.symm
    subst ev9
    refine va_iald hx hb hK hP 5 4 rfl rfl (ab_in hb1 hb2) dX1_of_14 ?_
    refine lv_topi (fun v8 ev8 => ?_)
    refine lv_istore_n (lv' := [(2, .int v8), (0, .ref (am 0)), (1, .int k)]) hx hb dX1_of_15 rfl hl (by decide) rfl (fun ls hl => ?_)
    refine lv_iload_n hx hb dX1_of_16 rfl (lv_at hl 0 rfl) ?_
    refine lv_if_eq (tgt := 24) hx hb dX1_of_17 (by decide) (fun c2 => ?_) (fun c2 => ?_)
    · skip
      refine lv_iload_n hx hb dX1_of_24 rfl (lv_at hl 0 rfl) ?_
      refine lv_goto (tgt := 31) hx hb dX1_of_25 (by decide) ?_
      exact W.iret (v := v8) hx hb hrt (fun t ht hW => ⟨_, rfl, by rw [of_v, ← ev8, if_pos c2]; exact c2, ht⟩) (fun q h => nomatch h) dX1_of_31
    · skip
      refine lv_iload_n hx hb dX1_of_20 rfl (lv_at hl 2 rfl) ?_
      refine lv_if_le (tgt := 28) hx hb dX1_of_21 (by decide) (fun c3 => ?_) (fun c3 => ?_)
      · skip
        refine lv_iconst (v := 3) hx hb dX1_of_28 (by decide) ?_
        refine lv_iload_n hx hb dX1_of_29 rfl (lv_at hl 0 rfl) ?_
        refine lv_isub hx hb dX1_of_30 ?_
        exact W.iret (v := 3 - v8) hx hb hrt (fun t ht hW => ⟨_, rfl, by rw [of_v, ← ev8, if_neg c2, if_neg (Int32.not_lt.mpr c1)], ht⟩) (fun q h => nomatch h) dX1_of_31
      · skip
        exact absurd c1 c3
  · skip
    have eab : lt_abs k = k := by rw [lt_abs, if_pos (Int32.not_le.mp c1)]
    refine lv_iload_n hx hb dX1_of_8 rfl (lv_at hl 1 rfl) ?_
    refine lv_goto (tgt := 14) hx hb dX1_of_9 (by decide) ?_
    refine lv_topi (fun v9 ev9 => ?_)
    have ev9 : v9 = lt_abs k := ev9.trans eab.symm
    subst ev9
    refine va_iald hx hb hK hP 5 4 rfl rfl (ab_in hb1 hb2) dX1_of_14 ?_
    refine lv_topi (fun v8 ev8 => ?_)
    refine lv_istore_n (lv' := [(2, .int v8), (0, .ref (am 0)), (1, .int k)]) hx hb dX1_of_15 rfl hl (by decide) rfl (fun ls hl => ?_)
    refine lv_iload_n hx hb dX1_of_16 rfl (lv_at hl 0 rfl) ?_
    refine lv_if_eq (tgt := 24) hx hb dX1_of_17 (by decide) (fun c2 => ?_) (fun c2 => ?_)
    · skip
      refine lv_iload_n hx hb dX1_of_24 rfl (lv_at hl 0 rfl) ?_
      refine lv_goto (tgt := 31) hx hb dX1_of_25 (by decide) ?_
      exact W.iret (v := v8) hx hb hrt (fun t ht hW => ⟨_, rfl, by rw [of_v, ← ev8, if_pos c2]; exact c2, ht⟩) (fun q h => nomatch h) dX1_of_31
    · skip
      refine lv_iload_n hx hb dX1_of_20 rfl (lv_at hl 2 rfl) ?_
      refine lv_if_le (tgt := 28) hx hb dX1_of_21 (by decide) (fun c3 => ?_) (fun c3 => ?_)
      · skip
        exact absurd c3 c1
      · skip
        refine lv_iload_n hx hb dX1_of_24 rfl (lv_at hl 0 rfl) ?_
        refine lv_goto (tgt := 31) hx hb dX1_of_25 (by decide) ?_
        exact W.iret (v := v8) hx hb hrt (fun t ht hW => ⟨_, rfl, by rw [of_v, ← ev8, if_neg c2, if_pos (Int32.not_le.mp c1)], ht⟩) (fun q h => nomatch h) dX1_of_31
set_option maxHeartbeats 4000000 in
set_option maxRecDepth 100000 in
/-- tell -/
theorem n_tell (l : Launch) (dC : Nat → ClassId) (dI : Nat → Nat → Nat) (am : Nat → Nat) (ym : Nat → ClassId) (sz0 : Nat) (co ct th fo sg sz hc : Int32) (fL fN fD fH fV : Nat → Int32) (fM fW : Nat → Int64) (k : Int32) (hb1 : ¬ k < -16) (hb2 : ¬ 16 < k) : Met l yX1_tell wsX1_tell (rmN 0 0 0) (va_Pc [.ref (am 0), .int k] (preM dC dI am ym sz0 (co, ct, th, fo, sg, sz, hc, fL, fN, fD, fH, fV, fM, fW))) (va_Qv (fun (u : MS) => u = (co, ct, th, fo, sg, sz, hc, fL, fN, fD, fH, tell_v fV k, fM, fW)) (atM dC dI (va_A (MW am ym (co, ct, th, fo, sg, sz, hc, fL, fN, fD, fH, fV, fM, fW)) sz0) am ym) (va_A (MW am ym (co, ct, th, fo, sg, sz, hc, fL, fN, fD, fH, fV, fM, fW)) sz0)) 0 0 (va_A (MW am ym (co, ct, th, fo, sg, sz, hc, fL, fN, fD, fH, fV, fM, fW)) sz0) := by
  refine Met.ofW (cc := cX1_tell) (maxL := 2) (ret := none) (by decide) rfl ?_
  intro p e s m args below meth c s₁ B hml hv
  obtain ⟨rfl, hsz, hP, hK, hD0⟩ := hv
  have hx := B.exec
  have hb := B.bytes
  have hrt := B.returns
  have hlocks := B.notSynchronized
  have hts := atoms_spec (ws := wsX1_tell) B.pre
  have hw : ∀ w ∈ WB, w.before ([.ref (am 0), .int k] : List Value).toArray s = true := fun w h => hts w (List.mem_cons_of_mem _ h)
  have hown : s.vm.findClass "ProofBenchModel" = some m.cls := findClass_of_methodNamed B.named
  subst hsz
  have hD := hD0.self (sz := s.heap.size)
  generalize hAe : va_A (MW am ym (co, ct, th, fo, sg, sz, hc, fL, fN, fD, fH, fV, fM, fW)) s.heap.size = A at hD ⊢
  have hA : ∀ q : Nat, s.heap.size ≤ q → A q := fun q h => by rw [← hAe]; exact Or.inr h
  have hS : va_S A s.heap s.heap [] := va_S.rf
  have hP : va_P (dC, dI) cls2 (MW am ym (co, ct, th, fo, sg, sz, hc, fL, fN, fD, fH, fV, fM, fW)) s.heap := hP
  have hl := lv_entry ([.ref (am 0), .int k]) (n := 2) (Nat.le_of_ble_eq_true rfl)
  rw [lg_entry_eq]
  generalize (lg_sl ([.ref (am 0), .int k]) ++ List.replicate (2 - (lg_sl ([.ref (am 0), .int k])).length) Slot.unset).toArray = ls at hl ⊢
  have hl : lv_has ls 2 [(0, .ref (am 0)), (1, .int k)] := hl
  refine lv_aload_n hx hb dX1_tell_0 rfl (lv_at hl 0 rfl) ?_
  refine va_get (D := (dC, dI)) (ci := 1) (v := .ref (am 5)) (C := RX1) (T := TX1) (N := 14) hx hb hw inX1 hown hK hP 0 rfl rfl 11 (by decide) (hw _ wb_279) (fun _ h9 => h9) rfl dX1_tell_1 ?_
  refine lv_iload_n hx hb dX1_tell_4 rfl (lv_at hl 1 rfl) ?_
  refine lv_if_le (tgt := 12) hx hb dX1_tell_5 (by decide) (fun c1 => ?_) (fun c1 => ?_)
  · skip
    have eab : lt_abs k = -k := by rw [lt_abs, if_neg (Int32.not_lt.mpr c1)]
    refine lv_iload_n hx hb dX1_tell_12 rfl (lv_at hl 1 rfl) ?_
    refine lv_ineg hx hb dX1_tell_13 ?_
    refine lv_topi (fun v9 ev9 => ?_)
    have ev9 : v9 = lt_abs k := ev9.trans eab.symm
    subst ev9
    refine lv_iload_n hx hb dX1_tell_14 rfl (lv_at hl 1 rfl) ?_
    refine lv_if_le (tgt := 22) hx hb dX1_tell_15 (by decide) (fun c2 => ?_) (fun c2 => ?_)
    · skip
      refine lv_iconst (v := 2) hx hb dX1_tell_22 (by decide) ?_
      refine va_iast hx hb hK hP hD hS 5 4 rfl rfl (ab_in hb1 hb2) dX1_tell_23 (fun H locs hP hD hS => ?_)
      have hP : va_P (dC, dI) cls2 (MW am ym (co, ct, th, fo, sg, sz, hc, fL, fN, fD, fH, upd fV (lt_abs k).toNatClampNeg 2, fM, fW)) H := hP
      have hD : va_D A (MW am ym (co, ct, th, fo, sg, sz, hc, fL, fN, fD, fH, upd fV (lt_abs k).toNatClampNeg 2, fM, fW)) := hD
      exact W.vret hx hb hrt (fun t ht hW => ⟨⟨_, rfl, by rw [tell_v, if_neg (Int32.not_lt.mpr c1)], by rw [ht]; exact hP, va_K.moved hW.alike hK, hD⟩, hS.F ht⟩) hS.2.2 dX1_tell_24
    · skip
      exact absurd c1 c2
  · skip
    have eab : lt_abs k = k := by rw [lt_abs, if_pos (Int32.not_le.mp c1)]
    refine lv_iload_n hx hb dX1_tell_8 rfl (lv_at hl 1 rfl) ?_
    refine lv_goto (tgt := 14) hx hb dX1_tell_9 (by decide) ?_
    refine lv_topi (fun v9 ev9 => ?_)
    have ev9 : v9 = lt_abs k := ev9.trans eab.symm
    subst ev9
    refine lv_iload_n hx hb dX1_tell_14 rfl (lv_at hl 1 rfl) ?_
    refine lv_if_le (tgt := 22) hx hb dX1_tell_15 (by decide) (fun c2 => ?_) (fun c2 => ?_)
    · skip
      exact absurd c2 c1
    · skip
      refine lv_iconst (v := 1) hx hb dX1_tell_18 (by decide) ?_
      refine lv_goto (tgt := 23) hx hb dX1_tell_19 (by decide) ?_
      refine va_iast hx hb hK hP hD hS 5 4 rfl rfl (ab_in hb1 hb2) dX1_tell_23 (fun H locs hP hD hS => ?_)
      have hP : va_P (dC, dI) cls2 (MW am ym (co, ct, th, fo, sg, sz, hc, fL, fN, fD, fH, upd fV (lt_abs k).toNatClampNeg 1, fM, fW)) H := hP
      have hD : va_D A (MW am ym (co, ct, th, fo, sg, sz, hc, fL, fN, fD, fH, upd fV (lt_abs k).toNatClampNeg 1, fM, fW)) := hD
      exact W.vret hx hb hrt (fun t ht hW => ⟨⟨_, rfl, by rw [tell_v, if_pos (Int32.not_le.mp c1)], by rw [ht]; exact hP, va_K.moved hW.alike hK, hD⟩, hS.F ht⟩) hS.2.2 dX1_tell_24
set_option maxHeartbeats 4000000 in
set_option maxRecDepth 100000 in
/-- truths -/
theorem n_truths (l : Launch) (dC : Nat → ClassId) (dI : Nat → Nat → Nat) (am : Nat → Nat) (ym : Nat → ClassId) (co ct th fo sg sz hc : Int32) (fL fN fD fH fV : Nat → Int32) (fM fW : Nat → Int64) (v : Int32) (k : Int32) (hv : ¬ v < 0) : Met l yX1_truths wsX1_truths (rmN 0 0 0) (va_Pc [.ref (am 0), .int v, .int k] (rdM dC dI am ym (co, ct, th, fo, sg, sz, hc, fL, fN, fD, fH, fV, fM, fW))) (vp_Sl (fun r => r = tr_v fW v k)) 0 0 (fun _ => False) := by
  refine Met.ofW (cc := cX1_truths) (maxL := 3) (ret := (some .long)) (by decide) rfl ?_
  intro p e s m args below meth c s₁ B hml hv
  obtain ⟨rfl, hP, hK⟩ := hv
  have hx := B.exec
  have hb := B.bytes
  have hrt := B.returns
  have hlocks := B.notSynchronized
  have hts := atoms_spec (ws := wsX1_truths) B.pre
  have hw : ∀ w ∈ WB, w.before ([.ref (am 0), .int v, .int k] : List Value).toArray s = true := fun w h => hts w (List.mem_cons_of_mem _ h)
  have hown : s.vm.findClass "ProofBenchModel" = some m.cls := findClass_of_methodNamed B.named
  have hP : va_P (dC, dI) cls2 (MW am ym (co, ct, th, fo, sg, sz, hc, fL, fN, fD, fH, fV, fM, fW)) s.heap := hP
  have hl := lv_entry ([.ref (am 0), .int v, .int k]) (n := 3) (Nat.le_of_ble_eq_true rfl)
  rw [lg_entry_eq]
  generalize (lg_sl ([.ref (am 0), .int v, .int k]) ++ List.replicate (3 - (lg_sl ([.ref (am 0), .int v, .int k])).length) Slot.unset).toArray = ls at hl ⊢
  have hl : lv_has ls 3 [(0, .ref (am 0)), (1, .int v), (2, .int k)] := hl
  refine lv_iload_n hx hb dX1_truths_0 rfl (lv_at hl 1 rfl) ?_
  refine lv_bipush (v := 7) hx hb dX1_truths_1 (by decide) ?_
  refine lv_icmp_ge (tgt := 15) hx hb dX1_truths_3 (by decide) (fun c1 => ?_) (fun c1 => ?_)
  · skip
    refine lv_iload_n hx hb dX1_truths_15 rfl (lv_at hl 2 rfl) ?_
    refine lv_iload_n hx hb dX1_truths_16 rfl (lv_at hl 1 rfl) ?_
    refine lv_bipush (v := 7) hx hb dX1_truths_17 (by decide) ?_
    refine lv_isub hx hb dX1_truths_19 ?_
    refine lv_ishr hx hb dX1_truths_20 ?_
    refine lv_iconst (v := 1) hx hb dX1_truths_21 (by decide) ?_
    refine lv_iand hx hb dX1_truths_22 ?_
    refine lv_iconst (v := 1) hx hb dX1_truths_23 (by decide) ?_
    refine lv_icmp_ne (tgt := 33) hx hb dX1_truths_24 (by decide) (fun c2 => ?_) (fun c2 => ?_)
    · skip
      refine lv_lconst (v := 0) hx hb dX1_truths_33 (by decide) ?_
      exact W.lret (v := 0) hx hb hrt (fun t ht hW => ⟨_, rfl, by rw [tr_v, if_pos c1, if_neg c2], ht⟩) (fun q h => nomatch h) dX1_truths_34
    · skip
      refine lv_ldc2 (v := (-1)) hx hb hown (hw _ wb_267) dX1_truths_27 ?_
      refine lv_goto (tgt := 34) hx hb dX1_truths_30 (by decide) ?_
      exact W.lret (v := (-1)) hx hb hrt (fun t ht hW => ⟨_, rfl, by rw [tr_v, if_pos c1, if_pos c2], ht⟩) (fun q h => nomatch h) dX1_truths_34
  · skip
    refine lv_aload_n hx hb dX1_truths_6 rfl (lv_at hl 0 rfl) ?_
    refine va_get (D := (dC, dI)) (ci := 1) (v := .ref (am 7)) (C := RX1) (T := TX1) (N := 14) hx hb hw inX1 hown hK hP 0 rfl rfl 13 (by decide) (hw _ wb_281) (fun _ h9 => h9) rfl dX1_truths_7 ?_
    refine lv_iload_n hx hb dX1_truths_10 rfl (lv_at hl 1 rfl) ?_
    refine va_lald hx hb hK hP 7 6 rfl rfl (in_c (cc := 7) (n := 7) (by decide) (Nat.le_refl _) (by decide) hv c1) dX1_truths_11 ?_
    refine lv_goto (tgt := 34) hx hb dX1_truths_12 (by decide) ?_
    exact W.lret (v := fW v.toNatClampNeg) hx hb hrt (fun t ht hW => ⟨_, rfl, by rw [tr_v, if_neg c1], ht⟩) (fun q h => nomatch h) dX1_truths_34
end
section
/-! the reference's loops: literal, add, truths of a draft, give, accept, setting out, what a clause says -/
/-- -16 .. 16 -/
def rng (k : Int32) : Prop := ¬ k < -16 ∧ ¬ 16 < k
theorem rng33 {k : Int32} (h : rng k) : ∃ j : Nat, j < 33 ∧ k = nI j - 16 := lit33 h.1 h.2
theorem rng_neg {k : Int32} (h : rng k) : rng (-k) := by
  obtain ⟨j, hj, e⟩ := rng33 h
  rw [e]
  exact (by decide +kernel : ∀ j, j < 33 → ¬ -(nI j - 16) < -16 ∧ ¬ 16 < -(nI j - 16)) j hj
theorem rng_nn {k : Int32} (h : rng k) (h2 : ¬ 0 < k) : ¬ -k < 0 := by
  obtain ⟨j, hj, e⟩ := rng33 h
  rw [e] at h2 ⊢
  exact (by decide +kernel : ∀ j, j < 33 → ¬ 0 < nI j - 16 → ¬ -(nI j - 16) < 0) j hj h2
def li_0 (k : Int32) : Int32 := if k = 0 ∨ k < -16 ∨ 16 < k then 0 else 1
/-- literal(k): is its variable not in the draft, places i .. i + a - 1 -/
def li_it (fD : Nat → Int32) (k : Int32) : Nat → Nat → Int32 → Int32
  | 0, _, r => r
  | a + 1, i, r => if r = 0 then 0 else li_it fD k a (i + 1) (if fD i = k ∨ fD i = -k then 0 else 1)
def ad_it (fD : Nat → Int32) (n : Nat) : Nat → Nat → (Nat → Int32) → Nat → Int32
  | 0, _, f => f
  | a + 1, i, f => ad_it fD n a (i + 1) (upd f (16 * n + i) (fD i))
def ti_it (fD : Nat → Int32) (fW : Nat → Int64) (c : Int32) : Nat → Nat → Int64 → Int64
  | 0, _, f => f
  | a + 1, i, f => ti_it fD fW c a (i + 1) (f ||| (if 0 < fD i then tr_v fW (fD i) c else tr_v fW (-(fD i)) c ^^^ (-1)))
def gm_it (ti : Nat → Int64) : Nat → Nat → (Nat → Int64) → Nat → Int64
  | 0, _, f => f
  | a + 1, i, f => gm_it ti a (i + 1) (vp_updL f i (f i &&& (if f i = 0 then 0 else ti i)))
def ac_it (ti fM : Nat → Int64) : Nat → Nat → Int32 → Int32
  | 0, _, f => f
  | a + 1, i, f => if f = 0 then 0 else ac_it ti fM a (i + 1) (if fM i = 0 ∨ fM i &&& (ti i ^^^ (-1)) = 0 then 1 else 0)
def zv_it : Nat → Nat → (Nat → Int32) → Nat → Int32
  | 0, _, f => f
  | a + 1, i, f => zv_it a (i + 1) (upd f i 0)
def so_it (fD : Nat → Int32) : Nat → Nat → (Nat → Int32) → Nat → Int32
  | 0, _, f => f
  | a + 1, i, f => so_it fD a (i + 1) (tell_v f (-(fD i)))
def sy_it (fL fV : Nat → Int32) : Nat → Nat → Int32 → Int32 → Int32
  | 0, _, op, la => if op = 0 then 17 else if op = 1 then la else 0
  | a + 1, i, op, la => if of_v fV (fL i) = 1 then 0 else sy_it fL fV a (i + 1) (op + (if of_v fV (fL i) = 0 then 1 else 0)) (if of_v fV (fL i) = 0 then fL i else la)
/-- the reference, the draft made a clause -/
abbrev ad_S (n d : Nat) (u : MS) : MS := match u with
  | (co, ct, th, fo, sg, sz, hc, fL, fN, fD, fH, fV, fM, fW) => (co, ct + 1, th + 1, fo, sg, 0, hc, ad_it fD n d 0 fL, upd fN n sz, fD, fH, fV, fM, fW)
set_option maxHeartbeats 4000000 in
set_option maxRecDepth 100000 in
/-- literal -/
theorem n_literal (l : Launch) (dC : Nat → ClassId) (dI : Nat → Nat → Nat) (am : Nat → Nat) (ym : Nat → ClassId) (sz0 : Nat) (co ct th fo sg sz hc : Int32) (fL fN fD fH fV : Nat → Int32) (fM fW : Nat → Int64) (k : Int32) (d : Nat) (hd : d ≤ 16) (esz : sz = nI d) (hd16 : li_it fD k d 0 (li_0 k) ≠ 0 → d < 16) : Met l yX1_literal wsX1_literal (rmN 0 0 0) (va_Pc [.ref (am 0), .int k] (preM dC dI am ym sz0 (co, ct, th, fo, sg, sz, hc, fL, fN, fD, fH, fV, fM, fW))) (va_Qi (fun (r : Int32) (u : MS) => (li_it fD k d 0 (li_0 k) = 0 ∧ r = 0 ∧ u = (1, ct, th, fo, sg, sz, hc, fL, fN, fD, fH, fV, fM, fW)) ∨ (li_it fD k d 0 (li_0 k) ≠ 0 ∧ r = sz + 1 ∧ u = (0, ct, th, fo, sg, sz + 1, hc, fL, fN, upd fD sz.toNatClampNeg k, fH, fV, fM, fW))) (atM dC dI (va_A (MW am ym (co, ct, th, fo, sg, sz, hc, fL, fN, fD, fH, fV, fM, fW)) sz0) am ym) (va_A (MW am ym (co, ct, th, fo, sg, sz, hc, fL, fN, fD, fH, fV, fM, fW)) sz0)) 0 0 (va_A (MW am ym (co, ct, th, fo, sg, sz, hc, fL, fN, fD, fH, fV, fM, fW)) sz0) := by
  refine Met.ofW (cc := cX1_literal) (maxL := 4) (ret := (some .int)) (by decide) rfl ?_
  intro p e s m args below meth c s₁ B hml hv
  obtain ⟨rfl, hsz, hP, hK, hD0⟩ := hv
  have hx := B.exec
  have hb := B.bytes
  have hrt := B.returns
  have hlocks := B.notSynchronized
  have hts := atoms_spec (ws := wsX1_literal) B.pre
  have hw : ∀ w ∈ WB, w.before ([.ref (am 0), .int k] : List Value).toArray s = true := fun w h => hts w (List.mem_cons_of_mem _ h)
  have hown : s.vm.findClass "ProofBenchModel" = some m.cls := findClass_of_methodNamed B.named
  subst hsz
  have hD := hD0.self (sz := s.heap.size)
  generalize hAe : va_A (MW am ym (co, ct, th, fo, sg, sz, hc, fL, fN, fD, fH, fV, fM, fW)) s.heap.size = A at hD ⊢
  have hA : ∀ q : Nat, s.heap.size ≤ q → A q := fun q h => by rw [← hAe]; exact Or.inr h
  have hS : va_S A s.heap s.heap [] := va_S.rf
  have hP : va_P (dC, dI) cls2 (MW am ym (co, ct, th, fo, sg, sz, hc, fL, fN, fD, fH, fV, fM, fW)) s.heap := hP
  have hl := lv_entry ([.ref (am 0), .int k]) (n := 4) (Nat.le_of_ble_eq_true rfl)
  rw [lg_entry_eq]
  generalize (lg_sl ([.ref (am 0), .int k]) ++ List.replicate (4 - (lg_sl ([.ref (am 0), .int k])).length) Slot.unset).toArray = ls at hl ⊢
  have hl : lv_has ls 4 [(0, .ref (am 0)), (1, .int k)] := hl
  have fin : ∀ rt : Int32, li_it fD k d 0 (li_0 k) = rt → ∀ ls, lv_has ls 4 [(2, .int rt), (0, .ref (am 0)), (1, .int k)] → W p l e (headSpec wsX1_literal (rmN 0 0 0)).room s m ([.ref (am 0), .int k] : List Value).toArray below meth c s.heap [] 0 0 (MQ below (va_Qi (fun (r : Int32) (u : MS) => (li_it fD k d 0 (li_0 k) = 0 ∧ r = 0 ∧ u = (1, ct, th, fo, sg, sz, hc, fL, fN, fD, fH, fV, fM, fW)) ∨ (li_it fD k d 0 (li_0 k) ≠ 0 ∧ r = sz + 1 ∧ u = (0, ct, th, fo, sg, sz + 1, hc, fL, fN, upd fD sz.toNatClampNeg k, fH, fV, fM, fW))) (atM dC dI A am ym) A) ([.ref (am 0), .int k] : List Value).toArray s 0 0 A) (F0 m 69 ls []) := by
    intro rt hq ls hl
    refine lv_aload_n hx hb dX1_literal_69 rfl (lv_at hl 1 rfl) ?_
    refine lv_iload_n hx hb dX1_literal_70 rfl (lv_at hl 0 rfl) ?_
    refine lv_if_eq (tgt := 78) hx hb dX1_literal_71 (by decide) (fun c1 => ?_) (fun c1 => ?_)
    · skip
      refine lv_iconst (v := 1) hx hb dX1_literal_78 (by decide) ?_
      refine va_put (D := (dC, dI)) (ci := 1) (v := .int 1) (ty := .int) (C := RX1) (T := TX1) (N := 14) hx hb hw inX1 tyX1 tyX1_ok nmX1 hown hK hP hD hS 0 rfl rfl 0 (by decide) (hw _ wb_268) (fun _ h9 => h9) rfl (by decide +kernel) rfl rfl (Nat.le_of_ble_eq_true rfl) dX1_literal_79 (fun H locs hP hD hS => ?_)
      have hP : va_P (dC, dI) cls2 (MW am ym (1, ct, th, fo, sg, sz, hc, fL, fN, fD, fH, fV, fM, fW)) H := hP
      have hD : va_D A (MW am ym (1, ct, th, fo, sg, sz, hc, fL, fN, fD, fH, fV, fM, fW)) := hD
      refine lv_aload_n hx hb dX1_literal_82 rfl (lv_at hl 1 rfl) ?_
      refine va_get (D := (dC, dI)) (ci := 1) (v := .int 1) (C := RX1) (T := TX1) (N := 14) hx hb hw inX1 hown hK hP 0 rfl rfl 0 (by decide) (hw _ wb_268) (fun _ h9 => h9) rfl dX1_literal_83 ?_
      refine lv_if_le (tgt := 91) hx hb dX1_literal_86 (by decide) (fun c9 => ?_) (fun c9 => ?_)
      · skip
        exact absurd c9 (by decide)
      · skip
        refine lv_iconst (v := 0) hx hb dX1_literal_89 (by decide) ?_
        exact W.iret (v := 0) hx hb hrt (fun t ht hW => ⟨⟨_, _, rfl, Or.inl ⟨by rw [hq]; exact c1, rfl, rfl⟩, by rw [ht]; exact hP, va_K.moved hW.alike hK, hD⟩, hS.F ht⟩) hS.2.2 dX1_literal_90
    · skip
      refine lv_iconst (v := 0) hx hb dX1_literal_74 (by decide) ?_
      refine lv_goto (tgt := 79) hx hb dX1_literal_75 (by decide) ?_
      refine va_put (D := (dC, dI)) (ci := 1) (v := .int 0) (ty := .int) (C := RX1) (T := TX1) (N := 14) hx hb hw inX1 tyX1 tyX1_ok nmX1 hown hK hP hD hS 0 rfl rfl 0 (by decide) (hw _ wb_268) (fun _ h9 => h9) rfl (by decide +kernel) rfl rfl (Nat.le_of_ble_eq_true rfl) dX1_literal_79 (fun H locs hP hD hS => ?_)
      have hP : va_P (dC, dI) cls2 (MW am ym (0, ct, th, fo, sg, sz, hc, fL, fN, fD, fH, fV, fM, fW)) H := hP
      have hD : va_D A (MW am ym (0, ct, th, fo, sg, sz, hc, fL, fN, fD, fH, fV, fM, fW)) := hD
      refine lv_aload_n hx hb dX1_literal_82 rfl (lv_at hl 1 rfl) ?_
      refine va_get (D := (dC, dI)) (ci := 1) (v := .int 0) (C := RX1) (T := TX1) (N := 14) hx hb hw inX1 hown hK hP 0 rfl rfl 0 (by decide) (hw _ wb_268) (fun _ h9 => h9) rfl dX1_literal_83 ?_
      refine lv_if_le (tgt := 91) hx hb dX1_literal_86 (by decide) (fun c9 => ?_) (fun c9 => ?_)
      · skip
        have d16 : d < 16 := hd16 (by rw [hq]; exact c1)
        refine lv_aload_n hx hb dX1_literal_91 rfl (lv_at hl 1 rfl) ?_
        refine va_get (D := (dC, dI)) (ci := 1) (v := .ref (am 3)) (C := RX1) (T := TX1) (N := 14) hx hb hw inX1 hown hK hP 0 rfl rfl 8 (by decide) (hw _ wb_276) (fun _ h9 => h9) rfl dX1_literal_92 ?_
        refine lv_aload_n hx hb dX1_literal_95 rfl (lv_at hl 1 rfl) ?_
        refine va_get (D := (dC, dI)) (ci := 1) (v := .int sz) (C := RX1) (T := TX1) (N := 14) hx hb hw inX1 hown hK hP 0 rfl rfl 7 (by decide) (hw _ wb_275) (fun _ h9 => h9) rfl dX1_literal_96 ?_
        refine lv_iload_n hx hb dX1_literal_99 rfl (lv_at hl 2 rfl) ?_
        refine va_iast hx hb hK hP hD hS 3 2 rfl rfl (by rw [esz]; exact vp_in_nI d16 (by decide)) dX1_literal_100 (fun H locs hP hD hS => ?_)
        have hP : va_P (dC, dI) cls2 (MW am ym (0, ct, th, fo, sg, sz, hc, fL, fN, upd fD sz.toNatClampNeg k, fH, fV, fM, fW)) H := hP
        have hD : va_D A (MW am ym (0, ct, th, fo, sg, sz, hc, fL, fN, upd fD sz.toNatClampNeg k, fH, fV, fM, fW)) := hD
        refine lv_aload_n hx hb dX1_literal_101 rfl (lv_at hl 1 rfl) ?_
        refine lv_dup hx hb dX1_literal_102 rfl ?_
        refine va_get (D := (dC, dI)) (ci := 1) (v := .int sz) (C := RX1) (T := TX1) (N := 14) hx hb hw inX1 hown hK hP 0 rfl rfl 7 (by decide) (hw _ wb_275) (fun _ h9 => h9) rfl dX1_literal_103 ?_
        refine lv_iconst (v := 1) hx hb dX1_literal_106 (by decide) ?_
        refine lv_iadd hx hb dX1_literal_107 ?_
        refine va_put (D := (dC, dI)) (ci := 1) (v := .int (sz + 1)) (ty := .int) (C := RX1) (T := TX1) (N := 14) hx hb hw inX1 tyX1 tyX1_ok nmX1 hown hK hP hD hS 0 rfl rfl 7 (by decide) (hw _ wb_275) (fun _ h9 => h9) rfl (by decide +kernel) rfl rfl (Nat.le_of_ble_eq_true rfl) dX1_literal_108 (fun H locs hP hD hS => ?_)
        have hP : va_P (dC, dI) cls2 (MW am ym (0, ct, th, fo, sg, sz + 1, hc, fL, fN, upd fD sz.toNatClampNeg k, fH, fV, fM, fW)) H := hP
        have hD : va_D A (MW am ym (0, ct, th, fo, sg, sz + 1, hc, fL, fN, upd fD sz.toNatClampNeg k, fH, fV, fM, fW)) := hD
        refine lv_aload_n hx hb dX1_literal_111 rfl (lv_at hl 1 rfl) ?_
        refine va_get (D := (dC, dI)) (ci := 1) (v := .int (sz + 1)) (C := RX1) (T := TX1) (N := 14) hx hb hw inX1 hown hK hP 0 rfl rfl 7 (by decide) (hw _ wb_275) (fun _ h9 => h9) rfl dX1_literal_112 ?_
        exact W.iret (v := sz + 1) hx hb hrt (fun t ht hW => ⟨⟨_, _, rfl, Or.inr ⟨by rw [hq]; exact c1, rfl, rfl⟩, by rw [ht]; exact hP, va_K.moved hW.alike hK, hD⟩, hS.F ht⟩) hS.2.2 dX1_literal_115
      · skip
        exact absurd (by decide) c9
  have loop : ∀ (a i : Nat) (rt : Int32), i + a = d → li_it fD k d 0 (li_0 k) = li_it fD k a i rt → ∀ ls, lv_has ls 4 [(3, .int (nI i)), (2, .int rt), (0, .ref (am 0)), (1, .int k)] → W p l e (headSpec wsX1_literal (rmN 0 0 0)).room s m ([.ref (am 0), .int k] : List Value).toArray below meth c s.heap [] 0 0 (MQ below (va_Qi (fun (r : Int32) (u : MS) => (li_it fD k d 0 (li_0 k) = 0 ∧ r = 0 ∧ u = (1, ct, th, fo, sg, sz, hc, fL, fN, fD, fH, fV, fM, fW)) ∨ (li_it fD k d 0 (li_0 k) ≠ 0 ∧ r = sz + 1 ∧ u = (0, ct, th, fo, sg, sz + 1, hc, fL, fN, upd fD sz.toNatClampNeg k, fH, fV, fM, fW))) (atM dC dI A am ym) A) ([.ref (am 0), .int k] : List Value).toArray s 0 0 A) (F0 m 24 ls []) := by
    intro a
    induction a with
    | zero =>
      intro i rt hk hq ls hl
      have e0 : i = d := by omega
      refine lv_iload_n hx hb dX1_literal_24 rfl (lv_at hl 0 rfl) ?_
      refine lv_aload_n hx hb dX1_literal_25 rfl (lv_at hl 2 rfl) ?_
      refine va_get (D := (dC, dI)) (ci := 1) (v := .int sz) (C := RX1) (T := TX1) (N := 14) hx hb hw inX1 hown hK hP 0 rfl rfl 7 (by decide) (hw _ wb_275) (fun _ h9 => h9) rfl dX1_literal_26 ?_
      refine lv_icmp_ge (tgt := 69) hx hb dX1_literal_29 (by decide) (fun c1 => ?_) (fun c1 => ?_)
      · skip
        exact fin rt hq ls (lv_sub hl [1, 2, 3] rfl)
      · skip
        exact absurd (by rw [esz, e0]; exact Int32.le_refl _) c1
    | succ a ih =>
      intro i rt hk hq ls hl
      have ci : (nI i).toNatClampNeg = i := nI_clamp (by omega)
      have hin : vp_in (nI i) 16 := vp_in_nI (by omega) (by decide)
      refine lv_iload_n hx hb dX1_literal_24 rfl (lv_at hl 0 rfl) ?_
      refine lv_aload_n hx hb dX1_literal_25 rfl (lv_at hl 2 rfl) ?_
      refine va_get (D := (dC, dI)) (ci := 1) (v := .int sz) (C := RX1) (T := TX1) (N := 14) hx hb hw inX1 hown hK hP 0 rfl rfl 7 (by decide) (hw _ wb_275) (fun _ h9 => h9) rfl dX1_literal_26 ?_
      refine lv_icmp_ge (tgt := 69) hx hb dX1_literal_29 (by decide) (fun c1 => ?_) (fun c1 => ?_)
      · skip
        exact absurd (by rw [esz] at c1; exact c1) (nI_ge (by omega) (by omega))
      · skip
        refine lv_iload_n hx hb dX1_literal_32 rfl (lv_at hl 1 rfl) ?_
        refine lv_if_eq (tgt := 69) hx hb dX1_literal_33 (by decide) (fun c2 => ?_) (fun c2 => ?_)
        · skip
          exact fin rt (by rw [hq, c2]; rfl) ls (lv_sub hl [1, 2, 3] rfl)
        · skip
          refine lv_aload_n hx hb dX1_literal_36 rfl (lv_at hl 2 rfl) ?_
          refine va_get (D := (dC, dI)) (ci := 1) (v := .ref (am 3)) (C := RX1) (T := TX1) (N := 14) hx hb hw inX1 hown hK hP 0 rfl rfl 8 (by decide) (hw _ wb_276) (fun _ h9 => h9) rfl dX1_literal_37 ?_
          refine lv_iload_n hx hb dX1_literal_40 rfl (lv_at hl 0 rfl) ?_
          refine va_iald hx hb hK hP 3 2 rfl rfl hin dX1_literal_41 ?_
          rw [ci]
          refine lv_iload_n hx hb dX1_literal_42 rfl (lv_at hl 3 rfl) ?_
          refine lv_icmp_eq (tgt := 61) hx hb dX1_literal_43 (by decide) (fun c3 => ?_) (fun c3 => ?_)
          · skip
            have es : li_it fD k (a + 1) i rt = li_it fD k a (i + 1) 0 := (if_neg c2).trans (by rw [if_pos (Or.inl c3)])
            refine lv_iconst (v := 0) hx hb dX1_literal_61 (by decide) ?_
            refine lv_istore_n (lv' := [(2, .int 0), (3, .int (nI i)), (0, .ref (am 0)), (1, .int k)]) hx hb dX1_literal_62 rfl hl (by decide) rfl (fun ls hl => ?_)
            refine lv_iinc (v := (nI i) + 1) (lv' := [(3, .int ((nI i) + 1)), (2, .int 0), (0, .ref (am 0)), (1, .int k)]) hx hb dX1_literal_63 hl (k := 1) rfl rfl (by decide) rfl (fun ls hl => ?_)
            refine lv_goto (tgt := 24) hx hb dX1_literal_66 (by decide) ?_
            rw [nI_1] at hl
            exact ih (i + 1) 0 (by omega) (hq.trans es) ls hl
          · skip
            refine lv_aload_n hx hb dX1_literal_46 rfl (lv_at hl 2 rfl) ?_
            refine va_get (D := (dC, dI)) (ci := 1) (v := .ref (am 3)) (C := RX1) (T := TX1) (N := 14) hx hb hw inX1 hown hK hP 0 rfl rfl 8 (by decide) (hw _ wb_276) (fun _ h9 => h9) rfl dX1_literal_47 ?_
            refine lv_iload_n hx hb dX1_literal_50 rfl (lv_at hl 0 rfl) ?_
            refine va_iald hx hb hK hP 3 2 rfl rfl hin dX1_literal_51 ?_
            rw [ci]
            refine lv_iload_n hx hb dX1_literal_52 rfl (lv_at hl 3 rfl) ?_
            refine lv_ineg hx hb dX1_literal_53 ?_
            refine lv_icmp_eq (tgt := 61) hx hb dX1_literal_54 (by decide) (fun c4 => ?_) (fun c4 => ?_)
            · skip
              have es : li_it fD k (a + 1) i rt = li_it fD k a (i + 1) 0 := (if_neg c2).trans (by rw [if_pos (Or.inr c4)])
              refine lv_iconst (v := 0) hx hb dX1_literal_61 (by decide) ?_
              refine lv_istore_n (lv' := [(2, .int 0), (3, .int (nI i)), (0, .ref (am 0)), (1, .int k)]) hx hb dX1_literal_62 rfl hl (by decide) rfl (fun ls hl => ?_)
              refine lv_iinc (v := (nI i) + 1) (lv' := [(3, .int ((nI i) + 1)), (2, .int 0), (0, .ref (am 0)), (1, .int k)]) hx hb dX1_literal_63 hl (k := 1) rfl rfl (by decide) rfl (fun ls hl => ?_)
              refine lv_goto (tgt := 24) hx hb dX1_literal_66 (by decide) ?_
              rw [nI_1] at hl
              exact ih (i + 1) 0 (by omega) (hq.trans es) ls hl
            · skip
              have es : li_it fD k (a + 1) i rt = li_it fD k a (i + 1) 1 := (if_neg c2).trans (by rw [if_neg (fun h => h.elim c3 c4)])
              refine lv_iconst (v := 1) hx hb dX1_literal_57 (by decide) ?_
              refine lv_goto (tgt := 62) hx hb dX1_literal_58 (by decide) ?_
              refine lv_istore_n (lv' := [(2, .int 1), (3, .int (nI i)), (0, .ref (am 0)), (1, .int k)]) hx hb dX1_literal_62 rfl hl (by decide) rfl (fun ls hl => ?_)
              refine lv_iinc (v := (nI i) + 1) (lv' := [(3, .int ((nI i) + 1)), (2, .int 1), (0, .ref (am 0)), (1, .int k)]) hx hb dX1_literal_63 hl (k := 1) rfl rfl (by decide) rfl (fun ls hl => ?_)
              refine lv_goto (tgt := 24) hx hb dX1_literal_66 (by decide) ?_
              rw [nI_1] at hl
              exact ih (i + 1) 1 (by omega) (hq.trans es) ls hl
  refine lv_iload_n hx hb dX1_literal_0 rfl (lv_at hl 1 rfl) ?_
  refine lv_if_eq (tgt := 20) hx hb dX1_literal_1 (by decide) (fun c1 => ?_) (fun c1 => ?_)
  · skip
    have e0 : li_0 k = 0 := by rw [li_0, if_pos (Or.inl c1)]
    refine lv_iconst (v := 0) hx hb dX1_literal_20 (by decide) ?_
    refine lv_istore_n (lv' := [(2, .int 0), (0, .ref (am 0)), (1, .int k)]) hx hb dX1_literal_21 rfl hl (by decide) rfl (fun ls hl => ?_)
    refine lv_iconst (v := 0) hx hb dX1_literal_22 (by decide) ?_
    refine lv_istore_n (lv' := [(3, .int 0), (2, .int 0), (0, .ref (am 0)), (1, .int k)]) hx hb dX1_literal_23 rfl hl (by decide) rfl (fun ls hl => ?_)
    exact loop d 0 0 (by omega) (by rw [e0]) ls hl
  · skip
    refine lv_iload_n hx hb dX1_literal_4 rfl (lv_at hl 1 rfl) ?_
    refine lv_bipush (v := (-16)) hx hb dX1_literal_5 (by decide) ?_
    refine lv_icmp_lt (tgt := 20) hx hb dX1_literal_7 (by decide) (fun c2 => ?_) (fun c2 => ?_)
    · skip
      have e0 : li_0 k = 0 := by rw [li_0, if_pos (Or.inr (Or.inl c2))]
      refine lv_iconst (v := 0) hx hb dX1_literal_20 (by decide) ?_
      refine lv_istore_n (lv' := [(2, .int 0), (0, .ref (am 0)), (1, .int k)]) hx hb dX1_literal_21 rfl hl (by decide) rfl (fun ls hl => ?_)
      refine lv_iconst (v := 0) hx hb dX1_literal_22 (by decide) ?_
      refine lv_istore_n (lv' := [(3, .int 0), (2, .int 0), (0, .ref (am 0)), (1, .int k)]) hx hb dX1_literal_23 rfl hl (by decide) rfl (fun ls hl => ?_)
      exact loop d 0 0 (by omega) (by rw [e0]) ls hl
    · skip
      refine lv_iload_n hx hb dX1_literal_10 rfl (lv_at hl 1 rfl) ?_
      refine lv_bipush (v := 16) hx hb dX1_literal_11 (by decide) ?_
      refine lv_icmp_gt (tgt := 20) hx hb dX1_literal_13 (by decide) (fun c3 => ?_) (fun c3 => ?_)
      · skip
        have e0 : li_0 k = 0 := by rw [li_0, if_pos (Or.inr (Or.inr c3))]
        refine lv_iconst (v := 0) hx hb dX1_literal_20 (by decide) ?_
        refine lv_istore_n (lv' := [(2, .int 0), (0, .ref (am 0)), (1, .int k)]) hx hb dX1_literal_21 rfl hl (by decide) rfl (fun ls hl => ?_)
        refine lv_iconst (v := 0) hx hb dX1_literal_22 (by decide) ?_
        refine lv_istore_n (lv' := [(3, .int 0), (2, .int 0), (0, .ref (am 0)), (1, .int k)]) hx hb dX1_literal_23 rfl hl (by decide) rfl (fun ls hl => ?_)
        exact loop d 0 0 (by omega) (by rw [e0]) ls hl
      · skip
        have e0 : li_0 k = 1 := by rw [li_0, if_neg (fun h => h.elim c1 (fun h => h.elim c2 c3))]
        refine lv_iconst (v := 1) hx hb dX1_literal_16 (by decide) ?_
        refine lv_goto (tgt := 21) hx hb dX1_literal_17 (by decide) ?_
        refine lv_istore_n (lv' := [(2, .int 1), (0, .ref (am 0)), (1, .int k)]) hx hb dX1_literal_21 rfl hl (by decide) rfl (fun ls hl => ?_)
        refine lv_iconst (v := 0) hx hb dX1_literal_22 (by decide) ?_
        refine lv_istore_n (lv' := [(3, .int 0), (2, .int 1), (0, .ref (am 0)), (1, .int k)]) hx hb dX1_literal_23 rfl hl (by decide) rfl (fun ls hl => ?_)
        exact loop d 0 1 (by omega) (by rw [e0]) ls hl
set_option maxHeartbeats 4000000 in
set_option maxRecDepth 100000 in
/-- add -/
theorem n_add (l : Launch) (dC : Nat → ClassId) (dI : Nat → Nat → Nat) (am : Nat → Nat) (ym : Nat → ClassId) (sz0 : Nat) (co ct th fo sg sz hc : Int32) (fL fN fD fH fV : Nat → Int32) (fM fW : Nat → Int64)  (n : Nat) (hn : n < 600) (ect : ct = nI n) (d : Nat) (hd : d ≤ 16) (esz : sz = nI d) : Met l yX1_add wsX1_add (rmN 0 0 0) (va_Pc [.ref (am 0)] (preM dC dI am ym sz0 (co, ct, th, fo, sg, sz, hc, fL, fN, fD, fH, fV, fM, fW))) (va_Qi (fun (r : Int32) (u : MS) => r = ct + 1 - 1 ∧ u = ad_S n d (co, ct, th, fo, sg, sz, hc, fL, fN, fD, fH, fV, fM, fW)) (atM dC dI (va_A (MW am ym (co, ct, th, fo, sg, sz, hc, fL, fN, fD, fH, fV, fM, fW)) sz0) am ym) (va_A (MW am ym (co, ct, th, fo, sg, sz, hc, fL, fN, fD, fH, fV, fM, fW)) sz0)) 0 0 (va_A (MW am ym (co, ct, th, fo, sg, sz, hc, fL, fN, fD, fH, fV, fM, fW)) sz0) := by
  refine Met.ofW (cc := cX1_add) (maxL := 2) (ret := (some .int)) (by decide) rfl ?_
  intro p e s m args below meth c s₁ B hml hv
  obtain ⟨rfl, hsz, hP, hK, hD0⟩ := hv
  have hx := B.exec
  have hb := B.bytes
  have hrt := B.returns
  have hlocks := B.notSynchronized
  have hts := atoms_spec (ws := wsX1_add) B.pre
  have hw : ∀ w ∈ WB, w.before ([.ref (am 0)] : List Value).toArray s = true := fun w h => hts w (List.mem_cons_of_mem _ h)
  have hown : s.vm.findClass "ProofBenchModel" = some m.cls := findClass_of_methodNamed B.named
  subst hsz
  have hD := hD0.self (sz := s.heap.size)
  generalize hAe : va_A (MW am ym (co, ct, th, fo, sg, sz, hc, fL, fN, fD, fH, fV, fM, fW)) s.heap.size = A at hD ⊢
  have hA : ∀ q : Nat, s.heap.size ≤ q → A q := fun q h => by rw [← hAe]; exact Or.inr h
  have hS : va_S A s.heap s.heap [] := va_S.rf
  have hP : va_P (dC, dI) cls2 (MW am ym (co, ct, th, fo, sg, sz, hc, fL, fN, fD, fH, fV, fM, fW)) s.heap := hP
  have hl := lv_entry ([.ref (am 0)]) (n := 2) (Nat.le_of_ble_eq_true rfl)
  rw [lg_entry_eq]
  generalize (lg_sl ([.ref (am 0)]) ++ List.replicate (2 - (lg_sl ([.ref (am 0)])).length) Slot.unset).toArray = ls at hl ⊢
  have hl : lv_has ls 2 [(0, .ref (am 0))] := hl
  refine lv_iconst (v := 0) hx hb dX1_add_0 (by decide) ?_
  refine lv_istore_n (lv' := [(1, .int 0), (0, .ref (am 0))]) hx hb dX1_add_1 rfl hl (by decide) rfl (fun ls hl => ?_)
  have loop : ∀ (a i : Nat) (f : Nat → Int32) (H : Heap) (locs : List Loc), i + a = d → ad_it fD n d 0 fL = ad_it fD n a i f → va_P (dC, dI) cls2 (MW am ym (co, ct, th, fo, sg, sz, hc, f, fN, fD, fH, fV, fM, fW)) H → va_D A (MW am ym (co, ct, th, fo, sg, sz, hc, f, fN, fD, fH, fV, fM, fW)) → va_S A s.heap H locs → ∀ ls, lv_has ls 2 [(1, .int (nI i)), (0, .ref (am 0))] → W p l e (headSpec wsX1_add (rmN 0 0 0)).room s m ([.ref (am 0)] : List Value).toArray below meth c H locs 0 0 (MQ below (va_Qi (fun (r : Int32) (u : MS) => r = ct + 1 - 1 ∧ u = ad_S n d (co, ct, th, fo, sg, sz, hc, fL, fN, fD, fH, fV, fM, fW)) (atM dC dI A am ym) A) ([.ref (am 0)] : List Value).toArray s 0 0 A) (F0 m 2 ls []) := by
    intro a
    induction a with
    | zero =>
      intro i f H locs hk hq hP hD hS ls hl
      have e0 : i = d := by omega
      have cn : ct.toNatClampNeg = n := by rw [ect]; exact nI_clamp (by omega)
      have hin : vp_in ct 600 := by rw [ect]; exact vp_in_nI hn (by decide)
      refine lv_iload_n hx hb dX1_add_2 rfl (lv_at hl 0 rfl) ?_
      refine lv_aload_n hx hb dX1_add_3 rfl (lv_at hl 1 rfl) ?_
      refine va_get (D := (dC, dI)) (ci := 1) (v := .int sz) (C := RX1) (T := TX1) (N := 14) hx hb hw inX1 hown hK hP 0 rfl rfl 7 (by decide) (hw _ wb_275) (fun _ h9 => h9) rfl dX1_add_4 ?_
      refine lv_icmp_ge (tgt := 36) hx hb dX1_add_7 (by decide) (fun c1 => ?_) (fun c1 => ?_)
      · skip
        refine lv_aload_n hx hb dX1_add_36 rfl (lv_at hl 1 rfl) ?_
        refine va_get (D := (dC, dI)) (ci := 1) (v := .ref (am 2)) (C := RX1) (T := TX1) (N := 14) hx hb hw inX1 hown hK hP 0 rfl rfl 6 (by decide) (hw _ wb_274) (fun _ h9 => h9) rfl dX1_add_37 ?_
        refine lv_aload_n hx hb dX1_add_40 rfl (lv_at hl 1 rfl) ?_
        refine va_get (D := (dC, dI)) (ci := 1) (v := .int ct) (C := RX1) (T := TX1) (N := 14) hx hb hw inX1 hown hK hP 0 rfl rfl 1 (by decide) (hw _ wb_269) (fun _ h9 => h9) rfl dX1_add_41 ?_
        refine lv_aload_n hx hb dX1_add_44 rfl (lv_at hl 1 rfl) ?_
        refine va_get (D := (dC, dI)) (ci := 1) (v := .int sz) (C := RX1) (T := TX1) (N := 14) hx hb hw inX1 hown hK hP 0 rfl rfl 7 (by decide) (hw _ wb_275) (fun _ h9 => h9) rfl dX1_add_45 ?_
        refine va_iast hx hb hK hP hD hS 2 1 rfl rfl hin dX1_add_48 (fun H locs hP hD hS => ?_)
        have hP : va_P (dC, dI) cls2 (MW am ym (co, ct, th, fo, sg, sz, hc, f, upd fN ct.toNatClampNeg sz, fD, fH, fV, fM, fW)) H := hP
        have hD : va_D A (MW am ym (co, ct, th, fo, sg, sz, hc, f, upd fN ct.toNatClampNeg sz, fD, fH, fV, fM, fW)) := hD
        rw [cn] at hP hD
        refine lv_aload_n hx hb dX1_add_49 rfl (lv_at hl 1 rfl) ?_
        refine lv_iconst (v := 0) hx hb dX1_add_50 (by decide) ?_
        refine va_put (D := (dC, dI)) (ci := 1) (v := .int 0) (ty := .int) (C := RX1) (T := TX1) (N := 14) hx hb hw inX1 tyX1 tyX1_ok nmX1 hown hK hP hD hS 0 rfl rfl 7 (by decide) (hw _ wb_275) (fun _ h9 => h9) rfl (by decide +kernel) rfl rfl (Nat.le_of_ble_eq_true rfl) dX1_add_51 (fun H locs hP hD hS => ?_)
        have hP : va_P (dC, dI) cls2 (MW am ym (co, ct, th, fo, sg, 0, hc, f, upd fN n sz, fD, fH, fV, fM, fW)) H := hP
        have hD : va_D A (MW am ym (co, ct, th, fo, sg, 0, hc, f, upd fN n sz, fD, fH, fV, fM, fW)) := hD
        refine lv_aload_n hx hb dX1_add_54 rfl (lv_at hl 1 rfl) ?_
        refine lv_dup hx hb dX1_add_55 rfl ?_
        refine va_get (D := (dC, dI)) (ci := 1) (v := .int th) (C := RX1) (T := TX1) (N := 14) hx hb hw inX1 hown hK hP 0 rfl rfl 2 (by decide) (hw _ wb_270) (fun _ h9 => h9) rfl dX1_add_56 ?_
        refine lv_iconst (v := 1) hx hb dX1_add_59 (by decide) ?_
        refine lv_iadd hx hb dX1_add_60 ?_
        refine va_put (D := (dC, dI)) (ci := 1) (v := .int (th + 1)) (ty := .int) (C := RX1) (T := TX1) (N := 14) hx hb hw inX1 tyX1 tyX1_ok nmX1 hown hK hP hD hS 0 rfl rfl 2 (by decide) (hw _ wb_270) (fun _ h9 => h9) rfl (by decide +kernel) rfl rfl (Nat.le_of_ble_eq_true rfl) dX1_add_61 (fun H locs hP hD hS => ?_)
        have hP : va_P (dC, dI) cls2 (MW am ym (co, ct, th + 1, fo, sg, 0, hc, f, upd fN n sz, fD, fH, fV, fM, fW)) H := hP
        have hD : va_D A (MW am ym (co, ct, th + 1, fo, sg, 0, hc, f, upd fN n sz, fD, fH, fV, fM, fW)) := hD
        refine lv_aload_n hx hb dX1_add_64 rfl (lv_at hl 1 rfl) ?_
        refine lv_dup hx hb dX1_add_65 rfl ?_
        refine va_get (D := (dC, dI)) (ci := 1) (v := .int ct) (C := RX1) (T := TX1) (N := 14) hx hb hw inX1 hown hK hP 0 rfl rfl 1 (by decide) (hw _ wb_269) (fun _ h9 => h9) rfl dX1_add_66 ?_
        refine lv_iconst (v := 1) hx hb dX1_add_69 (by decide) ?_
        refine lv_iadd hx hb dX1_add_70 ?_
        refine va_put (D := (dC, dI)) (ci := 1) (v := .int (ct + 1)) (ty := .int) (C := RX1) (T := TX1) (N := 14) hx hb hw inX1 tyX1 tyX1_ok nmX1 hown hK hP hD hS 0 rfl rfl 1 (by decide) (hw _ wb_269) (fun _ h9 => h9) rfl (by decide +kernel) rfl rfl (Nat.le_of_ble_eq_true rfl) dX1_add_71 (fun H locs hP hD hS => ?_)
        have hP : va_P (dC, dI) cls2 (MW am ym (co, ct + 1, th + 1, fo, sg, 0, hc, f, upd fN n sz, fD, fH, fV, fM, fW)) H := hP
        have hD : va_D A (MW am ym (co, ct + 1, th + 1, fo, sg, 0, hc, f, upd fN n sz, fD, fH, fV, fM, fW)) := hD
        refine lv_aload_n hx hb dX1_add_74 rfl (lv_at hl 1 rfl) ?_
        refine va_get (D := (dC, dI)) (ci := 1) (v := .int (ct + 1)) (C := RX1) (T := TX1) (N := 14) hx hb hw inX1 hown hK hP 0 rfl rfl 1 (by decide) (hw _ wb_269) (fun _ h9 => h9) rfl dX1_add_75 ?_
        refine lv_iconst (v := 1) hx hb dX1_add_78 (by decide) ?_
        refine lv_isub hx hb dX1_add_79 ?_
        exact W.iret (v := (ct + 1) - 1) hx hb hrt (fun t ht hW => ⟨⟨_, _, rfl, ⟨rfl, by rw [ad_S, hq]; rfl⟩, by rw [ht]; exact hP, va_K.moved hW.alike hK, hD⟩, hS.F ht⟩) hS.2.2 dX1_add_80
      · skip
        exact absurd (by rw [esz, e0]; exact Int32.le_refl _) c1
    | succ a ih =>
      intro i f H locs hk hq hP hD hS ls hl
      have ci : (nI i).toNatClampNeg = i := nI_clamp (by omega)
      have cj : (nI (16 * n + i)).toNatClampNeg = 16 * n + i := nI_clamp (by omega)
      have ej : 16 * ct + nI i = nI (16 * n + i) := by rw [ect, show (16 : Int32) = nI 16 from rfl, pk_mul, nI_add]
      refine lv_iload_n hx hb dX1_add_2 rfl (lv_at hl 0 rfl) ?_
      refine lv_aload_n hx hb dX1_add_3 rfl (lv_at hl 1 rfl) ?_
      refine va_get (D := (dC, dI)) (ci := 1) (v := .int sz) (C := RX1) (T := TX1) (N := 14) hx hb hw inX1 hown hK hP 0 rfl rfl 7 (by decide) (hw _ wb_275) (fun _ h9 => h9) rfl dX1_add_4 ?_
      refine lv_icmp_ge (tgt := 36) hx hb dX1_add_7 (by decide) (fun c1 => ?_) (fun c1 => ?_)
      · skip
        exact absurd (by rw [esz] at c1; exact c1) (nI_ge (by omega) (by omega))
      · skip
        refine lv_aload_n hx hb dX1_add_10 rfl (lv_at hl 1 rfl) ?_
        refine va_get (D := (dC, dI)) (ci := 1) (v := .ref (am 1)) (C := RX1) (T := TX1) (N := 14) hx hb hw inX1 hown hK hP 0 rfl rfl 5 (by decide) (hw _ wb_273) (fun _ h9 => h9) rfl dX1_add_11 ?_
        refine lv_bipush (v := 16) hx hb dX1_add_14 (by decide) ?_
        refine lv_aload_n hx hb dX1_add_16 rfl (lv_at hl 1 rfl) ?_
        refine va_get (D := (dC, dI)) (ci := 1) (v := .int ct) (C := RX1) (T := TX1) (N := 14) hx hb hw inX1 hown hK hP 0 rfl rfl 1 (by decide) (hw _ wb_269) (fun _ h9 => h9) rfl dX1_add_17 ?_
        refine lv_imul hx hb dX1_add_20 ?_
        refine lv_iload_n hx hb dX1_add_21 rfl (lv_at hl 0 rfl) ?_
        refine lv_iadd hx hb dX1_add_22 ?_
        rw [ej]
        refine lv_aload_n hx hb dX1_add_23 rfl (lv_at hl 1 rfl) ?_
        refine va_get (D := (dC, dI)) (ci := 1) (v := .ref (am 3)) (C := RX1) (T := TX1) (N := 14) hx hb hw inX1 hown hK hP 0 rfl rfl 8 (by decide) (hw _ wb_276) (fun _ h9 => h9) rfl dX1_add_24 ?_
        refine lv_iload_n hx hb dX1_add_27 rfl (lv_at hl 0 rfl) ?_
        refine va_iald hx hb hK hP 3 2 rfl rfl (vp_in_nI (by omega) (by decide)) dX1_add_28 ?_
        rw [ci]
        refine va_iast hx hb hK hP hD hS 1 0 rfl rfl (vp_in_nI (by omega) (by decide)) dX1_add_29 (fun H locs hP hD hS => ?_)
        have hP : va_P (dC, dI) cls2 (MW am ym (co, ct, th, fo, sg, sz, hc, upd f (nI (16 * n + i)).toNatClampNeg (fD i), fN, fD, fH, fV, fM, fW)) H := hP
        have hD : va_D A (MW am ym (co, ct, th, fo, sg, sz, hc, upd f (nI (16 * n + i)).toNatClampNeg (fD i), fN, fD, fH, fV, fM, fW)) := hD
        rw [cj] at hP hD
        refine lv_iinc (v := (nI i) + 1) (lv' := [(1, .int ((nI i) + 1)), (0, .ref (am 0))]) hx hb dX1_add_30 hl (k := 0) rfl rfl (by decide) rfl (fun ls hl => ?_)
        refine lv_goto (tgt := 2) hx hb dX1_add_33 (by decide) ?_
        rw [nI_1] at hl
        exact ih (i + 1) _ H _ (by omega) hq hP hD hS ls hl
  exact loop d 0 fL s.heap [] (by omega) rfl hP hD hS ls hl
set_option maxHeartbeats 4000000 in
set_option maxRecDepth 100000 in
/-- trueIn -/
theorem n_trueIn (l : Launch) (dC : Nat → ClassId) (dI : Nat → Nat → Nat) (am : Nat → Nat) (ym : Nat → ClassId) (co ct th fo sg sz hc : Int32) (fL fN fD fH fV : Nat → Int32) (fM fW : Nat → Int64) (k : Int32) (d : Nat) (hd : d ≤ 16) (esz : sz = nI d) (hR : ∀ j, j < d → rng (fD j)) : Met l yX1_trueIn wsX1_trueIn (rmN 1 0 0) (va_Pc [.ref (am 0), .int k] (rdM dC dI am ym (co, ct, th, fo, sg, sz, hc, fL, fN, fD, fH, fV, fM, fW))) (vp_Sl (fun r => r = ti_it fD fW k d 0 0)) 0 0 (fun _ => False) := by
  refine Met.ofW (cc := cX1_trueIn) (maxL := 6) (ret := (some .long)) (by decide) rfl ?_
  intro p e s m args below meth c s₁ B hml hv
  obtain ⟨rfl, hP, hK⟩ := hv
  have hx := B.exec
  have hb := B.bytes
  have hrt := B.returns
  have hlocks := B.notSynchronized
  have hts := atoms_spec (ws := wsX1_trueIn) B.pre
  have hw : ∀ w ∈ WB, w.before ([.ref (am 0), .int k] : List Value).toArray s = true := fun w h => hts w (List.mem_cons_of_mem _ h)
  have hown : s.vm.findClass "ProofBenchModel" = some m.cls := findClass_of_methodNamed B.named
  have hP : va_P (dC, dI) cls2 (MW am ym (co, ct, th, fo, sg, sz, hc, fL, fN, fD, fH, fV, fM, fW)) s.heap := hP
  have hl := lv_entry ([.ref (am 0), .int k]) (n := 6) (Nat.le_of_ble_eq_true rfl)
  rw [lg_entry_eq]
  generalize (lg_sl ([.ref (am 0), .int k]) ++ List.replicate (6 - (lg_sl ([.ref (am 0), .int k])).length) Slot.unset).toArray = ls at hl ⊢
  have hl : lv_has ls 6 [(0, .ref (am 0)), (1, .int k)] := hl
  refine lv_lconst (v := 0) hx hb dX1_trueIn_0 (by decide) ?_
  refine lv_lstore_n (lv' := [(2, .long 0), (0, .ref (am 0)), (1, .int k)]) hx hb dX1_trueIn_1 rfl hl (by decide) rfl (fun ls hl => ?_)
  refine lv_iconst (v := 0) hx hb dX1_trueIn_2 (by decide) ?_
  refine lv_istore (lv' := [(4, .int 0), (2, .long 0), (0, .ref (am 0)), (1, .int k)]) hx hb dX1_trueIn_3 hl (by decide) rfl (fun ls hl => ?_)
  have loop : ∀ (a i : Nat) (f : Int64), i + a = d → ti_it fD fW k d 0 0 = ti_it fD fW k a i f → ∀ ls, lv_has ls 6 [(4, .int (nI i)), (2, .long f), (0, .ref (am 0)), (1, .int k)] → W p l e (headSpec wsX1_trueIn (rmN 1 0 0)).room s m ([.ref (am 0), .int k] : List Value).toArray below meth c s.heap [] 0 0 (MQ below (vp_Sl (fun r => r = ti_it fD fW k d 0 0)) ([.ref (am 0), .int k] : List Value).toArray s 0 0 (fun _ => False)) (F0 m 5 ls []) := by
    intro a
    induction a with
    | zero =>
      intro i f hk hq ls hl
      have e0 : i = d := by omega
      refine lv_iload hx hb dX1_trueIn_5 (lv_at hl 0 rfl) ?_
      refine lv_aload_n hx hb dX1_trueIn_7 rfl (lv_at hl 2 rfl) ?_
      refine va_get (D := (dC, dI)) (ci := 1) (v := .int sz) (C := RX1) (T := TX1) (N := 14) hx hb hw inX1 hown hK hP 0 rfl rfl 7 (by decide) (hw _ wb_275) (fun _ h9 => h9) rfl dX1_trueIn_8 ?_
      refine lv_icmp_ge (tgt := 59) hx hb dX1_trueIn_11 (by decide) (fun c1 => ?_) (fun c1 => ?_)
      · skip
        refine lv_lload_n hx hb dX1_trueIn_59 rfl (lv_at hl 1 rfl) ?_
        exact W.lret (v := f) hx hb hrt (fun t ht hW => ⟨_, rfl, hq.symm, ht⟩) (fun q h => nomatch h) dX1_trueIn_60
      · skip
        exact absurd (by rw [esz, e0]; exact Int32.le_refl _) c1
    | succ a ih =>
      intro i f hk hq ls hl
      have ci : (nI i).toNatClampNeg = i := nI_clamp (by omega)
      refine lv_iload hx hb dX1_trueIn_5 (lv_at hl 0 rfl) ?_
      refine lv_aload_n hx hb dX1_trueIn_7 rfl (lv_at hl 2 rfl) ?_
      refine va_get (D := (dC, dI)) (ci := 1) (v := .int sz) (C := RX1) (T := TX1) (N := 14) hx hb hw inX1 hown hK hP 0 rfl rfl 7 (by decide) (hw _ wb_275) (fun _ h9 => h9) rfl dX1_trueIn_8 ?_
      refine lv_icmp_ge (tgt := 59) hx hb dX1_trueIn_11 (by decide) (fun c1 => ?_) (fun c1 => ?_)
      · skip
        exact absurd (by rw [esz] at c1; exact c1) (nI_ge (by omega) (by omega))
      · skip
        refine lv_aload_n hx hb dX1_trueIn_14 rfl (lv_at hl 2 rfl) ?_
        refine va_get (D := (dC, dI)) (ci := 1) (v := .ref (am 3)) (C := RX1) (T := TX1) (N := 14) hx hb hw inX1 hown hK hP 0 rfl rfl 8 (by decide) (hw _ wb_276) (fun _ h9 => h9) rfl dX1_trueIn_15 ?_
        refine lv_iload hx hb dX1_trueIn_18 (lv_at hl 0 rfl) ?_
        refine va_iald hx hb hK hP 3 2 rfl rfl (vp_in_nI (by omega) (by decide)) dX1_trueIn_20 ?_
        rw [ci]
        refine lv_istore (lv' := [(5, .int (fD i)), (4, .int (nI i)), (2, .long f), (0, .ref (am 0)), (1, .int k)]) hx hb dX1_trueIn_21 hl (by decide) rfl (fun ls hl => ?_)
        refine lv_lload_n hx hb dX1_trueIn_23 rfl (lv_at hl 2 rfl) ?_
        refine lv_iload hx hb dX1_trueIn_24 (lv_at hl 0 rfl) ?_
        refine lv_if_le (tgt := 39) hx hb dX1_trueIn_26 (by decide) (fun c2 => ?_) (fun c2 => ?_)
        · skip
          refine lv_aload_n hx hb dX1_trueIn_39 rfl (lv_at hl 3 rfl) ?_
          refine lv_iload hx hb dX1_trueIn_40 (lv_at hl 0 rfl) ?_
          refine lv_ineg hx hb dX1_trueIn_42 ?_
          refine lv_iload_n hx hb dX1_trueIn_43 rfl (lv_at hl 4 rfl) ?_
          refine vp_callSl (W.runV (As := [.int (-(fD i)), .int k]) (rest := [.long f]) ⟨hx, hb, hml, hown, hw⟩ (n_truths l dC dI am ym co ct th fo sg sz hc fL fN fD fH fV fM fW (-fD i) k (rng_nn (hR i (by omega)) (Int32.not_lt.mpr c2))) (cwV 2 hw (gw_V wb_335 wb_337 wbs_8 wb_2 wb_338) rfl rfl rfl (by decide +kernel) ⟨Nat.le_of_ble_eq_true rfl, Nat.le_of_ble_eq_true rfl⟩) ⟨blind_rdM, va_recv hK hP (ci := 1) (q0 := 0) rfl rfl, fun U hU hW => ⟨rfl, by rw [hU]; exact hP, va_K.moved hW.alike hK⟩⟩ rfl rfl hl.1 rfl (lv_room (Nat.le_of_ble_eq_true rfl)) dX1_trueIn_44 ⟨Nat.le_of_ble_eq_true rfl, Nat.le_of_ble_eq_true rfl⟩) (fun r1 h1 => ?_)
          subst h1
          have es : ti_it fD fW k (a + 1) i f = ti_it fD fW k a (i + 1) (f ||| (tr_v fW (-fD i) k ^^^ (-1))) := by rw [ti_it, if_neg (Int32.not_lt.mpr c2)]
          refine lv_ldc2 (v := (-1)) hx hb hown (hw _ wb_267) dX1_trueIn_47 ?_
          refine lv_lxor hx hb dX1_trueIn_50 ?_
          refine lv_lor hx hb dX1_trueIn_51 ?_
          refine lv_lstore_n (lv' := [(2, .long (f ||| ((tr_v fW (-fD i) k) ^^^ (-1)))), (5, .int (fD i)), (4, .int (nI i)), (0, .ref (am 0)), (1, .int k)]) hx hb dX1_trueIn_52 rfl hl (by decide) rfl (fun ls hl => ?_)
          refine lv_iinc (v := (nI i) + 1) (lv' := [(4, .int ((nI i) + 1)), (2, .long (f ||| ((tr_v fW (-fD i) k) ^^^ (-1)))), (5, .int (fD i)), (0, .ref (am 0)), (1, .int k)]) hx hb dX1_trueIn_53 hl (k := 2) rfl rfl (by decide) rfl (fun ls hl => ?_)
          refine lv_goto (tgt := 5) hx hb dX1_trueIn_56 (by decide) ?_
          rw [nI_1] at hl
          exact ih (i + 1) _ (by omega) (hq.trans es) ls (lv_sub hl [0, 1, 3, 4] rfl)
        · skip
          refine lv_aload_n hx hb dX1_trueIn_29 rfl (lv_at hl 3 rfl) ?_
          refine lv_iload hx hb dX1_trueIn_30 (lv_at hl 0 rfl) ?_
          refine lv_iload_n hx hb dX1_trueIn_32 rfl (lv_at hl 4 rfl) ?_
          refine vp_callSl (W.runV (As := [.int (fD i), .int k]) (rest := [.long f]) ⟨hx, hb, hml, hown, hw⟩ (n_truths l dC dI am ym co ct th fo sg sz hc fL fN fD fH fV fM fW (fD i) k (fun h => c2 (Int32.le_of_lt h))) (cwV 2 hw (gw_V wb_335 wb_337 wbs_8 wb_2 wb_338) rfl rfl rfl (by decide +kernel) ⟨Nat.le_of_ble_eq_true rfl, Nat.le_of_ble_eq_true rfl⟩) ⟨blind_rdM, va_recv hK hP (ci := 1) (q0 := 0) rfl rfl, fun U hU hW => ⟨rfl, by rw [hU]; exact hP, va_K.moved hW.alike hK⟩⟩ rfl rfl hl.1 rfl (lv_room (Nat.le_of_ble_eq_true rfl)) dX1_trueIn_33 ⟨Nat.le_of_ble_eq_true rfl, Nat.le_of_ble_eq_true rfl⟩) (fun r1 h1 => ?_)
          subst h1
          have es : ti_it fD fW k (a + 1) i f = ti_it fD fW k a (i + 1) (f ||| (tr_v fW (fD i) k)) := by rw [ti_it, if_pos (Int32.not_le.mp c2)]
          refine lv_goto (tgt := 51) hx hb dX1_trueIn_36 (by decide) ?_
          refine lv_lor hx hb dX1_trueIn_51 ?_
          refine lv_lstore_n (lv' := [(2, .long (f ||| (tr_v fW (fD i) k))), (5, .int (fD i)), (4, .int (nI i)), (0, .ref (am 0)), (1, .int k)]) hx hb dX1_trueIn_52 rfl hl (by decide) rfl (fun ls hl => ?_)
          refine lv_iinc (v := (nI i) + 1) (lv' := [(4, .int ((nI i) + 1)), (2, .long (f ||| (tr_v fW (fD i) k))), (5, .int (fD i)), (0, .ref (am 0)), (1, .int k)]) hx hb dX1_trueIn_53 hl (k := 2) rfl rfl (by decide) rfl (fun ls hl => ?_)
          refine lv_goto (tgt := 5) hx hb dX1_trueIn_56 (by decide) ?_
          rw [nI_1] at hl
          exact ih (i + 1) _ (by omega) (hq.trans es) ls (lv_sub hl [0, 1, 3, 4] rfl)
  exact loop d 0 0 (by omega) rfl ls hl
set_option maxHeartbeats 4000000 in
set_option maxRecDepth 100000 in
/-- give -/
theorem n_give (l : Launch) (dC : Nat → ClassId) (dI : Nat → Nat → Nat) (am : Nat → Nat) (ym : Nat → ClassId) (sz0 : Nat) (co ct th fo sg sz hc : Int32) (fL fN fD fH fV : Nat → Int32) (fM fW : Nat → Int64)  (n : Nat) (hn : n < 600) (ect : ct = nI n) (d : Nat) (hd : d ≤ 16) (esz : sz = nI d) (hR : ∀ j, j < d → rng (fD j)) : Met l yX1_give wsX1_give (rmN 2 0 0) (va_Pc [.ref (am 0)] (preM dC dI am ym sz0 (co, ct, th, fo, sg, sz, hc, fL, fN, fD, fH, fV, fM, fW))) (va_Qi (fun (r : Int32) (u : MS) => r = ct + 1 - 1 ∧ u = ad_S n d (0, ct, th, fo, sg, sz, hc, fL, fN, fD, fH, fV, gm_it (fun j => ti_it fD fW (nI j) d 0 0) 1024 0 fM, fW)) (atM dC dI (va_A (MW am ym (co, ct, th, fo, sg, sz, hc, fL, fN, fD, fH, fV, fM, fW)) sz0) am ym) (va_A (MW am ym (co, ct, th, fo, sg, sz, hc, fL, fN, fD, fH, fV, fM, fW)) sz0)) 0 0 (va_A (MW am ym (co, ct, th, fo, sg, sz, hc, fL, fN, fD, fH, fV, fM, fW)) sz0) := by
  refine Met.ofW (cc := cX1_give) (maxL := 2) (ret := (some .int)) (by decide) rfl ?_
  intro p e s m args below meth c s₁ B hml hv
  obtain ⟨rfl, hsz, hP, hK, hD0⟩ := hv
  have hx := B.exec
  have hb := B.bytes
  have hrt := B.returns
  have hlocks := B.notSynchronized
  have hts := atoms_spec (ws := wsX1_give) B.pre
  have hw : ∀ w ∈ WB, w.before ([.ref (am 0)] : List Value).toArray s = true := fun w h => hts w (List.mem_cons_of_mem _ h)
  have hown : s.vm.findClass "ProofBenchModel" = some m.cls := findClass_of_methodNamed B.named
  subst hsz
  have hD := hD0.self (sz := s.heap.size)
  generalize hAe : va_A (MW am ym (co, ct, th, fo, sg, sz, hc, fL, fN, fD, fH, fV, fM, fW)) s.heap.size = A at hD ⊢
  have hA : ∀ q : Nat, s.heap.size ≤ q → A q := fun q h => by rw [← hAe]; exact Or.inr h
  have hS : va_S A s.heap s.heap [] := va_S.rf
  have hP : va_P (dC, dI) cls2 (MW am ym (co, ct, th, fo, sg, sz, hc, fL, fN, fD, fH, fV, fM, fW)) s.heap := hP
  have hl := lv_entry ([.ref (am 0)]) (n := 2) (Nat.le_of_ble_eq_true rfl)
  rw [lg_entry_eq]
  generalize (lg_sl ([.ref (am 0)]) ++ List.replicate (2 - (lg_sl ([.ref (am 0)])).length) Slot.unset).toArray = ls at hl ⊢
  have hl : lv_has ls 2 [(0, .ref (am 0))] := hl
  have loop : ∀ (a i : Nat) (f : Nat → Int64) (H : Heap) (locs : List Loc), i + a = 1024 → gm_it (fun j => ti_it fD fW (nI j) d 0 0) 1024 0 fM = gm_it (fun j => ti_it fD fW (nI j) d 0 0) a i f → va_P (dC, dI) cls2 (MW am ym (0, ct, th, fo, sg, sz, hc, fL, fN, fD, fH, fV, f, fW)) H → va_D A (MW am ym (0, ct, th, fo, sg, sz, hc, fL, fN, fD, fH, fV, f, fW)) → va_S A s.heap H locs → ∀ ls, lv_has ls 2 [(1, .int (nI i)), (0, .ref (am 0))] → W p l e (headSpec wsX1_give (rmN 2 0 0)).room s m ([.ref (am 0)] : List Value).toArray below meth c H locs 0 0 (MQ below (va_Qi (fun (r : Int32) (u : MS) => r = ct + 1 - 1 ∧ u = ad_S n d (0, ct, th, fo, sg, sz, hc, fL, fN, fD, fH, fV, gm_it (fun j => ti_it fD fW (nI j) d 0 0) 1024 0 fM, fW)) (atM dC dI A am ym) A) ([.ref (am 0)] : List Value).toArray s 0 0 A) (F0 m 30 ls []) := by
    intro a
    induction a with
    | zero =>
      intro i f H locs hk hq hP hD hS ls hl
      have e0 : i = 1024 := by omega
      subst e0
      refine lv_iload_n hx hb dX1_give_30 rfl (lv_at hl 0 rfl) ?_
      refine lv_sipush (v := 1024) hx hb dX1_give_31 (by decide) ?_
      refine lv_icmp_ge (tgt := 72) hx hb dX1_give_34 (by decide) (fun c1 => ?_) (fun c1 => ?_)
      · skip
        refine lv_aload_n hx hb dX1_give_72 rfl (lv_at hl 1 rfl) ?_
        have hFc := va_free (wc := MW am ym (0, ct, th, fo, sg, sz, hc, fL, fN, fD, fH, fV, f, fW)) hD hS hA [0, 1, 2, 3, 4, 5, 6, 7] rfl
        refine va_calli (va_runV (As := []) (rest := []) ⟨hx, hb, hml, hown, hw⟩ (n_add l dC dI am ym H.size 0 ct th fo sg sz hc fL fN fD fH fV f fW n hn ect d hd esz) (cwV 0 hw (gw_V wb_339 wb_341 wbs_9 wb_2 wb_342) rfl rfl rfl (by decide +kernel) ⟨Nat.le_of_ble_eq_true rfl, Nat.le_of_ble_eq_true rfl⟩) ⟨blind_preM, va_recv hK hP (ci := 1) (q0 := 0) rfl rfl, fun U hU hW => ⟨rfl, by rw [hU], by rw [hU]; exact hP, va_K.moved hW.alike hK, hD.weaken (fun _ _ _ _ => trivial)⟩⟩ rfl rfl hl.1 rfl (lv_room (Nat.le_of_ble_eq_true rfl)) dX1_give_73 ⟨Nat.le_of_ble_eq_true rfl, Nat.le_of_ble_eq_true rfl⟩) hS (fun q _ h => hFc q h) hFc (fun r1 u t H1 locs ht hvm hq hB hz1 hk1 hS => ?_)
        obtain ⟨hr1, rfl⟩ := hq
        obtain ⟨hP1, hK1, hD1⟩ := hB
        rw [ht] at hP1
        have hP : va_P (dC, dI) cls2 (MW am ym (0, ct + 1, th + 1, fo, sg, 0, hc, ad_it fD n d 0 fL, upd fN n sz, fD, fH, fV, f, fW)) H1 := hP1
        have hD : va_D A (MW am ym (0, ct + 1, th + 1, fo, sg, 0, hc, ad_it fD n d 0 fL, upd fN n sz, fD, fH, fV, f, fW)) := hD1.weaken (fun k q h _ => hFc q.1 (hD1.2 k q h))
        generalize H1 = H at hP hS ⊢
        exact W.iret (v := r1) hx hb hrt (fun t ht hW => ⟨⟨_, _, rfl, ⟨hr1, by rw [hq]; rfl⟩, by rw [ht]; exact hP, va_K.moved hW.alike hK, hD⟩, hS.F ht⟩) hS.2.2 dX1_give_76
      · skip
        exact absurd (by decide) c1
    | succ a ih =>
      intro i f H locs hk hq hP hD hS ls hl
      have ci : (nI i).toNatClampNeg = i := nI_clamp (by omega)
      have hin : vp_in (nI i) 1024 := vp_in_nI (by omega) (by decide)
      refine lv_iload_n hx hb dX1_give_30 rfl (lv_at hl 0 rfl) ?_
      refine lv_sipush (v := 1024) hx hb dX1_give_31 (by decide) ?_
      refine lv_icmp_ge (tgt := 72) hx hb dX1_give_34 (by decide) (fun c1 => ?_) (fun c1 => ?_)
      · skip
        exact absurd (show nI 1024 ≤ nI i from c1) (nI_ge (by omega) (by omega))
      · skip
        refine lv_aload_n hx hb dX1_give_37 rfl (lv_at hl 1 rfl) ?_
        refine va_get (D := (dC, dI)) (ci := 1) (v := .ref (am 6)) (C := RX1) (T := TX1) (N := 14) hx hb hw inX1 hown hK hP 0 rfl rfl 12 (by decide) (hw _ wb_280) (fun _ h9 => h9) rfl dX1_give_38 ?_
        refine lv_iload_n hx hb dX1_give_41 rfl (lv_at hl 0 rfl) ?_
        refine lv_dup2_11 hx hb dX1_give_42 rfl rfl ?_
        refine va_lald hx hb hK hP 6 5 rfl rfl hin dX1_give_43 ?_
        refine lv_aload_n hx hb dX1_give_44 rfl (lv_at hl 1 rfl) ?_
        refine va_get (D := (dC, dI)) (ci := 1) (v := .ref (am 6)) (C := RX1) (T := TX1) (N := 14) hx hb hw inX1 hown hK hP 0 rfl rfl 12 (by decide) (hw _ wb_280) (fun _ h9 => h9) rfl dX1_give_45 ?_
        refine lv_iload_n hx hb dX1_give_48 rfl (lv_at hl 0 rfl) ?_
        refine va_lald hx hb hK hP 6 5 rfl rfl hin dX1_give_49 ?_
        refine lv_lconst (v := 0) hx hb dX1_give_50 (by decide) ?_
        refine W.lcmp hx hb dX1_give_51 ?_
        rw [ci]
        refine lv_if_ne (tgt := 59) hx hb dX1_give_52 (by decide) (fun c2 => ?_) (fun c2 => ?_)
        · skip
          have c2 : ¬ f i = 0 := fun h => c2 ((lg_cmp_eq _ _).mpr h)
          refine lv_aload_n hx hb dX1_give_59 rfl (lv_at hl 1 rfl) ?_
          refine lv_iload_n hx hb dX1_give_60 rfl (lv_at hl 0 rfl) ?_
          refine vp_callSl (W.runV (As := [.int (nI i)]) (rest := [.long (f i), .int (nI i), .ref (am 6)]) ⟨hx, hb, hml, hown, hw⟩ (n_trueIn l dC dI am ym 0 ct th fo sg sz hc fL fN fD fH fV f fW (nI i) d hd esz hR) (cwV 1 hw (gw_V wb_331 wb_333 wbs_7 wb_2 wb_334) rfl rfl rfl (by decide +kernel) ⟨Nat.le_of_ble_eq_true rfl, Nat.le_of_ble_eq_true rfl⟩) ⟨blind_rdM, va_recv hK hP (ci := 1) (q0 := 0) rfl rfl, fun U hU hW => ⟨rfl, by rw [hU]; exact hP, va_K.moved hW.alike hK⟩⟩ rfl rfl hl.1 rfl (lv_room (Nat.le_of_ble_eq_true rfl)) dX1_give_61 ⟨Nat.le_of_ble_eq_true rfl, Nat.le_of_ble_eq_true rfl⟩) (fun r1 h1 => ?_)
          subst h1
          have es : gm_it (fun j => ti_it fD fW (nI j) d 0 0) (a + 1) i f = gm_it (fun j => ti_it fD fW (nI j) d 0 0) a (i + 1) (vp_updL f i (f i &&& (ti_it fD fW (nI i) d 0 0))) := by rw [gm_it, if_neg c2]
          refine lv_land hx hb dX1_give_64 ?_
          refine va_last hx hb hK hP hD hS 6 5 rfl rfl hin dX1_give_65 (fun H locs hP hD hS => ?_)
          have hP : va_P (dC, dI) cls2 (MW am ym (0, ct, th, fo, sg, sz, hc, fL, fN, fD, fH, fV, vp_updL f (nI i).toNatClampNeg ((f i) &&& (ti_it fD fW (nI i) d 0 0)), fW)) H := hP
          have hD : va_D A (MW am ym (0, ct, th, fo, sg, sz, hc, fL, fN, fD, fH, fV, vp_updL f (nI i).toNatClampNeg ((f i) &&& (ti_it fD fW (nI i) d 0 0)), fW)) := hD
          rw [ci] at hP hD
          refine lv_iinc (v := (nI i) + 1) (lv' := [(1, .int ((nI i) + 1)), (0, .ref (am 0))]) hx hb dX1_give_66 hl (k := 0) rfl rfl (by decide) rfl (fun ls hl => ?_)
          refine lv_goto (tgt := 30) hx hb dX1_give_69 (by decide) ?_
          rw [nI_1] at hl
          exact ih (i + 1) _ H _ (by omega) (hq.trans es) hP hD hS ls hl
        · skip
          have c2 : f i = 0 := (lg_cmp_eq _ _).mp c2
          have es : gm_it (fun j => ti_it fD fW (nI j) d 0 0) (a + 1) i f = gm_it (fun j => ti_it fD fW (nI j) d 0 0) a (i + 1) (vp_updL f i (f i &&& 0)) := by rw [gm_it, if_pos c2]
          refine lv_lconst (v := 0) hx hb dX1_give_55 (by decide) ?_
          refine lv_goto (tgt := 64) hx hb dX1_give_56 (by decide) ?_
          refine lv_land hx hb dX1_give_64 ?_
          refine va_last hx hb hK hP hD hS 6 5 rfl rfl hin dX1_give_65 (fun H locs hP hD hS => ?_)
          have hP : va_P (dC, dI) cls2 (MW am ym (0, ct, th, fo, sg, sz, hc, fL, fN, fD, fH, fV, vp_updL f (nI i).toNatClampNeg ((f i) &&& 0), fW)) H := hP
          have hD : va_D A (MW am ym (0, ct, th, fo, sg, sz, hc, fL, fN, fD, fH, fV, vp_updL f (nI i).toNatClampNeg ((f i) &&& 0), fW)) := hD
          rw [ci] at hP hD
          refine lv_iinc (v := (nI i) + 1) (lv' := [(1, .int ((nI i) + 1)), (0, .ref (am 0))]) hx hb dX1_give_66 hl (k := 0) rfl rfl (by decide) rfl (fun ls hl => ?_)
          refine lv_goto (tgt := 30) hx hb dX1_give_69 (by decide) ?_
          rw [nI_1] at hl
          exact ih (i + 1) _ H _ (by omega) (hq.trans es) hP hD hS ls hl
  refine lv_aload_n hx hb dX1_give_0 rfl (lv_at hl 0 rfl) ?_
  refine lv_aload_n hx hb dX1_give_1 rfl (lv_at hl 0 rfl) ?_
  refine va_get (D := (dC, dI)) (ci := 1) (v := .int ct) (C := RX1) (T := TX1) (N := 14) hx hb hw inX1 hown hK hP 0 rfl rfl 1 (by decide) (hw _ wb_269) (fun _ h9 => h9) rfl dX1_give_2 ?_
  refine lv_sipush (v := 600) hx hb dX1_give_5 (by decide) ?_
  refine lv_icmp_ne (tgt := 15) hx hb dX1_give_8 (by decide) (fun c1 => ?_) (fun c1 => ?_)
  · skip
    refine lv_iconst (v := 0) hx hb dX1_give_15 (by decide) ?_
    refine va_put (D := (dC, dI)) (ci := 1) (v := .int 0) (ty := .int) (C := RX1) (T := TX1) (N := 14) hx hb hw inX1 tyX1 tyX1_ok nmX1 hown hK hP hD hS 0 rfl rfl 0 (by decide) (hw _ wb_268) (fun _ h9 => h9) rfl (by decide +kernel) rfl rfl (Nat.le_of_ble_eq_true rfl) dX1_give_16 (fun H locs hP hD hS => ?_)
    have hP : va_P (dC, dI) cls2 (MW am ym (0, ct, th, fo, sg, sz, hc, fL, fN, fD, fH, fV, fM, fW)) H := hP
    have hD : va_D A (MW am ym (0, ct, th, fo, sg, sz, hc, fL, fN, fD, fH, fV, fM, fW)) := hD
    refine lv_aload_n hx hb dX1_give_19 rfl (lv_at hl 0 rfl) ?_
    refine va_get (D := (dC, dI)) (ci := 1) (v := .int 0) (C := RX1) (T := TX1) (N := 14) hx hb hw inX1 hown hK hP 0 rfl rfl 0 (by decide) (hw _ wb_268) (fun _ h9 => h9) rfl dX1_give_20 ?_
    refine lv_if_le (tgt := 28) hx hb dX1_give_23 (by decide) (fun c9 => ?_) (fun c9 => ?_)
    · skip
      refine lv_iconst (v := 0) hx hb dX1_give_28 (by decide) ?_
      refine lv_istore_n (lv' := [(1, .int 0), (0, .ref (am 0))]) hx hb dX1_give_29 rfl hl (by decide) rfl (fun ls hl => ?_)
      exact loop 1024 0 fM H _ rfl rfl hP hD hS ls hl
    · skip
      exact absurd (by decide) c9
  · skip
    exact absurd ((nI_eq (a := n) (b := 600) (by omega) (by decide)).mp (by rw [← ect]; exact c1)) (by omega)
set_option maxHeartbeats 4000000 in
set_option maxRecDepth 100000 in
/-- accept -/
theorem n_accept (l : Launch) (dC : Nat → ClassId) (dI : Nat → Nat → Nat) (am : Nat → Nat) (ym : Nat → ClassId) (sz0 : Nat) (co ct th fo sg sz hc : Int32) (fL fN fD fH fV : Nat → Int32) (fM fW : Nat → Int64)  (n : Nat) (hn : n < 600) (ect : ct = nI n) (d : Nat) (hd : d ≤ 16) (esz : sz = nI d) (hR : ∀ j, j < d → rng (fD j)) : Met l yX1_accept wsX1_accept (rmN 2 0 0) (va_Pc [.ref (am 0)] (preM dC dI am ym sz0 (co, ct, th, fo, sg, sz, hc, fL, fN, fD, fH, fV, fM, fW))) (va_Qi (fun (r : Int32) (u : MS) => r = ct + 1 - 1 ∧ u = ad_S n d (co, ct, th, fo + 1, sg + (if ac_it (fun j => ti_it fD fW (nI j) d 0 0) fM 1024 0 1 = 0 then 1 else 0), sz, hc, fL, fN, fD, fH, fV, fM, fW)) (atM dC dI (va_A (MW am ym (co, ct, th, fo, sg, sz, hc, fL, fN, fD, fH, fV, fM, fW)) sz0) am ym) (va_A (MW am ym (co, ct, th, fo, sg, sz, hc, fL, fN, fD, fH, fV, fM, fW)) sz0)) 0 0 (va_A (MW am ym (co, ct, th, fo, sg, sz, hc, fL, fN, fD, fH, fV, fM, fW)) sz0) := by
  refine Met.ofW (cc := cX1_accept) (maxL := 3) (ret := (some .int)) (by decide) rfl ?_
  intro p e s m args below meth c s₁ B hml hv
  obtain ⟨rfl, hsz, hP, hK, hD0⟩ := hv
  have hx := B.exec
  have hb := B.bytes
  have hrt := B.returns
  have hlocks := B.notSynchronized
  have hts := atoms_spec (ws := wsX1_accept) B.pre
  have hw : ∀ w ∈ WB, w.before ([.ref (am 0)] : List Value).toArray s = true := fun w h => hts w (List.mem_cons_of_mem _ h)
  have hown : s.vm.findClass "ProofBenchModel" = some m.cls := findClass_of_methodNamed B.named
  subst hsz
  have hD := hD0.self (sz := s.heap.size)
  generalize hAe : va_A (MW am ym (co, ct, th, fo, sg, sz, hc, fL, fN, fD, fH, fV, fM, fW)) s.heap.size = A at hD ⊢
  have hA : ∀ q : Nat, s.heap.size ≤ q → A q := fun q h => by rw [← hAe]; exact Or.inr h
  have hS : va_S A s.heap s.heap [] := va_S.rf
  have hP : va_P (dC, dI) cls2 (MW am ym (co, ct, th, fo, sg, sz, hc, fL, fN, fD, fH, fV, fM, fW)) s.heap := hP
  have hl := lv_entry ([.ref (am 0)]) (n := 3) (Nat.le_of_ble_eq_true rfl)
  rw [lg_entry_eq]
  generalize (lg_sl ([.ref (am 0)]) ++ List.replicate (3 - (lg_sl ([.ref (am 0)])).length) Slot.unset).toArray = ls at hl ⊢
  have hl : lv_has ls 3 [(0, .ref (am 0))] := hl
  have fin : ∀ g : Int32, ac_it (fun j => ti_it fD fW (nI j) d 0 0) fM 1024 0 1 = g → ∀ ls, lv_has ls 3 [(1, .int g), (0, .ref (am 0))] → W p l e (headSpec wsX1_accept (rmN 2 0 0)).room s m ([.ref (am 0)] : List Value).toArray below meth c s.heap [] 0 0 (MQ below (va_Qi (fun (r : Int32) (u : MS) => r = ct + 1 - 1 ∧ u = ad_S n d (co, ct, th, fo + 1, sg + (if ac_it (fun j => ti_it fD fW (nI j) d 0 0) fM 1024 0 1 = 0 then 1 else 0), sz, hc, fL, fN, fD, fH, fV, fM, fW)) (atM dC dI A am ym) A) ([.ref (am 0)] : List Value).toArray s 0 0 A) (F0 m 59 ls []) := by
    intro g hq ls hl
    rw [hq]
    refine lv_aload_n hx hb dX1_accept_59 rfl (lv_at hl 1 rfl) ?_
    refine lv_dup hx hb dX1_accept_60 rfl ?_
    refine va_get (D := (dC, dI)) (ci := 1) (v := .int sg) (C := RX1) (T := TX1) (N := 14) hx hb hw inX1 hown hK hP 0 rfl rfl 4 (by decide) (hw _ wb_272) (fun _ h9 => h9) rfl dX1_accept_61 ?_
    refine lv_iload_n hx hb dX1_accept_64 rfl (lv_at hl 0 rfl) ?_
    refine lv_if_eq (tgt := 72) hx hb dX1_accept_65 (by decide) (fun c1 => ?_) (fun c1 => ?_)
    · skip
      rw [if_pos c1]
      refine lv_iconst (v := 1) hx hb dX1_accept_72 (by decide) ?_
      refine lv_iadd hx hb dX1_accept_73 ?_
      refine va_put (D := (dC, dI)) (ci := 1) (v := .int (sg + 1)) (ty := .int) (C := RX1) (T := TX1) (N := 14) hx hb hw inX1 tyX1 tyX1_ok nmX1 hown hK hP hD hS 0 rfl rfl 4 (by decide) (hw _ wb_272) (fun _ h9 => h9) rfl (by decide +kernel) rfl rfl (Nat.le_of_ble_eq_true rfl) dX1_accept_74 (fun H locs hP hD hS => ?_)
      have hP : va_P (dC, dI) cls2 (MW am ym (co, ct, th, fo, sg + 1, sz, hc, fL, fN, fD, fH, fV, fM, fW)) H := hP
      have hD : va_D A (MW am ym (co, ct, th, fo, sg + 1, sz, hc, fL, fN, fD, fH, fV, fM, fW)) := hD
      refine lv_aload_n hx hb dX1_accept_77 rfl (lv_at hl 1 rfl) ?_
      refine lv_dup hx hb dX1_accept_78 rfl ?_
      refine va_get (D := (dC, dI)) (ci := 1) (v := .int fo) (C := RX1) (T := TX1) (N := 14) hx hb hw inX1 hown hK hP 0 rfl rfl 3 (by decide) (hw _ wb_271) (fun _ h9 => h9) rfl dX1_accept_79 ?_
      refine lv_iconst (v := 1) hx hb dX1_accept_82 (by decide) ?_
      refine lv_iadd hx hb dX1_accept_83 ?_
      refine va_put (D := (dC, dI)) (ci := 1) (v := .int (fo + 1)) (ty := .int) (C := RX1) (T := TX1) (N := 14) hx hb hw inX1 tyX1 tyX1_ok nmX1 hown hK hP hD hS 0 rfl rfl 3 (by decide) (hw _ wb_271) (fun _ h9 => h9) rfl (by decide +kernel) rfl rfl (Nat.le_of_ble_eq_true rfl) dX1_accept_84 (fun H locs hP hD hS => ?_)
      have hP : va_P (dC, dI) cls2 (MW am ym (co, ct, th, fo + 1, sg + 1, sz, hc, fL, fN, fD, fH, fV, fM, fW)) H := hP
      have hD : va_D A (MW am ym (co, ct, th, fo + 1, sg + 1, sz, hc, fL, fN, fD, fH, fV, fM, fW)) := hD
      refine lv_aload_n hx hb dX1_accept_87 rfl (lv_at hl 1 rfl) ?_
      have hFc := va_free (wc := MW am ym (co, ct, th, fo + 1, sg + 1, sz, hc, fL, fN, fD, fH, fV, fM, fW)) hD hS hA [0, 1, 2, 3, 4, 5, 6, 7] rfl
      refine va_calli (va_runV (As := []) (rest := []) ⟨hx, hb, hml, hown, hw⟩ (n_add l dC dI am ym H.size co ct th (fo + 1) (sg + 1) sz hc fL fN fD fH fV fM fW n hn ect d hd esz) (cwV 0 hw (gw_V wb_339 wb_341 wbs_9 wb_2 wb_342) rfl rfl rfl (by decide +kernel) ⟨Nat.le_of_ble_eq_true rfl, Nat.le_of_ble_eq_true rfl⟩) ⟨blind_preM, va_recv hK hP (ci := 1) (q0 := 0) rfl rfl, fun U hU hW => ⟨rfl, by rw [hU], by rw [hU]; exact hP, va_K.moved hW.alike hK, hD.weaken (fun _ _ _ _ => trivial)⟩⟩ rfl rfl hl.1 rfl (lv_room (Nat.le_of_ble_eq_true rfl)) dX1_accept_88 ⟨Nat.le_of_ble_eq_true rfl, Nat.le_of_ble_eq_true rfl⟩) hS (fun q _ h => hFc q h) hFc (fun r1 u t H1 locs ht hvm hq hB hz1 hk1 hS => ?_)
      obtain ⟨hr1, rfl⟩ := hq
      obtain ⟨hP1, hK1, hD1⟩ := hB
      rw [ht] at hP1
      have hP : va_P (dC, dI) cls2 (MW am ym (co, ct + 1, th + 1, fo + 1, sg + 1, 0, hc, ad_it fD n d 0 fL, upd fN n sz, fD, fH, fV, fM, fW)) H1 := hP1
      have hD : va_D A (MW am ym (co, ct + 1, th + 1, fo + 1, sg + 1, 0, hc, ad_it fD n d 0 fL, upd fN n sz, fD, fH, fV, fM, fW)) := hD1.weaken (fun k q h _ => hFc q.1 (hD1.2 k q h))
      generalize H1 = H at hP hS ⊢
      exact W.iret (v := r1) hx hb hrt (fun t ht hW => ⟨⟨_, _, rfl, ⟨hr1, rfl⟩, by rw [ht]; exact hP, va_K.moved hW.alike hK, hD⟩, hS.F ht⟩) hS.2.2 dX1_accept_91
    · skip
      rw [if_neg c1]
      refine lv_iconst (v := 0) hx hb dX1_accept_68 (by decide) ?_
      refine lv_goto (tgt := 73) hx hb dX1_accept_69 (by decide) ?_
      refine lv_iadd hx hb dX1_accept_73 ?_
      refine va_put (D := (dC, dI)) (ci := 1) (v := .int (sg + 0)) (ty := .int) (C := RX1) (T := TX1) (N := 14) hx hb hw inX1 tyX1 tyX1_ok nmX1 hown hK hP hD hS 0 rfl rfl 4 (by decide) (hw _ wb_272) (fun _ h9 => h9) rfl (by decide +kernel) rfl rfl (Nat.le_of_ble_eq_true rfl) dX1_accept_74 (fun H locs hP hD hS => ?_)
      have hP : va_P (dC, dI) cls2 (MW am ym (co, ct, th, fo, sg + 0, sz, hc, fL, fN, fD, fH, fV, fM, fW)) H := hP
      have hD : va_D A (MW am ym (co, ct, th, fo, sg + 0, sz, hc, fL, fN, fD, fH, fV, fM, fW)) := hD
      refine lv_aload_n hx hb dX1_accept_77 rfl (lv_at hl 1 rfl) ?_
      refine lv_dup hx hb dX1_accept_78 rfl ?_
      refine va_get (D := (dC, dI)) (ci := 1) (v := .int fo) (C := RX1) (T := TX1) (N := 14) hx hb hw inX1 hown hK hP 0 rfl rfl 3 (by decide) (hw _ wb_271) (fun _ h9 => h9) rfl dX1_accept_79 ?_
      refine lv_iconst (v := 1) hx hb dX1_accept_82 (by decide) ?_
      refine lv_iadd hx hb dX1_accept_83 ?_
      refine va_put (D := (dC, dI)) (ci := 1) (v := .int (fo + 1)) (ty := .int) (C := RX1) (T := TX1) (N := 14) hx hb hw inX1 tyX1 tyX1_ok nmX1 hown hK hP hD hS 0 rfl rfl 3 (by decide) (hw _ wb_271) (fun _ h9 => h9) rfl (by decide +kernel) rfl rfl (Nat.le_of_ble_eq_true rfl) dX1_accept_84 (fun H locs hP hD hS => ?_)
      have hP : va_P (dC, dI) cls2 (MW am ym (co, ct, th, fo + 1, sg + 0, sz, hc, fL, fN, fD, fH, fV, fM, fW)) H := hP
      have hD : va_D A (MW am ym (co, ct, th, fo + 1, sg + 0, sz, hc, fL, fN, fD, fH, fV, fM, fW)) := hD
      refine lv_aload_n hx hb dX1_accept_87 rfl (lv_at hl 1 rfl) ?_
      have hFc := va_free (wc := MW am ym (co, ct, th, fo + 1, sg + 0, sz, hc, fL, fN, fD, fH, fV, fM, fW)) hD hS hA [0, 1, 2, 3, 4, 5, 6, 7] rfl
      refine va_calli (va_runV (As := []) (rest := []) ⟨hx, hb, hml, hown, hw⟩ (n_add l dC dI am ym H.size co ct th (fo + 1) (sg + 0) sz hc fL fN fD fH fV fM fW n hn ect d hd esz) (cwV 0 hw (gw_V wb_339 wb_341 wbs_9 wb_2 wb_342) rfl rfl rfl (by decide +kernel) ⟨Nat.le_of_ble_eq_true rfl, Nat.le_of_ble_eq_true rfl⟩) ⟨blind_preM, va_recv hK hP (ci := 1) (q0 := 0) rfl rfl, fun U hU hW => ⟨rfl, by rw [hU], by rw [hU]; exact hP, va_K.moved hW.alike hK, hD.weaken (fun _ _ _ _ => trivial)⟩⟩ rfl rfl hl.1 rfl (lv_room (Nat.le_of_ble_eq_true rfl)) dX1_accept_88 ⟨Nat.le_of_ble_eq_true rfl, Nat.le_of_ble_eq_true rfl⟩) hS (fun q _ h => hFc q h) hFc (fun r1 u t H1 locs ht hvm hq hB hz1 hk1 hS => ?_)
      obtain ⟨hr1, rfl⟩ := hq
      obtain ⟨hP1, hK1, hD1⟩ := hB
      rw [ht] at hP1
      have hP : va_P (dC, dI) cls2 (MW am ym (co, ct + 1, th + 1, fo + 1, sg + 0, 0, hc, ad_it fD n d 0 fL, upd fN n sz, fD, fH, fV, fM, fW)) H1 := hP1
      have hD : va_D A (MW am ym (co, ct + 1, th + 1, fo + 1, sg + 0, 0, hc, ad_it fD n d 0 fL, upd fN n sz, fD, fH, fV, fM, fW)) := hD1.weaken (fun k q h _ => hFc q.1 (hD1.2 k q h))
      generalize H1 = H at hP hS ⊢
      exact W.iret (v := r1) hx hb hrt (fun t ht hW => ⟨⟨_, _, rfl, ⟨hr1, rfl⟩, by rw [ht]; exact hP, va_K.moved hW.alike hK, hD⟩, hS.F ht⟩) hS.2.2 dX1_accept_91
  have loop : ∀ (a i : Nat) (g : Int32), i + a = 1024 → ac_it (fun j => ti_it fD fW (nI j) d 0 0) fM 1024 0 1 = ac_it (fun j => ti_it fD fW (nI j) d 0 0) fM a i g → ∀ ls, lv_has ls 3 [(2, .int (nI i)), (1, .int g), (0, .ref (am 0))] → W p l e (headSpec wsX1_accept (rmN 2 0 0)).room s m ([.ref (am 0)] : List Value).toArray below meth c s.heap [] 0 0 (MQ below (va_Qi (fun (r : Int32) (u : MS) => r = ct + 1 - 1 ∧ u = ad_S n d (co, ct, th, fo + 1, sg + (if ac_it (fun j => ti_it fD fW (nI j) d 0 0) fM 1024 0 1 = 0 then 1 else 0), sz, hc, fL, fN, fD, fH, fV, fM, fW)) (atM dC dI A am ym) A) ([.ref (am 0)] : List Value).toArray s 0 0 A) (F0 m 4 ls []) := by
    intro a
    induction a with
    | zero =>
      intro i g hk hq ls hl
      have e0 : i = 1024 := by omega
      subst e0
      refine lv_iload_n hx hb dX1_accept_4 rfl (lv_at hl 0 rfl) ?_
      refine lv_sipush (v := 1024) hx hb dX1_accept_5 (by decide) ?_
      refine lv_icmp_ge (tgt := 59) hx hb dX1_accept_8 (by decide) (fun c1 => ?_) (fun c1 => ?_)
      · skip
        exact fin g hq ls (lv_sub hl [1, 2] rfl)
      · skip
        exact absurd (by decide) c1
    | succ a ih =>
      intro i g hk hq ls hl
      have ci : (nI i).toNatClampNeg = i := nI_clamp (by omega)
      have hin : vp_in (nI i) 1024 := vp_in_nI (by omega) (by decide)
      refine lv_iload_n hx hb dX1_accept_4 rfl (lv_at hl 0 rfl) ?_
      refine lv_sipush (v := 1024) hx hb dX1_accept_5 (by decide) ?_
      refine lv_icmp_ge (tgt := 59) hx hb dX1_accept_8 (by decide) (fun c1 => ?_) (fun c1 => ?_)
      · skip
        exact absurd (show nI 1024 ≤ nI i from c1) (nI_ge (by omega) (by omega))
      · skip
        refine lv_iload_n hx hb dX1_accept_11 rfl (lv_at hl 1 rfl) ?_
        refine lv_if_eq (tgt := 59) hx hb dX1_accept_12 (by decide) (fun c2 => ?_) (fun c2 => ?_)
        · skip
          exact fin g (by rw [hq, c2]; rfl) ls (lv_sub hl [1, 2] rfl)
        · skip
          refine lv_aload_n hx hb dX1_accept_15 rfl (lv_at hl 2 rfl) ?_
          refine va_get (D := (dC, dI)) (ci := 1) (v := .ref (am 6)) (C := RX1) (T := TX1) (N := 14) hx hb hw inX1 hown hK hP 0 rfl rfl 12 (by decide) (hw _ wb_280) (fun _ h9 => h9) rfl dX1_accept_16 ?_
          refine lv_iload_n hx hb dX1_accept_19 rfl (lv_at hl 0 rfl) ?_
          refine va_lald hx hb hK hP 6 5 rfl rfl hin dX1_accept_20 ?_
          refine lv_lconst (v := 0) hx hb dX1_accept_21 (by decide) ?_
          refine W.lcmp hx hb dX1_accept_22 ?_
          rw [ci]
          refine lv_if_eq (tgt := 47) hx hb dX1_accept_23 (by decide) (fun c3 => ?_) (fun c3 => ?_)
          · skip
            have c3 : fM i = 0 := (lg_cmp_eq _ _).mp c3
            have es : ac_it (fun j => ti_it fD fW (nI j) d 0 0) fM (a + 1) i g = ac_it (fun j => ti_it fD fW (nI j) d 0 0) fM a (i + 1) 1 := (if_neg c2).trans (by rw [if_pos (Or.inl c3)])
            refine lv_iconst (v := 1) hx hb dX1_accept_47 (by decide) ?_
            refine lv_goto (tgt := 52) hx hb dX1_accept_48 (by decide) ?_
            refine lv_istore_n (lv' := [(1, .int 1), (2, .int (nI i)), (0, .ref (am 0))]) hx hb dX1_accept_52 rfl hl (by decide) rfl (fun ls hl => ?_)
            refine lv_iinc (v := (nI i) + 1) (lv' := [(2, .int ((nI i) + 1)), (1, .int 1), (0, .ref (am 0))]) hx hb dX1_accept_53 hl (k := 1) rfl rfl (by decide) rfl (fun ls hl => ?_)
            refine lv_goto (tgt := 4) hx hb dX1_accept_56 (by decide) ?_
            rw [nI_1] at hl
            exact ih (i + 1) 1 (by omega) (hq.trans es) ls (lv_sub hl [0, 1, 2] rfl)
          · skip
            have c3 : ¬ fM i = 0 := fun h => c3 ((lg_cmp_eq _ _).mpr h)
            refine lv_aload_n hx hb dX1_accept_26 rfl (lv_at hl 2 rfl) ?_
            refine va_get (D := (dC, dI)) (ci := 1) (v := .ref (am 6)) (C := RX1) (T := TX1) (N := 14) hx hb hw inX1 hown hK hP 0 rfl rfl 12 (by decide) (hw _ wb_280) (fun _ h9 => h9) rfl dX1_accept_27 ?_
            refine lv_iload_n hx hb dX1_accept_30 rfl (lv_at hl 0 rfl) ?_
            refine va_lald hx hb hK hP 6 5 rfl rfl hin dX1_accept_31 ?_
            rw [ci]
            refine lv_aload_n hx hb dX1_accept_32 rfl (lv_at hl 2 rfl) ?_
            refine lv_iload_n hx hb dX1_accept_33 rfl (lv_at hl 0 rfl) ?_
            refine vp_callSl (W.runV (As := [.int (nI i)]) (rest := [.long (fM i)]) ⟨hx, hb, hml, hown, hw⟩ (n_trueIn l dC dI am ym co ct th fo sg sz hc fL fN fD fH fV fM fW (nI i) d hd esz hR) (cwV 1 hw (gw_V wb_331 wb_333 wbs_7 wb_2 wb_334) rfl rfl rfl (by decide +kernel) ⟨Nat.le_of_ble_eq_true rfl, Nat.le_of_ble_eq_true rfl⟩) ⟨blind_rdM, va_recv hK hP (ci := 1) (q0 := 0) rfl rfl, fun U hU hW => ⟨rfl, by rw [hU]; exact hP, va_K.moved hW.alike hK⟩⟩ rfl rfl hl.1 rfl (lv_room (Nat.le_of_ble_eq_true rfl)) dX1_accept_34 ⟨Nat.le_of_ble_eq_true rfl, Nat.le_of_ble_eq_true rfl⟩) (fun r1 h1 => ?_)
            subst h1
            refine lv_ldc2 (v := (-1)) hx hb hown (hw _ wb_267) dX1_accept_37 ?_
            refine lv_lxor hx hb dX1_accept_40 ?_
            refine lv_land hx hb dX1_accept_41 ?_
            refine lv_lconst (v := 0) hx hb dX1_accept_42 (by decide) ?_
            refine W.lcmp hx hb dX1_accept_43 ?_
            refine lv_if_ne (tgt := 51) hx hb dX1_accept_44 (by decide) (fun c4 => ?_) (fun c4 => ?_)
            · skip
              have c4 : ¬ fM i &&& (ti_it fD fW (nI i) d 0 0 ^^^ (-1)) = 0 := fun h => c4 ((lg_cmp_eq _ _).mpr h)
              have es : ac_it (fun j => ti_it fD fW (nI j) d 0 0) fM (a + 1) i g = ac_it (fun j => ti_it fD fW (nI j) d 0 0) fM a (i + 1) 0 := (if_neg c2).trans (by rw [if_neg (fun h => h.elim c3 c4)])
              refine lv_iconst (v := 0) hx hb dX1_accept_51 (by decide) ?_
              refine lv_istore_n (lv' := [(1, .int 0), (2, .int (nI i)), (0, .ref (am 0))]) hx hb dX1_accept_52 rfl hl (by decide) rfl (fun ls hl => ?_)
              refine lv_iinc (v := (nI i) + 1) (lv' := [(2, .int ((nI i) + 1)), (1, .int 0), (0, .ref (am 0))]) hx hb dX1_accept_53 hl (k := 1) rfl rfl (by decide) rfl (fun ls hl => ?_)
              refine lv_goto (tgt := 4) hx hb dX1_accept_56 (by decide) ?_
              rw [nI_1] at hl
              exact ih (i + 1) 0 (by omega) (hq.trans es) ls (lv_sub hl [0, 1, 2] rfl)
            · skip
              have c4 : fM i &&& (ti_it fD fW (nI i) d 0 0 ^^^ (-1)) = 0 := (lg_cmp_eq _ _).mp c4
              have es : ac_it (fun j => ti_it fD fW (nI j) d 0 0) fM (a + 1) i g = ac_it (fun j => ti_it fD fW (nI j) d 0 0) fM a (i + 1) 1 := (if_neg c2).trans (by rw [if_pos (Or.inr c4)])
              refine lv_iconst (v := 1) hx hb dX1_accept_47 (by decide) ?_
              refine lv_goto (tgt := 52) hx hb dX1_accept_48 (by decide) ?_
              refine lv_istore_n (lv' := [(1, .int 1), (2, .int (nI i)), (0, .ref (am 0))]) hx hb dX1_accept_52 rfl hl (by decide) rfl (fun ls hl => ?_)
              refine lv_iinc (v := (nI i) + 1) (lv' := [(2, .int ((nI i) + 1)), (1, .int 1), (0, .ref (am 0))]) hx hb dX1_accept_53 hl (k := 1) rfl rfl (by decide) rfl (fun ls hl => ?_)
              refine lv_goto (tgt := 4) hx hb dX1_accept_56 (by decide) ?_
              rw [nI_1] at hl
              exact ih (i + 1) 1 (by omega) (hq.trans es) ls (lv_sub hl [0, 1, 2] rfl)
  refine lv_iconst (v := 1) hx hb dX1_accept_0 (by decide) ?_
  refine lv_istore_n (lv' := [(1, .int 1), (0, .ref (am 0))]) hx hb dX1_accept_1 rfl hl (by decide) rfl (fun ls hl => ?_)
  refine lv_iconst (v := 0) hx hb dX1_accept_2 (by decide) ?_
  refine lv_istore_n (lv' := [(2, .int 0), (1, .int 1), (0, .ref (am 0))]) hx hb dX1_accept_3 rfl hl (by decide) rfl (fun ls hl => ?_)
  exact loop 1024 0 1 rfl rfl ls hl
set_option maxHeartbeats 4000000 in
set_option maxRecDepth 100000 in
/-- setOut -/
theorem n_setOut (l : Launch) (dC : Nat → ClassId) (dI : Nat → Nat → Nat) (am : Nat → Nat) (ym : Nat → ClassId) (sz0 : Nat) (co ct th fo sg sz hc : Int32) (fL fN fD fH fV : Nat → Int32) (fM fW : Nat → Int64)  (d : Nat) (hd : d ≤ 16) (esz : sz = nI d) (hR : ∀ j, j < d → rng (fD j)) : Met l yX1_setOut wsX1_setOut (rmN 1 0 0) (va_Pc [.ref (am 0)] (preM dC dI am ym sz0 (co, ct, th, fo, sg, sz, hc, fL, fN, fD, fH, fV, fM, fW))) (va_Qv (fun (u : MS) => u = (co, ct, th, fo, sg, sz, hc, fL, fN, fD, fH, so_it fD d 0 (zv_it 17 0 fV), fM, fW)) (atM dC dI (va_A (MW am ym (co, ct, th, fo, sg, sz, hc, fL, fN, fD, fH, fV, fM, fW)) sz0) am ym) (va_A (MW am ym (co, ct, th, fo, sg, sz, hc, fL, fN, fD, fH, fV, fM, fW)) sz0)) 0 0 (va_A (MW am ym (co, ct, th, fo, sg, sz, hc, fL, fN, fD, fH, fV, fM, fW)) sz0) := by
  refine Met.ofW (cc := cX1_setOut) (maxL := 2) (ret := none) (by decide) rfl ?_
  intro p e s m args below meth c s₁ B hml hv
  obtain ⟨rfl, hsz, hP, hK, hD0⟩ := hv
  have hx := B.exec
  have hb := B.bytes
  have hrt := B.returns
  have hlocks := B.notSynchronized
  have hts := atoms_spec (ws := wsX1_setOut) B.pre
  have hw : ∀ w ∈ WB, w.before ([.ref (am 0)] : List Value).toArray s = true := fun w h => hts w (List.mem_cons_of_mem _ h)
  have hown : s.vm.findClass "ProofBenchModel" = some m.cls := findClass_of_methodNamed B.named
  subst hsz
  have hD := hD0.self (sz := s.heap.size)
  generalize hAe : va_A (MW am ym (co, ct, th, fo, sg, sz, hc, fL, fN, fD, fH, fV, fM, fW)) s.heap.size = A at hD ⊢
  have hA : ∀ q : Nat, s.heap.size ≤ q → A q := fun q h => by rw [← hAe]; exact Or.inr h
  have hS : va_S A s.heap s.heap [] := va_S.rf
  have hP : va_P (dC, dI) cls2 (MW am ym (co, ct, th, fo, sg, sz, hc, fL, fN, fD, fH, fV, fM, fW)) s.heap := hP
  have hl := lv_entry ([.ref (am 0)]) (n := 2) (Nat.le_of_ble_eq_true rfl)
  rw [lg_entry_eq]
  generalize (lg_sl ([.ref (am 0)]) ++ List.replicate (2 - (lg_sl ([.ref (am 0)])).length) Slot.unset).toArray = ls at hl ⊢
  have hl : lv_has ls 2 [(0, .ref (am 0))] := hl
  have loop2 : ∀ (a i : Nat) (f : Nat → Int32) (H : Heap) (locs : List Loc), i + a = d → so_it fD d 0 (zv_it 17 0 fV) = so_it fD a i f → va_P (dC, dI) cls2 (MW am ym (co, ct, th, fo, sg, sz, hc, fL, fN, fD, fH, f, fM, fW)) H → va_D A (MW am ym (co, ct, th, fo, sg, sz, hc, fL, fN, fD, fH, f, fM, fW)) → va_S A s.heap H locs → ∀ ls, lv_has ls 2 [(1, .int (nI i)), (0, .ref (am 0))] → W p l e (headSpec wsX1_setOut (rmN 1 0 0)).room s m ([.ref (am 0)] : List Value).toArray below meth c H locs 0 0 (MQ below (va_Qv (fun (u : MS) => u = (co, ct, th, fo, sg, sz, hc, fL, fN, fD, fH, so_it fD d 0 (zv_it 17 0 fV), fM, fW)) (atM dC dI A am ym) A) ([.ref (am 0)] : List Value).toArray s 0 0 A) (F0 m 23 ls []) := by
    intro a
    induction a with
    | zero =>
      intro i f H locs hk hq hP hD hS ls hl
      have e0 : i = d := by omega
      refine lv_iload_n hx hb dX1_setOut_23 rfl (lv_at hl 0 rfl) ?_
      refine lv_aload_n hx hb dX1_setOut_24 rfl (lv_at hl 1 rfl) ?_
      refine va_get (D := (dC, dI)) (ci := 1) (v := .int sz) (C := RX1) (T := TX1) (N := 14) hx hb hw inX1 hown hK hP 0 rfl rfl 7 (by decide) (hw _ wb_275) (fun _ h9 => h9) rfl dX1_setOut_25 ?_
      refine lv_icmp_ge (tgt := 48) hx hb dX1_setOut_28 (by decide) (fun c1 => ?_) (fun c1 => ?_)
      · skip
        exact W.vret hx hb hrt (fun t ht hW => ⟨⟨_, rfl, by rw [hq]; rfl, by rw [ht]; exact hP, va_K.moved hW.alike hK, hD⟩, hS.F ht⟩) hS.2.2 dX1_setOut_48
      · skip
        exact absurd (by rw [esz, e0]; exact Int32.le_refl _) c1
    | succ a ih =>
      intro i f H locs hk hq hP hD hS ls hl
      have ci : (nI i).toNatClampNeg = i := nI_clamp (by omega)
      refine lv_iload_n hx hb dX1_setOut_23 rfl (lv_at hl 0 rfl) ?_
      refine lv_aload_n hx hb dX1_setOut_24 rfl (lv_at hl 1 rfl) ?_
      refine va_get (D := (dC, dI)) (ci := 1) (v := .int sz) (C := RX1) (T := TX1) (N := 14) hx hb hw inX1 hown hK hP 0 rfl rfl 7 (by decide) (hw _ wb_275) (fun _ h9 => h9) rfl dX1_setOut_25 ?_
      refine lv_icmp_ge (tgt := 48) hx hb dX1_setOut_28 (by decide) (fun c1 => ?_) (fun c1 => ?_)
      · skip
        exact absurd (by rw [esz] at c1; exact c1) (nI_ge (by omega) (by omega))
      · skip
        refine lv_aload_n hx hb dX1_setOut_31 rfl (lv_at hl 1 rfl) ?_
        refine lv_aload_n hx hb dX1_setOut_32 rfl (lv_at hl 1 rfl) ?_
        refine va_get (D := (dC, dI)) (ci := 1) (v := .ref (am 3)) (C := RX1) (T := TX1) (N := 14) hx hb hw inX1 hown hK hP 0 rfl rfl 8 (by decide) (hw _ wb_276) (fun _ h9 => h9) rfl dX1_setOut_33 ?_
        refine lv_iload_n hx hb dX1_setOut_36 rfl (lv_at hl 0 rfl) ?_
        refine va_iald hx hb hK hP 3 2 rfl rfl (vp_in_nI (by omega) (by decide)) dX1_setOut_37 ?_
        rw [ci]
        refine lv_ineg hx hb dX1_setOut_38 ?_
        have hFc := va_free (wc := MW am ym (co, ct, th, fo, sg, sz, hc, fL, fN, fD, fH, f, fM, fW)) hD hS hA [0, 1, 2, 3, 4, 5, 6, 7] rfl
        refine va_callv (va_runV (As := [.int (-(fD i))]) (rest := []) ⟨hx, hb, hml, hown, hw⟩ (n_tell l dC dI am ym H.size co ct th fo sg sz hc fL fN fD fH f fM fW (-fD i) (rng_neg (hR i (by omega))).1 (rng_neg (hR i (by omega))).2) (cwV 1 hw (gw_V wb_355 wb_357 wbs_12 wb_2 wb_358) rfl rfl rfl (by decide +kernel) ⟨Nat.le_of_ble_eq_true rfl, Nat.le_of_ble_eq_true rfl⟩) ⟨blind_preM, va_recv hK hP (ci := 1) (q0 := 0) rfl rfl, fun U hU hW => ⟨rfl, by rw [hU], by rw [hU]; exact hP, va_K.moved hW.alike hK, hD.weaken (fun _ _ _ _ => trivial)⟩⟩ rfl rfl hl.1 rfl (lv_room (Nat.le_of_ble_eq_true rfl)) dX1_setOut_39 ⟨Nat.le_of_ble_eq_true rfl, Nat.le_of_ble_eq_true rfl⟩) hS (fun q _ h => hFc q h) hFc (fun u t H1 locs ht hvm hq hB hz1 hk1 hS => ?_)
        obtain rfl := hq
        obtain ⟨hP1, hK1, hD1⟩ := hB
        rw [ht] at hP1
        have hP : va_P (dC, dI) cls2 (MW am ym (co, ct, th, fo, sg, sz, hc, fL, fN, fD, fH, tell_v f (-fD i), fM, fW)) H1 := hP1
        have hD : va_D A (MW am ym (co, ct, th, fo, sg, sz, hc, fL, fN, fD, fH, tell_v f (-fD i), fM, fW)) := hD1.weaken (fun k q h _ => hFc q.1 (hD1.2 k q h))
        generalize H1 = H at hP hS ⊢
        refine lv_iinc (v := (nI i) + 1) (lv' := [(1, .int ((nI i) + 1)), (0, .ref (am 0))]) hx hb dX1_setOut_42 hl (k := 0) rfl rfl (by decide) rfl (fun ls hl => ?_)
        refine lv_goto (tgt := 23) hx hb dX1_setOut_45 (by decide) ?_
        rw [nI_1] at hl
        exact ih (i + 1) _ H _ (by omega) hq hP hD hS ls hl
  have loop1 : ∀ (a i : Nat) (f : Nat → Int32) (H : Heap) (locs : List Loc), i + a = 17 → zv_it 17 0 fV = zv_it a i f → va_P (dC, dI) cls2 (MW am ym (co, ct, th, fo, sg, sz, hc, fL, fN, fD, fH, f, fM, fW)) H → va_D A (MW am ym (co, ct, th, fo, sg, sz, hc, fL, fN, fD, fH, f, fM, fW)) → va_S A s.heap H locs → ∀ ls, lv_has ls 2 [(1, .int (nI i)), (0, .ref (am 0))] → W p l e (headSpec wsX1_setOut (rmN 1 0 0)).room s m ([.ref (am 0)] : List Value).toArray below meth c H locs 0 0 (MQ below (va_Qv (fun (u : MS) => u = (co, ct, th, fo, sg, sz, hc, fL, fN, fD, fH, so_it fD d 0 (zv_it 17 0 fV), fM, fW)) (atM dC dI A am ym) A) ([.ref (am 0)] : List Value).toArray s 0 0 A) (F0 m 2 ls []) := by
    intro a
    induction a with
    | zero =>
      intro i f H locs hk hq hP hD hS ls hl
      have e0 : i = 17 := by omega
      subst e0
      refine lv_iload_n hx hb dX1_setOut_2 rfl (lv_at hl 0 rfl) ?_
      refine lv_bipush (v := 16) hx hb dX1_setOut_3 (by decide) ?_
      refine lv_icmp_gt (tgt := 21) hx hb dX1_setOut_5 (by decide) (fun c1 => ?_) (fun c1 => ?_)
      · skip
        refine lv_iconst (v := 0) hx hb dX1_setOut_21 (by decide) ?_
        refine lv_istore_n (lv' := [(1, .int 0), (0, .ref (am 0))]) hx hb dX1_setOut_22 rfl hl (by decide) rfl (fun ls hl => ?_)
        exact loop2 d 0 f H _ (by omega) (by rw [hq]; rfl) hP hD hS ls hl
      · skip
        exact absurd (by decide) c1
    | succ a ih =>
      intro i f H locs hk hq hP hD hS ls hl
      have ci : (nI i).toNatClampNeg = i := nI_clamp (by omega)
      refine lv_iload_n hx hb dX1_setOut_2 rfl (lv_at hl 0 rfl) ?_
      refine lv_bipush (v := 16) hx hb dX1_setOut_3 (by decide) ?_
      refine lv_icmp_gt (tgt := 21) hx hb dX1_setOut_5 (by decide) (fun c1 => ?_) (fun c1 => ?_)
      · skip
        exact absurd (show nI 16 < nI i from c1) (nI_nlt (by omega) (by omega))
      · skip
        refine lv_aload_n hx hb dX1_setOut_8 rfl (lv_at hl 1 rfl) ?_
        refine va_get (D := (dC, dI)) (ci := 1) (v := .ref (am 5)) (C := RX1) (T := TX1) (N := 14) hx hb hw inX1 hown hK hP 0 rfl rfl 11 (by decide) (hw _ wb_279) (fun _ h9 => h9) rfl dX1_setOut_9 ?_
        refine lv_iload_n hx hb dX1_setOut_12 rfl (lv_at hl 0 rfl) ?_
        refine lv_iconst (v := 0) hx hb dX1_setOut_13 (by decide) ?_
        refine va_iast hx hb hK hP hD hS 5 4 rfl rfl (vp_in_nI (by omega) (by decide)) dX1_setOut_14 (fun H locs hP hD hS => ?_)
        have hP : va_P (dC, dI) cls2 (MW am ym (co, ct, th, fo, sg, sz, hc, fL, fN, fD, fH, upd f (nI i).toNatClampNeg 0, fM, fW)) H := hP
        have hD : va_D A (MW am ym (co, ct, th, fo, sg, sz, hc, fL, fN, fD, fH, upd f (nI i).toNatClampNeg 0, fM, fW)) := hD
        rw [ci] at hP hD
        refine lv_iinc (v := (nI i) + 1) (lv' := [(1, .int ((nI i) + 1)), (0, .ref (am 0))]) hx hb dX1_setOut_15 hl (k := 0) rfl rfl (by decide) rfl (fun ls hl => ?_)
        refine lv_goto (tgt := 2) hx hb dX1_setOut_18 (by decide) ?_
        rw [nI_1] at hl
        exact ih (i + 1) _ H _ (by omega) hq hP hD hS ls hl
  refine lv_iconst (v := 0) hx hb dX1_setOut_0 (by decide) ?_
  refine lv_istore_n (lv' := [(1, .int 0), (0, .ref (am 0))]) hx hb dX1_setOut_1 rfl hl (by decide) rfl (fun ls hl => ?_)
  exact loop1 17 0 fV s.heap [] rfl rfl hP hD hS ls hl
set_option maxHeartbeats 4000000 in
set_option maxRecDepth 100000 in
/-- says -/
theorem n_says (l : Launch) (dC : Nat → ClassId) (dI : Nat → Nat → Nat) (am : Nat → Nat) (ym : Nat → ClassId) (co ct th fo sg sz hc : Int32) (fL fN fD fH fV : Nat → Int32) (fM fW : Nat → Int64) (k : Int32) (q : Nat) (hq6 : q < 600) (ek : k = nI q) (z : Nat) (hz : z ≤ 16) (ez : fN q = nI z) (hR : ∀ j, j < z → rng (fL (16 * q + j))) : Met l yX1_says wsX1_says (rmN 1 0 0) (va_Pc [.ref (am 0), .int k] (rdM dC dI am ym (co, ct, th, fo, sg, sz, hc, fL, fN, fD, fH, fV, fM, fW))) (vp_Si (fun r => r = sy_it fL fV z (16 * q) 0 0)) 0 0 (fun _ => False) := by
  refine Met.ofW (cc := cX1_says) (maxL := 5) (ret := (some .int)) (by decide) rfl ?_
  intro p e s m args below meth c s₁ B hml hv
  obtain ⟨rfl, hP, hK⟩ := hv
  have hx := B.exec
  have hb := B.bytes
  have hrt := B.returns
  have hlocks := B.notSynchronized
  have hts := atoms_spec (ws := wsX1_says) B.pre
  have hw : ∀ w ∈ WB, w.before ([.ref (am 0), .int k] : List Value).toArray s = true := fun w h => hts w (List.mem_cons_of_mem _ h)
  have hown : s.vm.findClass "ProofBenchModel" = some m.cls := findClass_of_methodNamed B.named
  have hP : va_P (dC, dI) cls2 (MW am ym (co, ct, th, fo, sg, sz, hc, fL, fN, fD, fH, fV, fM, fW)) s.heap := hP
  have hl := lv_entry ([.ref (am 0), .int k]) (n := 5) (Nat.le_of_ble_eq_true rfl)
  rw [lg_entry_eq]
  generalize (lg_sl ([.ref (am 0), .int k]) ++ List.replicate (5 - (lg_sl ([.ref (am 0), .int k])).length) Slot.unset).toArray = ls at hl ⊢
  have hl : lv_has ls 5 [(0, .ref (am 0)), (1, .int k)] := hl
  have ck : k.toNatClampNeg = q := by rw [ek]; exact nI_clamp (by omega)
  have hink : vp_in k 600 := by rw [ek]; exact vp_in_nI hq6 (by decide)
  have e16 : 16 * k = nI (16 * q) := by rw [ek, show (16 : Int32) = nI 16 from rfl, pk_mul]
  have eN : 16 * k + fN q = nI (16 * q + z) := by rw [e16, ez, nI_add]
  have loop : ∀ (a i : Nat) (op la : Int32), i + a = 16 * q + z → 16 * q ≤ i → sy_it fL fV z (16 * q) 0 0 = sy_it fL fV a i op la → ∀ ls, lv_has ls 5 [(4, .int (nI i)), (3, .int la), (2, .int op), (0, .ref (am 0)), (1, .int k)] → W p l e (headSpec wsX1_says (rmN 1 0 0)).room s m ([.ref (am 0), .int k] : List Value).toArray below meth c s.heap [] 0 0 (MQ below (vp_Si (fun r => r = sy_it fL fV z (16 * q) 0 0)) ([.ref (am 0), .int k] : List Value).toArray s 0 0 (fun _ => False)) (F0 m 10 ls []) := by
    intro a
    induction a with
    | zero =>
      intro i op la hk hge hq ls hl
      have e0 : i = 16 * q + z := by omega
      refine lv_iload hx hb dX1_says_10 (lv_at hl 0 rfl) ?_
      refine lv_bipush (v := 16) hx hb dX1_says_12 (by decide) ?_
      refine lv_iload_n hx hb dX1_says_14 rfl (lv_at hl 4 rfl) ?_
      refine lv_imul hx hb dX1_says_15 ?_
      refine lv_aload_n hx hb dX1_says_16 rfl (lv_at hl 3 rfl) ?_
      refine va_get (D := (dC, dI)) (ci := 1) (v := .ref (am 2)) (C := RX1) (T := TX1) (N := 14) hx hb hw inX1 hown hK hP 0 rfl rfl 6 (by decide) (hw _ wb_274) (fun _ h9 => h9) rfl dX1_says_17 ?_
      refine lv_iload_n hx hb dX1_says_20 rfl (lv_at hl 4 rfl) ?_
      refine va_iald hx hb hK hP 2 1 rfl rfl hink dX1_says_21 ?_
      rw [ck]
      refine lv_iadd hx hb dX1_says_22 ?_
      refine lv_icmp_ge (tgt := 97) hx hb dX1_says_23 (by decide) (fun c1 => ?_) (fun c1 => ?_)
      · skip
        refine lv_iload_n hx hb dX1_says_97 rfl (lv_at hl 2 rfl) ?_
        refine lv_if_ne (tgt := 106) hx hb dX1_says_98 (by decide) (fun c2 => ?_) (fun c2 => ?_)
        · skip
          refine lv_iload_n hx hb dX1_says_106 rfl (lv_at hl 2 rfl) ?_
          refine lv_iconst (v := 1) hx hb dX1_says_107 (by decide) ?_
          refine lv_icmp_ne (tgt := 115) hx hb dX1_says_108 (by decide) (fun c3 => ?_) (fun c3 => ?_)
          · skip
            refine lv_iconst (v := 0) hx hb dX1_says_115 (by decide) ?_
            exact W.iret (v := 0) hx hb hrt (fun t ht hW => ⟨_, rfl, by rw [hq, sy_it, if_neg c2, if_neg c3], ht⟩) (fun q h => nomatch h) dX1_says_116
          · skip
            refine lv_iload_n hx hb dX1_says_111 rfl (lv_at hl 1 rfl) ?_
            refine lv_goto (tgt := 116) hx hb dX1_says_112 (by decide) ?_
            exact W.iret (v := la) hx hb hrt (fun t ht hW => ⟨_, rfl, by rw [hq, sy_it, if_neg c2, if_pos c3], ht⟩) (fun q h => nomatch h) dX1_says_116
        · skip
          refine lv_bipush (v := 17) hx hb dX1_says_101 (by decide) ?_
          refine lv_goto (tgt := 116) hx hb dX1_says_103 (by decide) ?_
          exact W.iret (v := 17) hx hb hrt (fun t ht hW => ⟨_, rfl, by rw [hq, sy_it, if_pos c2], ht⟩) (fun q h => nomatch h) dX1_says_116
      · skip
        exact absurd (by rw [eN, e0]; exact Int32.le_refl _) c1
    | succ a ih =>
      intro i op la hk hge hq ls hl
      have ci : (nI i).toNatClampNeg = i := nI_clamp (by omega)
      have hin : vp_in (nI i) 9600 := vp_in_nI (by omega) (by decide)
      have hr9 : rng (fL i) := by rw [show i = 16 * q + (i - 16 * q) by omega]; exact hR _ (by omega)
      refine lv_iload hx hb dX1_says_10 (lv_at hl 0 rfl) ?_
      refine lv_bipush (v := 16) hx hb dX1_says_12 (by decide) ?_
      refine lv_iload_n hx hb dX1_says_14 rfl (lv_at hl 4 rfl) ?_
      refine lv_imul hx hb dX1_says_15 ?_
      refine lv_aload_n hx hb dX1_says_16 rfl (lv_at hl 3 rfl) ?_
      refine va_get (D := (dC, dI)) (ci := 1) (v := .ref (am 2)) (C := RX1) (T := TX1) (N := 14) hx hb hw inX1 hown hK hP 0 rfl rfl 6 (by decide) (hw _ wb_274) (fun _ h9 => h9) rfl dX1_says_17 ?_
      refine lv_iload_n hx hb dX1_says_20 rfl (lv_at hl 4 rfl) ?_
      refine va_iald hx hb hK hP 2 1 rfl rfl hink dX1_says_21 ?_
      rw [ck]
      refine lv_iadd hx hb dX1_says_22 ?_
      refine lv_icmp_ge (tgt := 97) hx hb dX1_says_23 (by decide) (fun c1 => ?_) (fun c1 => ?_)
      · skip
        exact absurd (by rw [eN] at c1; exact c1) (nI_ge (by omega) (by omega))
      · skip
        refine lv_aload_n hx hb dX1_says_26 rfl (lv_at hl 3 rfl) ?_
        refine lv_aload_n hx hb dX1_says_27 rfl (lv_at hl 3 rfl) ?_
        refine va_get (D := (dC, dI)) (ci := 1) (v := .ref (am 1)) (C := RX1) (T := TX1) (N := 14) hx hb hw inX1 hown hK hP 0 rfl rfl 5 (by decide) (hw _ wb_273) (fun _ h9 => h9) rfl dX1_says_28 ?_
        refine lv_iload hx hb dX1_says_31 (lv_at hl 0 rfl) ?_
        refine va_iald hx hb hK hP 1 0 rfl rfl hin dX1_says_33 ?_
        rw [ci]
        refine vp_callSi (W.runV (As := [.int (fL i)]) (rest := []) ⟨hx, hb, hml, hown, hw⟩ (n_of l dC dI am ym co ct th fo sg sz hc fL fN fD fH fV fM fW (fL i) hr9.1 hr9.2) (cwV 1 hw (gw_V wb_363 wb_365 wbs_14 wb_2 wb_366) rfl rfl rfl (by decide +kernel) ⟨Nat.le_of_ble_eq_true rfl, Nat.le_of_ble_eq_true rfl⟩) ⟨blind_rdM, va_recv hK hP (ci := 1) (q0 := 0) rfl rfl, fun U hU hW => ⟨rfl, by rw [hU]; exact hP, va_K.moved hW.alike hK⟩⟩ rfl rfl hl.1 rfl (lv_room (Nat.le_of_ble_eq_true rfl)) dX1_says_34 ⟨Nat.le_of_ble_eq_true rfl, Nat.le_of_ble_eq_true rfl⟩) (fun r1 h1 => ?_)
        subst h1
        refine lv_iconst (v := 1) hx hb dX1_says_37 (by decide) ?_
        refine lv_icmp_ne (tgt := 43) hx hb dX1_says_38 (by decide) (fun c2 => ?_) (fun c2 => ?_)
        · skip
          refine lv_iload_n hx hb dX1_says_43 rfl (lv_at hl 2 rfl) ?_
          refine lv_aload_n hx hb dX1_says_44 rfl (lv_at hl 3 rfl) ?_
          refine lv_aload_n hx hb dX1_says_45 rfl (lv_at hl 3 rfl) ?_
          refine va_get (D := (dC, dI)) (ci := 1) (v := .ref (am 1)) (C := RX1) (T := TX1) (N := 14) hx hb hw inX1 hown hK hP 0 rfl rfl 5 (by decide) (hw _ wb_273) (fun _ h9 => h9) rfl dX1_says_46 ?_
          refine lv_iload hx hb dX1_says_49 (lv_at hl 0 rfl) ?_
          refine va_iald hx hb hK hP 1 0 rfl rfl hin dX1_says_51 ?_
          rw [ci]
          refine vp_callSi (W.runV (As := [.int (fL i)]) (rest := [.int op]) ⟨hx, hb, hml, hown, hw⟩ (n_of l dC dI am ym co ct th fo sg sz hc fL fN fD fH fV fM fW (fL i) hr9.1 hr9.2) (cwV 1 hw (gw_V wb_363 wb_365 wbs_14 wb_2 wb_366) rfl rfl rfl (by decide +kernel) ⟨Nat.le_of_ble_eq_true rfl, Nat.le_of_ble_eq_true rfl⟩) ⟨blind_rdM, va_recv hK hP (ci := 1) (q0 := 0) rfl rfl, fun U hU hW => ⟨rfl, by rw [hU]; exact hP, va_K.moved hW.alike hK⟩⟩ rfl rfl hl.1 rfl (lv_room (Nat.le_of_ble_eq_true rfl)) dX1_says_52 ⟨Nat.le_of_ble_eq_true rfl, Nat.le_of_ble_eq_true rfl⟩) (fun r2 h2 => ?_)
          subst h2
          refine lv_if_ne (tgt := 62) hx hb dX1_says_55 (by decide) (fun c3 => ?_) (fun c3 => ?_)
          · skip
            refine lv_iconst (v := 0) hx hb dX1_says_62 (by decide) ?_
            refine lv_iadd hx hb dX1_says_63 ?_
            refine lv_istore_n (lv' := [(2, .int (op + 0)), (4, .int (nI i)), (3, .int la), (0, .ref (am 0)), (1, .int k)]) hx hb dX1_says_64 rfl hl (by decide) rfl (fun ls hl => ?_)
            refine lv_aload_n hx hb dX1_says_65 rfl (lv_at hl 3 rfl) ?_
            refine lv_aload_n hx hb dX1_says_66 rfl (lv_at hl 3 rfl) ?_
            refine va_get (D := (dC, dI)) (ci := 1) (v := .ref (am 1)) (C := RX1) (T := TX1) (N := 14) hx hb hw inX1 hown hK hP 0 rfl rfl 5 (by decide) (hw _ wb_273) (fun _ h9 => h9) rfl dX1_says_67 ?_
            refine lv_iload hx hb dX1_says_70 (lv_at hl 1 rfl) ?_
            refine va_iald hx hb hK hP 1 0 rfl rfl hin dX1_says_72 ?_
            rw [ci]
            refine vp_callSi (W.runV (As := [.int (fL i)]) (rest := []) ⟨hx, hb, hml, hown, hw⟩ (n_of l dC dI am ym co ct th fo sg sz hc fL fN fD fH fV fM fW (fL i) hr9.1 hr9.2) (cwV 1 hw (gw_V wb_363 wb_365 wbs_14 wb_2 wb_366) rfl rfl rfl (by decide +kernel) ⟨Nat.le_of_ble_eq_true rfl, Nat.le_of_ble_eq_true rfl⟩) ⟨blind_rdM, va_recv hK hP (ci := 1) (q0 := 0) rfl rfl, fun U hU hW => ⟨rfl, by rw [hU]; exact hP, va_K.moved hW.alike hK⟩⟩ rfl rfl hl.1 rfl (lv_room (Nat.le_of_ble_eq_true rfl)) dX1_says_73 ⟨Nat.le_of_ble_eq_true rfl, Nat.le_of_ble_eq_true rfl⟩) (fun r3 h3 => ?_)
            subst h3
            refine lv_if_ne (tgt := 89) hx hb dX1_says_76 (by decide) (fun c4 => ?_) (fun c4 => ?_)
            · skip
              have es : sy_it fL fV (a + 1) i op la = sy_it fL fV a (i + 1) (op + 0) la := (if_neg c2).trans (by rw [if_neg c3, if_neg c3])
              refine lv_iload_n hx hb dX1_says_89 rfl (lv_at hl 2 rfl) ?_
              refine lv_istore_n (lv' := [(3, .int la), (2, .int (op + 0)), (4, .int (nI i)), (0, .ref (am 0)), (1, .int k)]) hx hb dX1_says_90 rfl hl (by decide) rfl (fun ls hl => ?_)
              refine lv_iinc (v := (nI i) + 1) (lv' := [(4, .int ((nI i) + 1)), (3, .int la), (2, .int (op + 0)), (0, .ref (am 0)), (1, .int k)]) hx hb dX1_says_91 hl (k := 2) rfl rfl (by decide) rfl (fun ls hl => ?_)
              refine lv_goto (tgt := 10) hx hb dX1_says_94 (by decide) ?_
              rw [nI_1] at hl
              exact ih (i + 1) _ _ (by omega) (by omega) (hq.trans es) ls (lv_sub hl [0, 1, 2, 3, 4] rfl)
            · skip
              exact absurd c4 c3
          · skip
            refine lv_iconst (v := 1) hx hb dX1_says_58 (by decide) ?_
            refine lv_goto (tgt := 63) hx hb dX1_says_59 (by decide) ?_
            refine lv_iadd hx hb dX1_says_63 ?_
            refine lv_istore_n (lv' := [(2, .int (op + 1)), (4, .int (nI i)), (3, .int la), (0, .ref (am 0)), (1, .int k)]) hx hb dX1_says_64 rfl hl (by decide) rfl (fun ls hl => ?_)
            refine lv_aload_n hx hb dX1_says_65 rfl (lv_at hl 3 rfl) ?_
            refine lv_aload_n hx hb dX1_says_66 rfl (lv_at hl 3 rfl) ?_
            refine va_get (D := (dC, dI)) (ci := 1) (v := .ref (am 1)) (C := RX1) (T := TX1) (N := 14) hx hb hw inX1 hown hK hP 0 rfl rfl 5 (by decide) (hw _ wb_273) (fun _ h9 => h9) rfl dX1_says_67 ?_
            refine lv_iload hx hb dX1_says_70 (lv_at hl 1 rfl) ?_
            refine va_iald hx hb hK hP 1 0 rfl rfl hin dX1_says_72 ?_
            rw [ci]
            refine vp_callSi (W.runV (As := [.int (fL i)]) (rest := []) ⟨hx, hb, hml, hown, hw⟩ (n_of l dC dI am ym co ct th fo sg sz hc fL fN fD fH fV fM fW (fL i) hr9.1 hr9.2) (cwV 1 hw (gw_V wb_363 wb_365 wbs_14 wb_2 wb_366) rfl rfl rfl (by decide +kernel) ⟨Nat.le_of_ble_eq_true rfl, Nat.le_of_ble_eq_true rfl⟩) ⟨blind_rdM, va_recv hK hP (ci := 1) (q0 := 0) rfl rfl, fun U hU hW => ⟨rfl, by rw [hU]; exact hP, va_K.moved hW.alike hK⟩⟩ rfl rfl hl.1 rfl (lv_room (Nat.le_of_ble_eq_true rfl)) dX1_says_73 ⟨Nat.le_of_ble_eq_true rfl, Nat.le_of_ble_eq_true rfl⟩) (fun r3 h3 => ?_)
            subst h3
            refine lv_if_ne (tgt := 89) hx hb dX1_says_76 (by decide) (fun c4 => ?_) (fun c4 => ?_)
            · skip
              exact absurd c3 c4
            · skip
              refine lv_aload_n hx hb dX1_says_79 rfl (lv_at hl 3 rfl) ?_
              refine va_get (D := (dC, dI)) (ci := 1) (v := .ref (am 1)) (C := RX1) (T := TX1) (N := 14) hx hb hw inX1 hown hK hP 0 rfl rfl 5 (by decide) (hw _ wb_273) (fun _ h9 => h9) rfl dX1_says_80 ?_
              refine lv_iload hx hb dX1_says_83 (lv_at hl 1 rfl) ?_
              refine va_iald hx hb hK hP 1 0 rfl rfl hin dX1_says_85 ?_
              rw [ci]
              have es : sy_it fL fV (a + 1) i op la = sy_it fL fV a (i + 1) (op + 1) (fL i) := (if_neg c2).trans (by rw [if_pos c3, if_pos c3])
              refine lv_goto (tgt := 90) hx hb dX1_says_86 (by decide) ?_
              refine lv_istore_n (lv' := [(3, .int (fL i)), (2, .int (op + 1)), (4, .int (nI i)), (0, .ref (am 0)), (1, .int k)]) hx hb dX1_says_90 rfl hl (by decide) rfl (fun ls hl => ?_)
              refine lv_iinc (v := (nI i) + 1) (lv' := [(4, .int ((nI i) + 1)), (3, .int (fL i)), (2, .int (op + 1)), (0, .ref (am 0)), (1, .int k)]) hx hb dX1_says_91 hl (k := 2) rfl rfl (by decide) rfl (fun ls hl => ?_)
              refine lv_goto (tgt := 10) hx hb dX1_says_94 (by decide) ?_
              rw [nI_1] at hl
              exact ih (i + 1) _ _ (by omega) (by omega) (hq.trans es) ls (lv_sub hl [0, 1, 2, 3, 4] rfl)
        · skip
          refine lv_iconst (v := 0) hx hb dX1_says_41 (by decide) ?_
          exact W.iret (v := 0) hx hb hrt (fun t ht hW => ⟨_, rfl, by rw [hq, sy_it, if_pos c2], ht⟩) (fun q h => nomatch h) dX1_says_42
  refine lv_iconst (v := 0) hx hb dX1_says_0 (by decide) ?_
  refine lv_istore_n (lv' := [(2, .int 0), (0, .ref (am 0)), (1, .int k)]) hx hb dX1_says_1 rfl hl (by decide) rfl (fun ls hl => ?_)
  refine lv_iconst (v := 0) hx hb dX1_says_2 (by decide) ?_
  refine lv_istore_n (lv' := [(3, .int 0), (2, .int 0), (0, .ref (am 0)), (1, .int k)]) hx hb dX1_says_3 rfl hl (by decide) rfl (fun ls hl => ?_)
  refine lv_bipush (v := 16) hx hb dX1_says_4 (by decide) ?_
  refine lv_iload_n hx hb dX1_says_6 rfl (lv_at hl 3 rfl) ?_
  refine lv_imul hx hb dX1_says_7 ?_
  rw [e16]
  refine lv_istore (lv' := [(4, .int (nI (16 * q))), (3, .int 0), (2, .int 0), (0, .ref (am 0)), (1, .int k)]) hx hb dX1_says_8 hl (by decide) rfl (fun ls hl => ?_)
  exact loop z (16 * q) 0 0 (by omega) (Nat.le_refl _) rfl ls hl
end
section
/-! the reference: following, by itself and along hints; told, step, isOver -/
def sy_of (fL fN fV : Nat → Int32) (c : Nat) : Int32 := sy_it fL fV (fN c).toNatClampNeg (16 * c) 0 0
def fw_scan (fL fN : Nat → Int32) : Nat → Nat → (Nat → Int32) → Int32 → Int32 → Option ((Nat → Int32) × Int32 × Int32)
  | 0, _, f, g, b => some (f, g, b)
  | a + 1, i, f, g, b => if fN i < 0 then fw_scan fL fN a (i + 1) f g b else if sy_of fL fN f i = 17 then none else if sy_of fL fN f i = 0 then fw_scan fL fN a (i + 1) f g b else fw_scan fL fN a (i + 1) (tell_v f (sy_of fL fN f i)) (g + 1) 1
def fw_it (fL fN : Nat → Int32) (n : Nat) : Nat → (Nat → Int32) → Int32 → Option Int32
  | 0, _, _ => none
  | a + 1, f, g => match fw_scan fL fN n 0 f g 0 with
    | none => some 17
    | some (f1, g1, b1) => if b1 = 0 then some g1 else fw_it fL fN n a f1 g1
theorem sy_rng {fL fV : Nat → Int32} : ∀ (a i : Nat) (op la : Int32), (∀ j, j < a → rng (fL (i + j))) → rng la → sy_it fL fV a i op la = 17 ∨ rng (sy_it fL fV a i op la)
  | 0, i, op, la, _, hl => by
    rw [sy_it]
    by_cases h : op = 0
    · exact Or.inl (by rw [if_pos h])
    · rw [if_neg h]
      by_cases h1 : op = 1
      · rw [if_pos h1]; exact Or.inr hl
      · rw [if_neg h1]; exact Or.inr ⟨by decide, by decide⟩
  | a + 1, i, op, la, hr, hl => by
    rw [sy_it]
    by_cases h : of_v fV (fL i) = 1
    · rw [if_pos h]; exact Or.inr ⟨by decide, by decide⟩
    · rw [if_neg h]
      refine sy_rng a (i + 1) _ _ (fun j hj => ?_) ?_
      · have := hr (j + 1) (by omega)
        rw [show i + 1 + j = i + (j + 1) by omega]
        exact this
      · by_cases h0 : of_v fV (fL i) = 0
        · rw [if_pos h0]; exact hr 0 (by omega)
        · rw [if_neg h0]; exact hl
/-- the clauses are as they should be: dropped, or of at most 16 literals -/
def cl_ok (n : Nat) (fL fN : Nat → Int32) : Prop := ∀ c, c < n → fN c < 0 ∨ ∃ z : Nat, z ≤ 16 ∧ fN c = nI z ∧ ∀ j, j < z → rng (fL (16 * c + j))
theorem cl_get {n c : Nat} {fL fN : Nat → Int32} (h : cl_ok n fL fN) (hc : c < n) (h0 : ¬ fN c < 0) : ∃ z : Nat, z ≤ 16 ∧ fN c = nI z ∧ (fN c).toNatClampNeg = z ∧ ∀ j, j < z → rng (fL (16 * c + j)) := by
  rcases h c hc with h | ⟨z, hz, ez, hr⟩
  · exact absurd h h0
  · exact ⟨z, hz, ez, by rw [ez]; exact nI_clamp (by omega), hr⟩
theorem sy_of_rng {n c : Nat} {fL fN fV : Nat → Int32} (h : cl_ok n fL fN) (hc : c < n) (h0 : ¬ fN c < 0) (h17 : ¬ sy_of fL fN fV c = 17) : rng (sy_of fL fN fV c) := by
  obtain ⟨z, hz, ez, cz, hr⟩ := cl_get h hc h0
  rw [sy_of, cz] at h17 ⊢
  rcases sy_rng (fL := fL) (fV := fV) z (16 * c) 0 0 hr ⟨by decide, by decide⟩ with h | h
  · exact absurd h h17
  · exact h
theorem mt_ix {ct k : Int32} {fN : Nat → Int32} {n : Nat} (e : ct = nI n) (hn : n < 2 ^ 31) (h : ¬ mt_b ct fN k = 0) : ∃ c : Nat, c < n ∧ k = nI c ∧ k.toNatClampNeg = c ∧ ¬ fN c < 0 := by
  by_cases z : ¬ k < 0 ∧ ¬ ct ≤ k ∧ ¬ fN k.toNatClampNeg < 0
  · rcases pk_ix k (n := n) hn with q | q | ⟨j, hj, ej⟩
    · exact absurd q z.1
    · exact absurd (by rw [e]; exact q) z.2.1
    · have cj : k.toNatClampNeg = j := by rw [ej]; exact nI_clamp (by omega)
      exact ⟨j, hj, ej, cj, by have := z.2.2; rw [cj] at this; exact this⟩
  · exact absurd (by rw [mt_b, if_neg z]) h
def io_it (fN : Nat → Int32) : Nat → Nat → Int32 → Int32
  | 0, _, g => g
  | a + 1, i, g => io_it fN a (i + 1) (if ¬ g = 0 ∨ fN i = 0 then 1 else 0)
def al_said (ct : Int32) (fL fN fH f : Nat → Int32) (i : Nat) : Int32 := if mt_b ct fN (fH i) = 0 then 0 else sy_of fL fN f (fH i).toNatClampNeg
def al_it (ct hc : Int32) (fL fN fH : Nat → Int32) : Nat → Nat → (Nat → Int32) → Option Int32
  | 0, _, _ => some (-1 - hc)
  | a + 1, i, f => if al_said ct fL fN fH f i = 17 ∧ a = 0 then none else if al_said ct fL fN fH f i = 0 ∨ al_said ct fL fN fH f i = 17 then some (-1 - nI i) else al_it ct hc fL fN fH a (i + 1) (tell_v f (al_said ct fL fN fH f i))
theorem n_bool {g : Int32} (h : g = 0 ∨ g = 1) : narrow .boolean (.int g) = .int g := by
  rcases h with h | h <;> rw [h] <;> decide
set_option maxHeartbeats 4000000 in
set_option maxRecDepth 100000 in
/-- follow -/
theorem n_follow (l : Launch) (dC : Nat → ClassId) (dI : Nat → Nat → Nat) (am : Nat → Nat) (ym : Nat → ClassId) (sz0 : Nat) (co ct th fo sg sz hc : Int32) (fL fN fD fH fV : Nat → Int32) (fM fW : Nat → Int64)  (n : Nat) (hn : n < 600) (ect : ct = nI n) (d : Nat) (hd : d ≤ 16) (esz : sz = nI d) (hR : ∀ j, j < d → rng (fD j)) (hC : cl_ok n fL fN) (K : Nat) (ans : Int32) (hKa : fw_it fL fN n K (so_it fD d 0 (zv_it 17 0 fV)) 0 = some ans) : Met l yX1_follow wsX1_follow (rmN 2 0 0) (va_Pc [.ref (am 0)] (preM dC dI am ym sz0 (co, ct, th, fo, sg, sz, hc, fL, fN, fD, fH, fV, fM, fW))) (va_Qi (fun (r : Int32) (u : MS) => r = ans ∧ ∃ f : Nat → Int32, u = (co, ct, th, fo, sg, sz, hc, fL, fN, fD, fH, f, fM, fW)) (atM dC dI (va_A (MW am ym (co, ct, th, fo, sg, sz, hc, fL, fN, fD, fH, fV, fM, fW)) sz0) am ym) (va_A (MW am ym (co, ct, th, fo, sg, sz, hc, fL, fN, fD, fH, fV, fM, fW)) sz0)) 0 0 (va_A (MW am ym (co, ct, th, fo, sg, sz, hc, fL, fN, fD, fH, fV, fM, fW)) sz0) := by
  refine Met.ofW (cc := cX1_follow) (maxL := 5) (ret := (some .int)) (by decide) rfl ?_
  intro p e s m args below meth c s₁ B hml hv
  obtain ⟨rfl, hsz, hP, hK, hD0⟩ := hv
  have hx := B.exec
  have hb := B.bytes
  have hrt := B.returns
  have hlocks := B.notSynchronized
  have hts := atoms_spec (ws := wsX1_follow) B.pre
  have hw : ∀ w ∈ WB, w.before ([.ref (am 0)] : List Value).toArray s = true := fun w h => hts w (List.mem_cons_of_mem _ h)
  have hown : s.vm.findClass "ProofBenchModel" = some m.cls := findClass_of_methodNamed B.named
  subst hsz
  have hD := hD0.self (sz := s.heap.size)
  generalize hAe : va_A (MW am ym (co, ct, th, fo, sg, sz, hc, fL, fN, fD, fH, fV, fM, fW)) s.heap.size = A at hD ⊢
  have hA : ∀ q : Nat, s.heap.size ≤ q → A q := fun q h => by rw [← hAe]; exact Or.inr h
  have hS : va_S A s.heap s.heap [] := va_S.rf
  have hP : va_P (dC, dI) cls2 (MW am ym (co, ct, th, fo, sg, sz, hc, fL, fN, fD, fH, fV, fM, fW)) s.heap := hP
  have hl := lv_entry ([.ref (am 0)]) (n := 5) (Nat.le_of_ble_eq_true rfl)
  rw [lg_entry_eq]
  generalize (lg_sl ([.ref (am 0)]) ++ List.replicate (5 - (lg_sl ([.ref (am 0)])).length) Slot.unset).toArray = ls at hl ⊢
  have hl : lv_has ls 5 [(0, .ref (am 0))] := hl
  have inner : ∀ (a i : Nat) (f : Nat → Int32) (g b : Int32) (H : Heap) (locs : List Loc), i + a = n → (∀ (f1 : Nat → Int32) (g1 b1 : Int32), fw_scan fL fN a i f g b = some (f1, g1, b1) → ∀ (H : Heap) (locs : List Loc), va_P (dC, dI) cls2 (MW am ym (co, ct, th, fo, sg, sz, hc, fL, fN, fD, fH, f1, fM, fW)) H → va_D A (MW am ym (co, ct, th, fo, sg, sz, hc, fL, fN, fD, fH, f1, fM, fW)) → va_S A s.heap H locs → ∀ ls, lv_has ls 5 [(1, .int g1), (2, .int b1), (0, .ref (am 0))] → W p l e (headSpec wsX1_follow (rmN 2 0 0)).room s m ([.ref (am 0)] : List Value).toArray below meth c H locs 0 0 (MQ below (va_Qi (fun (r : Int32) (u : MS) => r = ans ∧ ∃ f : Nat → Int32, u = (co, ct, th, fo, sg, sz, hc, fL, fN, fD, fH, f, fM, fW)) (atM dC dI A am ym) A) ([.ref (am 0)] : List Value).toArray s 0 0 A) (F0 m 76 ls [])) → (fw_scan fL fN a i f g b = none → ans = 17) → va_P (dC, dI) cls2 (MW am ym (co, ct, th, fo, sg, sz, hc, fL, fN, fD, fH, f, fM, fW)) H → va_D A (MW am ym (co, ct, th, fo, sg, sz, hc, fL, fN, fD, fH, f, fM, fW)) → va_S A s.heap H locs → ∀ ls, lv_has ls 5 [(3, .int (nI i)), (2, .int b), (1, .int g), (0, .ref (am 0))] → W p l e (headSpec wsX1_follow (rmN 2 0 0)).room s m ([.ref (am 0)] : List Value).toArray below meth c H locs 0 0 (MQ below (va_Qi (fun (r : Int32) (u : MS) => r = ans ∧ ∃ f : Nat → Int32, u = (co, ct, th, fo, sg, sz, hc, fL, fN, fD, fH, f, fM, fW)) (atM dC dI A am ym) A) ([.ref (am 0)] : List Value).toArray s 0 0 A) (F0 m 16 ls []) := by
    intro a
    induction a with
    | zero =>
      intro i f g b H locs hk h1 h2 hP hD hS ls hl
      have e0 : i = n := by omega
      refine lv_iload_n hx hb dX1_follow_16 rfl (lv_at hl 0 rfl) ?_
      refine lv_aload_n hx hb dX1_follow_17 rfl (lv_at hl 3 rfl) ?_
      refine va_get (D := (dC, dI)) (ci := 1) (v := .int ct) (C := RX1) (T := TX1) (N := 14) hx hb hw inX1 hown hK hP 0 rfl rfl 1 (by decide) (hw _ wb_269) (fun _ h9 => h9) rfl dX1_follow_18 ?_
      refine lv_icmp_ge (tgt := 76) hx hb dX1_follow_21 (by decide) (fun c1 => ?_) (fun c1 => ?_)
      · skip
        exact h1 f g b rfl H locs hP hD hS ls (lv_sub hl [2, 1, 3] rfl)
      · skip
        exact absurd (by rw [ect, e0]; exact Int32.le_refl _) c1
    | succ a ih =>
      intro i f g b H locs hk h1 h2 hP hD hS ls hl
      have ci : (nI i).toNatClampNeg = i := nI_clamp (by omega)
      have hin : vp_in (nI i) 600 := vp_in_nI (by omega) (by decide)
      refine lv_iload_n hx hb dX1_follow_16 rfl (lv_at hl 0 rfl) ?_
      refine lv_aload_n hx hb dX1_follow_17 rfl (lv_at hl 3 rfl) ?_
      refine va_get (D := (dC, dI)) (ci := 1) (v := .int ct) (C := RX1) (T := TX1) (N := 14) hx hb hw inX1 hown hK hP 0 rfl rfl 1 (by decide) (hw _ wb_269) (fun _ h9 => h9) rfl dX1_follow_18 ?_
      refine lv_icmp_ge (tgt := 76) hx hb dX1_follow_21 (by decide) (fun c1 => ?_) (fun c1 => ?_)
      · skip
        exact absurd (by rw [ect] at c1; exact c1) (nI_ge (by omega) (by omega))
      · skip
        refine lv_aload_n hx hb dX1_follow_24 rfl (lv_at hl 3 rfl) ?_
        refine va_get (D := (dC, dI)) (ci := 1) (v := .ref (am 2)) (C := RX1) (T := TX1) (N := 14) hx hb hw inX1 hown hK hP 0 rfl rfl 6 (by decide) (hw _ wb_274) (fun _ h9 => h9) rfl dX1_follow_25 ?_
        refine lv_iload_n hx hb dX1_follow_28 rfl (lv_at hl 0 rfl) ?_
        refine va_iald hx hb hK hP 2 1 rfl rfl hin dX1_follow_29 ?_
        rw [ci]
        refine lv_if_ge (tgt := 37) hx hb dX1_follow_30 (by decide) (fun c2 => ?_) (fun c2 => ?_)
        · skip
          have c2 : ¬ fN i < 0 := Int32.not_lt.mpr c2
          obtain ⟨z, hz, ez, cz, hr⟩ := cl_get hC (show i < n by omega) c2
          refine lv_aload_n hx hb dX1_follow_37 rfl (lv_at hl 3 rfl) ?_
          refine lv_iload_n hx hb dX1_follow_38 rfl (lv_at hl 0 rfl) ?_
          refine vp_callSi (W.runV (As := [.int (nI i)]) (rest := []) ⟨hx, hb, hml, hown, hw⟩ (n_says l dC dI am ym co ct th fo sg sz hc fL fN fD fH f fM fW (nI i) i (by omega) rfl z hz ez hr) (cwV 1 hw (gw_V wb_359 wb_361 wbs_13 wb_2 wb_362) rfl rfl rfl (by decide +kernel) ⟨Nat.le_of_ble_eq_true rfl, Nat.le_of_ble_eq_true rfl⟩) ⟨blind_rdM, va_recv hK hP (ci := 1) (q0 := 0) rfl rfl, fun U hU hW => ⟨rfl, by rw [hU]; exact hP, va_K.moved hW.alike hK⟩⟩ rfl rfl hl.1 rfl (lv_room (Nat.le_of_ble_eq_true rfl)) dX1_follow_39 ⟨Nat.le_of_ble_eq_true rfl, Nat.le_of_ble_eq_true rfl⟩) (fun r1 hr1 => ?_)
          have hr1 : r1 = sy_of fL fN f i := by rw [hr1, sy_of, cz]
          subst hr1
          refine lv_istore (lv' := [(4, .int (sy_of fL fN f i)), (3, .int (nI i)), (2, .int b), (1, .int g), (0, .ref (am 0))]) hx hb dX1_follow_42 hl (by decide) rfl (fun ls hl => ?_)
          refine lv_iload hx hb dX1_follow_44 (lv_at hl 0 rfl) ?_
          refine lv_bipush (v := 17) hx hb dX1_follow_46 (by decide) ?_
          refine lv_icmp_ne (tgt := 54) hx hb dX1_follow_48 (by decide) (fun c3 => ?_) (fun c3 => ?_)
          · skip
            refine lv_iload hx hb dX1_follow_54 (lv_at hl 0 rfl) ?_
            refine lv_if_eq (tgt := 70) hx hb dX1_follow_56 (by decide) (fun c4 => ?_) (fun c4 => ?_)
            · skip
              have es : fw_scan fL fN (a + 1) i f g b = fw_scan fL fN a (i + 1) f g b := (if_neg c2).trans ((if_neg c3).trans (if_pos c4))
              refine lv_iinc (v := (nI i) + 1) (lv' := [(3, .int ((nI i) + 1)), (4, .int (sy_of fL fN f i)), (2, .int b), (1, .int g), (0, .ref (am 0))]) hx hb dX1_follow_70 hl (k := 1) rfl rfl (by decide) rfl (fun ls hl => ?_)
              refine lv_goto (tgt := 16) hx hb dX1_follow_73 (by decide) ?_
              rw [nI_1] at hl
              exact ih (i + 1) f g b H locs (by omega) (fun f1 g1 b1 hg => h1 f1 g1 b1 (es.trans hg)) (fun hg => h2 (es.trans hg)) hP hD hS ls (lv_sub hl [0, 2, 3, 4] rfl)
            · skip
              have es : fw_scan fL fN (a + 1) i f g b = fw_scan fL fN a (i + 1) (tell_v f (sy_of fL fN f i)) (g + 1) 1 := (if_neg c2).trans ((if_neg c3).trans (if_neg c4))
              have hr9 := sy_of_rng (fV := f) hC (show i < n by omega) c2 c3
              refine lv_aload_n hx hb dX1_follow_59 rfl (lv_at hl 4 rfl) ?_
              refine lv_iload hx hb dX1_follow_60 (lv_at hl 0 rfl) ?_
              have hFc := va_free (wc := MW am ym (co, ct, th, fo, sg, sz, hc, fL, fN, fD, fH, f, fM, fW)) hD hS hA [0, 1, 2, 3, 4, 5, 6, 7] rfl
              refine va_callv (va_runV (As := [.int (sy_of fL fN f i)]) (rest := []) ⟨hx, hb, hml, hown, hw⟩ (n_tell l dC dI am ym H.size co ct th fo sg sz hc fL fN fD fH f fM fW (sy_of fL fN f i) hr9.1 hr9.2) (cwV 1 hw (gw_V wb_355 wb_357 wbs_12 wb_2 wb_358) rfl rfl rfl (by decide +kernel) ⟨Nat.le_of_ble_eq_true rfl, Nat.le_of_ble_eq_true rfl⟩) ⟨blind_preM, va_recv hK hP (ci := 1) (q0 := 0) rfl rfl, fun U hU hW => ⟨rfl, by rw [hU], by rw [hU]; exact hP, va_K.moved hW.alike hK, hD.weaken (fun _ _ _ _ => trivial)⟩⟩ rfl rfl hl.1 rfl (lv_room (Nat.le_of_ble_eq_true rfl)) dX1_follow_62 ⟨Nat.le_of_ble_eq_true rfl, Nat.le_of_ble_eq_true rfl⟩) hS (fun q _ h => hFc q h) hFc (fun u t H1 locs ht hvm hq hB hz1 hk1 hS => ?_)
              obtain rfl := hq
              obtain ⟨hP1, hK1, hD1⟩ := hB
              rw [ht] at hP1
              have hP : va_P (dC, dI) cls2 (MW am ym (co, ct, th, fo, sg, sz, hc, fL, fN, fD, fH, tell_v f (sy_of fL fN f i), fM, fW)) H1 := hP1
              have hD : va_D A (MW am ym (co, ct, th, fo, sg, sz, hc, fL, fN, fD, fH, tell_v f (sy_of fL fN f i), fM, fW)) := hD1.weaken (fun k q h _ => hFc q.1 (hD1.2 k q h))
              generalize H1 = H at hP hS ⊢
              refine lv_iinc (v := g + 1) (lv' := [(1, .int (g + 1)), (4, .int (sy_of fL fN f i)), (3, .int (nI i)), (2, .int b), (0, .ref (am 0))]) hx hb dX1_follow_65 hl (k := 3) rfl rfl (by decide) rfl (fun ls hl => ?_)
              refine lv_iconst (v := 1) hx hb dX1_follow_68 (by decide) ?_
              refine lv_istore_n (lv' := [(2, .int 1), (1, .int (g + 1)), (4, .int (sy_of fL fN f i)), (3, .int (nI i)), (0, .ref (am 0))]) hx hb dX1_follow_69 rfl hl (by decide) rfl (fun ls hl => ?_)
              refine lv_iinc (v := (nI i) + 1) (lv' := [(3, .int ((nI i) + 1)), (2, .int 1), (1, .int (g + 1)), (4, .int (sy_of fL fN f i)), (0, .ref (am 0))]) hx hb dX1_follow_70 hl (k := 3) rfl rfl (by decide) rfl (fun ls hl => ?_)
              refine lv_goto (tgt := 16) hx hb dX1_follow_73 (by decide) ?_
              rw [nI_1] at hl
              exact ih (i + 1) _ _ _ H _ (by omega) (fun f1 g1 b1 hg => h1 f1 g1 b1 (es.trans hg)) (fun hg => h2 (es.trans hg)) hP hD hS ls (lv_sub hl [0, 1, 2, 4] rfl)
          · skip
            have es : fw_scan fL fN (a + 1) i f g b = none := (if_neg c2).trans (if_pos c3)
            refine lv_bipush (v := 17) hx hb dX1_follow_51 (by decide) ?_
            exact W.iret (v := 17) hx hb hrt (fun t ht hW => ⟨⟨_, _, rfl, ⟨(h2 es).symm, f, rfl⟩, by rw [ht]; exact hP, va_K.moved hW.alike hK, hD⟩, hS.F ht⟩) hS.2.2 dX1_follow_53
        · skip
          have c2 : fN i < 0 := Int32.not_le.mp c2
          have es : fw_scan fL fN (a + 1) i f g b = fw_scan fL fN a (i + 1) f g b := if_pos c2
          refine lv_iconst (v := 0) hx hb dX1_follow_33 (by decide) ?_
          refine lv_goto (tgt := 42) hx hb dX1_follow_34 (by decide) ?_
          refine lv_istore (lv' := [(4, .int 0), (3, .int (nI i)), (2, .int b), (1, .int g), (0, .ref (am 0))]) hx hb dX1_follow_42 hl (by decide) rfl (fun ls hl => ?_)
          refine lv_iload hx hb dX1_follow_44 (lv_at hl 0 rfl) ?_
          refine lv_bipush (v := 17) hx hb dX1_follow_46 (by decide) ?_
          refine lv_icmp_ne (tgt := 54) hx hb dX1_follow_48 (by decide) (fun c3 => ?_) (fun c3 => ?_)
          · skip
            refine lv_iload hx hb dX1_follow_54 (lv_at hl 0 rfl) ?_
            refine lv_if_eq (tgt := 70) hx hb dX1_follow_56 (by decide) (fun c4 => ?_) (fun c4 => ?_)
            · skip
              refine lv_iinc (v := (nI i) + 1) (lv' := [(3, .int ((nI i) + 1)), (4, .int 0), (2, .int b), (1, .int g), (0, .ref (am 0))]) hx hb dX1_follow_70 hl (k := 1) rfl rfl (by decide) rfl (fun ls hl => ?_)
              refine lv_goto (tgt := 16) hx hb dX1_follow_73 (by decide) ?_
              rw [nI_1] at hl
              exact ih (i + 1) f g b H locs (by omega) (fun f1 g1 b1 hg => h1 f1 g1 b1 (es.trans hg)) (fun hg => h2 (es.trans hg)) hP hD hS ls (lv_sub hl [0, 2, 3, 4] rfl)
            · skip
              exact absurd rfl c4
          · skip
            exact absurd c3 (by decide)
  have outer : ∀ (K : Nat) (f : Nat → Int32) (g b : Int32) (H : Heap) (locs : List Loc), (¬ b = 0 → fw_it fL fN n K f g = some ans) → (b = 0 → g = ans) → va_P (dC, dI) cls2 (MW am ym (co, ct, th, fo, sg, sz, hc, fL, fN, fD, fH, f, fM, fW)) H → va_D A (MW am ym (co, ct, th, fo, sg, sz, hc, fL, fN, fD, fH, f, fM, fW)) → va_S A s.heap H locs → ∀ ls, lv_has ls 5 [(2, .int b), (1, .int g), (0, .ref (am 0))] → W p l e (headSpec wsX1_follow (rmN 2 0 0)).room s m ([.ref (am 0)] : List Value).toArray below meth c H locs 0 0 (MQ below (va_Qi (fun (r : Int32) (u : MS) => r = ans ∧ ∃ f : Nat → Int32, u = (co, ct, th, fo, sg, sz, hc, fL, fN, fD, fH, f, fM, fW)) (atM dC dI A am ym) A) ([.ref (am 0)] : List Value).toArray s 0 0 A) (F0 m 8 ls []) := by
    intro K
    induction K with
    | zero =>
      intro f g b H locs h1 h2 hP hD hS ls hl
      refine lv_iload_n hx hb dX1_follow_8 rfl (lv_at hl 0 rfl) ?_
      refine lv_if_eq (tgt := 79) hx hb dX1_follow_9 (by decide) (fun c1 => ?_) (fun c1 => ?_)
      · skip
        refine lv_iload_n hx hb dX1_follow_79 rfl (lv_at hl 1 rfl) ?_
        exact W.iret (v := g) hx hb hrt (fun t ht hW => ⟨⟨_, _, rfl, ⟨h2 c1, f, rfl⟩, by rw [ht]; exact hP, va_K.moved hW.alike hK, hD⟩, hS.F ht⟩) hS.2.2 dX1_follow_80
      · skip
        exact absurd (h1 c1) (fun h => nomatch h)
    | succ K ih =>
      intro f g b H locs h1 h2 hP hD hS ls hl
      refine lv_iload_n hx hb dX1_follow_8 rfl (lv_at hl 0 rfl) ?_
      refine lv_if_eq (tgt := 79) hx hb dX1_follow_9 (by decide) (fun c1 => ?_) (fun c1 => ?_)
      · skip
        refine lv_iload_n hx hb dX1_follow_79 rfl (lv_at hl 1 rfl) ?_
        exact W.iret (v := g) hx hb hrt (fun t ht hW => ⟨⟨_, _, rfl, ⟨h2 c1, f, rfl⟩, by rw [ht]; exact hP, va_K.moved hW.alike hK, hD⟩, hS.F ht⟩) hS.2.2 dX1_follow_80
      · skip
        have hq := h1 c1
        rw [fw_it] at hq
        refine lv_iconst (v := 0) hx hb dX1_follow_12 (by decide) ?_
        refine lv_istore_n (lv' := [(2, .int 0), (1, .int g), (0, .ref (am 0))]) hx hb dX1_follow_13 rfl hl (by decide) rfl (fun ls hl => ?_)
        refine lv_iconst (v := 0) hx hb dX1_follow_14 (by decide) ?_
        refine lv_istore_n (lv' := [(3, .int 0), (2, .int 0), (1, .int g), (0, .ref (am 0))]) hx hb dX1_follow_15 rfl hl (by decide) rfl (fun ls hl => ?_)
        refine inner n 0 f g 0 H locs (by omega) ?_ (fun hg => by rw [hg] at hq; exact (Option.some.inj hq).symm) hP hD hS ls (lv_sub hl [0, 1, 2, 3] rfl)
        intro f1 g1 b1 hg H locs hP hD hS ls hl
        rw [hg] at hq
        replace hq : (if b1 = 0 then some g1 else fw_it fL fN n K f1 g1) = some ans := hq
        refine lv_goto (tgt := 8) hx hb dX1_follow_76 (by decide) ?_
        exact ih f1 g1 b1 H locs (fun hb9 => by rw [if_neg hb9] at hq; exact hq) (fun hb9 => by rw [if_pos hb9] at hq; exact Option.some.inj hq) hP hD hS ls (lv_sub hl [1, 0, 2] rfl)
  refine lv_aload_n hx hb dX1_follow_0 rfl (lv_at hl 0 rfl) ?_
  have hFc := va_free (wc := MW am ym (co, ct, th, fo, sg, sz, hc, fL, fN, fD, fH, fV, fM, fW)) hD hS hA [0, 1, 2, 3, 4, 5, 6, 7] rfl
  refine va_callv (va_runV (As := []) (rest := []) ⟨hx, hb, hml, hown, hw⟩ (n_setOut l dC dI am ym s.heap.size co ct th fo sg sz hc fL fN fD fH fV fM fW d hd esz hR) (cwV 0 hw (gw_V wb_351 wb_353 wbs_11 wb_2 wb_354) rfl rfl rfl (by decide +kernel) ⟨Nat.le_of_ble_eq_true rfl, Nat.le_of_ble_eq_true rfl⟩) ⟨blind_preM, va_recv hK hP (ci := 1) (q0 := 0) rfl rfl, fun U hU hW => ⟨rfl, by rw [hU], by rw [hU]; exact hP, va_K.moved hW.alike hK, hD.weaken (fun _ _ _ _ => trivial)⟩⟩ rfl rfl hl.1 rfl (lv_room (Nat.le_of_ble_eq_true rfl)) dX1_follow_1 ⟨Nat.le_of_ble_eq_true rfl, Nat.le_of_ble_eq_true rfl⟩) hS (fun q _ h => hFc q h) hFc (fun u t H1 locs ht hvm hq hB hz1 hk1 hS => ?_)
  obtain rfl := hq
  obtain ⟨hP1, hK1, hD1⟩ := hB
  rw [ht] at hP1
  have hP : va_P (dC, dI) cls2 (MW am ym (co, ct, th, fo, sg, sz, hc, fL, fN, fD, fH, so_it fD d 0 (zv_it 17 0 fV), fM, fW)) H1 := hP1
  have hD : va_D A (MW am ym (co, ct, th, fo, sg, sz, hc, fL, fN, fD, fH, so_it fD d 0 (zv_it 17 0 fV), fM, fW)) := hD1.weaken (fun k q h _ => hFc q.1 (hD1.2 k q h))
  generalize H1 = H at hP hS ⊢
  refine lv_iconst (v := 0) hx hb dX1_follow_4 (by decide) ?_
  refine lv_istore_n (lv' := [(1, .int 0), (0, .ref (am 0))]) hx hb dX1_follow_5 rfl hl (by decide) rfl (fun ls hl => ?_)
  refine lv_iconst (v := 1) hx hb dX1_follow_6 (by decide) ?_
  refine lv_istore_n (lv' := [(2, .int 1), (1, .int 0), (0, .ref (am 0))]) hx hb dX1_follow_7 rfl hl (by decide) rfl (fun ls hl => ?_)
  exact outer K _ 0 1 H _ (fun _ => hKa) (fun h => absurd h (by decide)) hP hD hS ls hl
set_option maxHeartbeats 4000000 in
set_option maxRecDepth 100000 in
/-- told -/
theorem n_told (l : Launch) (dC : Nat → ClassId) (dI : Nat → Nat → Nat) (am : Nat → Nat) (ym : Nat → ClassId) (sz0 : Nat) (co ct th fo sg sz hc : Int32) (fL fN fD fH fV : Nat → Int32) (fM fW : Nat → Int64)  (n : Nat) (hn : n < 600) (ect : ct = nI n) (d : Nat) (hd : d ≤ 16) (esz : sz = nI d) (hR : ∀ j, j < d → rng (fD j)) (hC : cl_ok n fL fN) (K : Nat) (ans : Int32) (hKa : fw_it fL fN n K (so_it fD d 0 (zv_it 17 0 fV)) 0 = some ans) : Met l yX1_told wsX1_told (rmN 3 0 0) (va_Pc [.ref (am 0)] (preM dC dI am ym sz0 (co, ct, th, fo, sg, sz, hc, fL, fN, fD, fH, fV, fM, fW))) (va_Qi (fun (r : Int32) (u : MS) => r = ans ∧ ∃ f : Nat → Int32, u = (0, ct, th, fo, sg, sz, hc, fL, fN, fD, fH, f, fM, fW)) (atM dC dI (va_A (MW am ym (co, ct, th, fo, sg, sz, hc, fL, fN, fD, fH, fV, fM, fW)) sz0) am ym) (va_A (MW am ym (co, ct, th, fo, sg, sz, hc, fL, fN, fD, fH, fV, fM, fW)) sz0)) 0 0 (va_A (MW am ym (co, ct, th, fo, sg, sz, hc, fL, fN, fD, fH, fV, fM, fW)) sz0) := by
  refine Met.ofW (cc := cX1_told) (maxL := 1) (ret := (some .int)) (by decide) rfl ?_
  intro p e s m args below meth c s₁ B hml hv
  obtain ⟨rfl, hsz, hP, hK, hD0⟩ := hv
  have hx := B.exec
  have hb := B.bytes
  have hrt := B.returns
  have hlocks := B.notSynchronized
  have hts := atoms_spec (ws := wsX1_told) B.pre
  have hw : ∀ w ∈ WB, w.before ([.ref (am 0)] : List Value).toArray s = true := fun w h => hts w (List.mem_cons_of_mem _ h)
  have hown : s.vm.findClass "ProofBenchModel" = some m.cls := findClass_of_methodNamed B.named
  subst hsz
  have hD := hD0.self (sz := s.heap.size)
  generalize hAe : va_A (MW am ym (co, ct, th, fo, sg, sz, hc, fL, fN, fD, fH, fV, fM, fW)) s.heap.size = A at hD ⊢
  have hA : ∀ q : Nat, s.heap.size ≤ q → A q := fun q h => by rw [← hAe]; exact Or.inr h
  have hS : va_S A s.heap s.heap [] := va_S.rf
  have hP : va_P (dC, dI) cls2 (MW am ym (co, ct, th, fo, sg, sz, hc, fL, fN, fD, fH, fV, fM, fW)) s.heap := hP
  have hl := lv_entry ([.ref (am 0)]) (n := 1) (Nat.le_of_ble_eq_true rfl)
  rw [lg_entry_eq]
  generalize (lg_sl ([.ref (am 0)]) ++ List.replicate (1 - (lg_sl ([.ref (am 0)])).length) Slot.unset).toArray = ls at hl ⊢
  have hl : lv_has ls 1 [(0, .ref (am 0))] := hl
  refine lv_aload_n hx hb dX1_told_0 rfl (lv_at hl 0 rfl) ?_
  refine lv_iconst (v := 0) hx hb dX1_told_1 (by decide) ?_
  refine va_put (D := (dC, dI)) (ci := 1) (v := .int 0) (ty := .int) (C := RX1) (T := TX1) (N := 14) hx hb hw inX1 tyX1 tyX1_ok nmX1 hown hK hP hD hS 0 rfl rfl 0 (by decide) (hw _ wb_268) (fun _ h9 => h9) rfl (by decide +kernel) rfl rfl (Nat.le_of_ble_eq_true rfl) dX1_told_2 (fun H locs hP hD hS => ?_)
  have hP : va_P (dC, dI) cls2 (MW am ym (0, ct, th, fo, sg, sz, hc, fL, fN, fD, fH, fV, fM, fW)) H := hP
  have hD : va_D A (MW am ym (0, ct, th, fo, sg, sz, hc, fL, fN, fD, fH, fV, fM, fW)) := hD
  refine lv_aload_n hx hb dX1_told_5 rfl (lv_at hl 0 rfl) ?_
  have hFc := va_free (wc := MW am ym (0, ct, th, fo, sg, sz, hc, fL, fN, fD, fH, fV, fM, fW)) hD hS hA [0, 1, 2, 3, 4, 5, 6, 7] rfl
  refine va_calli (va_runV (As := []) (rest := []) ⟨hx, hb, hml, hown, hw⟩ (n_follow l dC dI am ym H.size 0 ct th fo sg sz hc fL fN fD fH fV fM fW n hn ect d hd esz hR hC K ans hKa) (cwV 0 hw (gw_V wb_347 wb_349 wbs_10 wb_2 wb_350) rfl rfl rfl (by decide +kernel) ⟨Nat.le_of_ble_eq_true rfl, Nat.le_of_ble_eq_true rfl⟩) ⟨blind_preM, va_recv hK hP (ci := 1) (q0 := 0) rfl rfl, fun U hU hW => ⟨rfl, by rw [hU], by rw [hU]; exact hP, va_K.moved hW.alike hK, hD.weaken (fun _ _ _ _ => trivial)⟩⟩ rfl rfl hl.1 rfl (lv_room (Nat.le_of_ble_eq_true rfl)) dX1_told_6 ⟨Nat.le_of_ble_eq_true rfl, Nat.le_of_ble_eq_true rfl⟩) hS (fun q _ h => hFc q h) hFc (fun r1 u t H1 locs ht hvm hq hB hz1 hk1 hS => ?_)
  obtain ⟨hr1, f1, rfl⟩ := hq
  obtain ⟨hP1, hK1, hD1⟩ := hB
  rw [ht] at hP1
  have hP : va_P (dC, dI) cls2 (MW am ym (0, ct, th, fo, sg, sz, hc, fL, fN, fD, fH, f1, fM, fW)) H1 := hP1
  have hD : va_D A (MW am ym (0, ct, th, fo, sg, sz, hc, fL, fN, fD, fH, f1, fM, fW)) := hD1.weaken (fun k q h _ => hFc q.1 (hD1.2 k q h))
  generalize H1 = H at hP hS ⊢
  exact W.iret (v := r1) hx hb hrt (fun t ht hW => ⟨⟨_, _, rfl, ⟨hr1, f1, rfl⟩, by rw [ht]; exact hP, va_K.moved hW.alike hK, hD⟩, hS.F ht⟩) hS.2.2 dX1_told_9
set_option maxHeartbeats 4000000 in
set_option maxRecDepth 100000 in
/-- step -/
theorem n_step (l : Launch) (dC : Nat → ClassId) (dI : Nat → Nat → Nat) (am : Nat → Nat) (ym : Nat → ClassId) (sz0 : Nat) (co ct th fo sg sz hc : Int32) (fL fN fD fH fV : Nat → Int32) (fM fW : Nat → Int64)  (n : Nat) (hn : n < 600) (ect : ct = nI n) (d : Nat) (hd : d ≤ 16) (esz : sz = nI d) (hR : ∀ j, j < d → rng (fD j)) (hC : cl_ok n fL fN) (K : Nat) (ans : Int32) (hKa : fw_it fL fN n K (so_it fD d 0 (zv_it 17 0 fV)) 0 = some ans) : Met l yX1_step wsX1_step (rmN 3 0 0) (va_Pc [.ref (am 0)] (preM dC dI am ym sz0 (co, ct, th, fo, sg, sz, hc, fL, fN, fD, fH, fV, fM, fW))) (va_Qi (fun (r : Int32) (u : MS) => (ans = 17 ∧ r = ct + 1 - 1 ∧ ∃ f : Nat → Int32, u = ad_S n d (0, ct, th, fo + 1, sg + (if ac_it (fun j => ti_it fD fW (nI j) d 0 0) fM 1024 0 1 = 0 then 1 else 0), sz, hc, fL, fN, fD, fH, f, fM, fW)) ∨ (¬ ans = 17 ∧ r = -1 ∧ ∃ f : Nat → Int32, u = (0, ct, th, fo, sg, sz, hc, fL, fN, fD, fH, f, fM, fW))) (atM dC dI (va_A (MW am ym (co, ct, th, fo, sg, sz, hc, fL, fN, fD, fH, fV, fM, fW)) sz0) am ym) (va_A (MW am ym (co, ct, th, fo, sg, sz, hc, fL, fN, fD, fH, fV, fM, fW)) sz0)) 0 0 (va_A (MW am ym (co, ct, th, fo, sg, sz, hc, fL, fN, fD, fH, fV, fM, fW)) sz0) := by
  refine Met.ofW (cc := cX1_step) (maxL := 1) (ret := (some .int)) (by decide) rfl ?_
  intro p e s m args below meth c s₁ B hml hv
  obtain ⟨rfl, hsz, hP, hK, hD0⟩ := hv
  have hx := B.exec
  have hb := B.bytes
  have hrt := B.returns
  have hlocks := B.notSynchronized
  have hts := atoms_spec (ws := wsX1_step) B.pre
  have hw : ∀ w ∈ WB, w.before ([.ref (am 0)] : List Value).toArray s = true := fun w h => hts w (List.mem_cons_of_mem _ h)
  have hown : s.vm.findClass "ProofBenchModel" = some m.cls := findClass_of_methodNamed B.named
  subst hsz
  have hD := hD0.self (sz := s.heap.size)
  generalize hAe : va_A (MW am ym (co, ct, th, fo, sg, sz, hc, fL, fN, fD, fH, fV, fM, fW)) s.heap.size = A at hD ⊢
  have hA : ∀ q : Nat, s.heap.size ≤ q → A q := fun q h => by rw [← hAe]; exact Or.inr h
  have hS : va_S A s.heap s.heap [] := va_S.rf
  have hP : va_P (dC, dI) cls2 (MW am ym (co, ct, th, fo, sg, sz, hc, fL, fN, fD, fH, fV, fM, fW)) s.heap := hP
  have hl := lv_entry ([.ref (am 0)]) (n := 1) (Nat.le_of_ble_eq_true rfl)
  rw [lg_entry_eq]
  generalize (lg_sl ([.ref (am 0)]) ++ List.replicate (1 - (lg_sl ([.ref (am 0)])).length) Slot.unset).toArray = ls at hl ⊢
  have hl : lv_has ls 1 [(0, .ref (am 0))] := hl
  refine lv_aload_n hx hb dX1_step_0 rfl (lv_at hl 0 rfl) ?_
  refine lv_aload_n hx hb dX1_step_1 rfl (lv_at hl 0 rfl) ?_
  refine va_get (D := (dC, dI)) (ci := 1) (v := .int ct) (C := RX1) (T := TX1) (N := 14) hx hb hw inX1 hown hK hP 0 rfl rfl 1 (by decide) (hw _ wb_269) (fun _ h9 => h9) rfl dX1_step_2 ?_
  refine lv_sipush (v := 600) hx hb dX1_step_5 (by decide) ?_
  refine lv_icmp_ne (tgt := 15) hx hb dX1_step_8 (by decide) (fun c1 => ?_) (fun c1 => ?_)
  · skip
    refine lv_iconst (v := 0) hx hb dX1_step_15 (by decide) ?_
    refine va_put (D := (dC, dI)) (ci := 1) (v := .int 0) (ty := .int) (C := RX1) (T := TX1) (N := 14) hx hb hw inX1 tyX1 tyX1_ok nmX1 hown hK hP hD hS 0 rfl rfl 0 (by decide) (hw _ wb_268) (fun _ h9 => h9) rfl (by decide +kernel) rfl rfl (Nat.le_of_ble_eq_true rfl) dX1_step_16 (fun H locs hP hD hS => ?_)
    have hP : va_P (dC, dI) cls2 (MW am ym (0, ct, th, fo, sg, sz, hc, fL, fN, fD, fH, fV, fM, fW)) H := hP
    have hD : va_D A (MW am ym (0, ct, th, fo, sg, sz, hc, fL, fN, fD, fH, fV, fM, fW)) := hD
    refine lv_aload_n hx hb dX1_step_19 rfl (lv_at hl 0 rfl) ?_
    refine va_get (D := (dC, dI)) (ci := 1) (v := .int 0) (C := RX1) (T := TX1) (N := 14) hx hb hw inX1 hown hK hP 0 rfl rfl 0 (by decide) (hw _ wb_268) (fun _ h9 => h9) rfl dX1_step_20 ?_
    refine lv_if_le (tgt := 28) hx hb dX1_step_23 (by decide) (fun c9 => ?_) (fun c9 => ?_)
    · skip
      refine lv_aload_n hx hb dX1_step_28 rfl (lv_at hl 0 rfl) ?_
      have hFc := va_free (wc := MW am ym (0, ct, th, fo, sg, sz, hc, fL, fN, fD, fH, fV, fM, fW)) hD hS hA [0, 1, 2, 3, 4, 5, 6, 7] rfl
      refine va_calli (va_runV (As := []) (rest := []) ⟨hx, hb, hml, hown, hw⟩ (n_follow l dC dI am ym H.size 0 ct th fo sg sz hc fL fN fD fH fV fM fW n hn ect d hd esz hR hC K ans hKa) (cwV 0 hw (gw_V wb_347 wb_349 wbs_10 wb_2 wb_350) rfl rfl rfl (by decide +kernel) ⟨Nat.le_of_ble_eq_true rfl, Nat.le_of_ble_eq_true rfl⟩) ⟨blind_preM, va_recv hK hP (ci := 1) (q0 := 0) rfl rfl, fun U hU hW => ⟨rfl, by rw [hU], by rw [hU]; exact hP, va_K.moved hW.alike hK, hD.weaken (fun _ _ _ _ => trivial)⟩⟩ rfl rfl hl.1 rfl (lv_room (Nat.le_of_ble_eq_true rfl)) dX1_step_29 ⟨Nat.le_of_ble_eq_true rfl, Nat.le_of_ble_eq_true rfl⟩) hS (fun q _ h => hFc q h) hFc (fun r1 u t H1 locs ht hvm hq hB hz1 hk1 hS => ?_)
      obtain ⟨hr1, f1, rfl⟩ := hq
      obtain ⟨hP1, hK1, hD1⟩ := hB
      rw [ht] at hP1
      have hP : va_P (dC, dI) cls2 (MW am ym (0, ct, th, fo, sg, sz, hc, fL, fN, fD, fH, f1, fM, fW)) H1 := hP1
      have hD : va_D A (MW am ym (0, ct, th, fo, sg, sz, hc, fL, fN, fD, fH, f1, fM, fW)) := hD1.weaken (fun k q h _ => hFc q.1 (hD1.2 k q h))
      generalize H1 = H at hP hS ⊢
      have hr1 : r1 = ans := hr1
      refine lv_bipush (v := 17) hx hb dX1_step_32 (by decide) ?_
      refine lv_icmp_ne (tgt := 44) hx hb dX1_step_34 (by decide) (fun c2 => ?_) (fun c2 => ?_)
      · skip
        refine lv_iconst (v := (-1)) hx hb dX1_step_44 (by decide) ?_
        exact W.iret (v := (-1)) hx hb hrt (fun t ht hW => ⟨⟨_, _, rfl, Or.inr ⟨fun h => c2 (hr1.trans h), rfl, f1, rfl⟩, by rw [ht]; exact hP, va_K.moved hW.alike hK, hD⟩, hS.F ht⟩) hS.2.2 dX1_step_45
      · skip
        refine lv_aload_n hx hb dX1_step_37 rfl (lv_at hl 0 rfl) ?_
        have hFc := va_free (wc := MW am ym (0, ct, th, fo, sg, sz, hc, fL, fN, fD, fH, f1, fM, fW)) hD hS hA [0, 1, 2, 3, 4, 5, 6, 7] rfl
        refine va_calli (va_runV (As := []) (rest := []) ⟨hx, hb, hml, hown, hw⟩ (n_accept l dC dI am ym H.size 0 ct th fo sg sz hc fL fN fD fH f1 fM fW n hn ect d hd esz hR) (cwV 0 hw (gw_V wb_367 wb_369 wbs_15 wb_2 wb_370) rfl rfl rfl (by decide +kernel) ⟨Nat.le_of_ble_eq_true rfl, Nat.le_of_ble_eq_true rfl⟩) ⟨blind_preM, va_recv hK hP (ci := 1) (q0 := 0) rfl rfl, fun U hU hW => ⟨rfl, by rw [hU], by rw [hU]; exact hP, va_K.moved hW.alike hK, hD.weaken (fun _ _ _ _ => trivial)⟩⟩ rfl rfl hl.1 rfl (lv_room (Nat.le_of_ble_eq_true rfl)) dX1_step_38 ⟨Nat.le_of_ble_eq_true rfl, Nat.le_of_ble_eq_true rfl⟩) hS (fun q _ h => hFc q h) hFc (fun r2 u t H1 locs ht hvm hq hB hz1 hk1 hS => ?_)
        obtain ⟨hr2, rfl⟩ := hq
        obtain ⟨hP1, hK1, hD1⟩ := hB
        rw [ht] at hP1
        have hP : va_P (dC, dI) cls2 (MW am ym (0, ct + 1, th + 1, fo + 1, sg + (if ac_it (fun j => ti_it fD fW (nI j) d 0 0) fM 1024 0 1 = 0 then 1 else 0), 0, hc, ad_it fD n d 0 fL, upd fN n sz, fD, fH, f1, fM, fW)) H1 := hP1
        have hD : va_D A (MW am ym (0, ct + 1, th + 1, fo + 1, sg + (if ac_it (fun j => ti_it fD fW (nI j) d 0 0) fM 1024 0 1 = 0 then 1 else 0), 0, hc, ad_it fD n d 0 fL, upd fN n sz, fD, fH, f1, fM, fW)) := hD1.weaken (fun k q h _ => hFc q.1 (hD1.2 k q h))
        generalize H1 = H at hP hS ⊢
        refine lv_goto (tgt := 45) hx hb dX1_step_41 (by decide) ?_
        exact W.iret (v := r2) hx hb hrt (fun t ht hW => ⟨⟨_, _, rfl, Or.inl ⟨hr1.symm.trans c2, hr2, f1, rfl⟩, by rw [ht]; exact hP, va_K.moved hW.alike hK, hD⟩, hS.F ht⟩) hS.2.2 dX1_step_45
    · skip
      exact absurd (by decide) c9
  · skip
    exact absurd ((nI_eq (a := n) (b := 600) (by omega) (by decide)).mp (by rw [← ect]; exact c1)) (by omega)
set_option maxHeartbeats 4000000 in
set_option maxRecDepth 100000 in
/-- isOver -/
theorem n_isOver (l : Launch) (dC : Nat → ClassId) (dI : Nat → Nat → Nat) (am : Nat → Nat) (ym : Nat → ClassId) (sz0 : Nat) (co ct th fo sg sz hc : Int32) (fL fN fD fH fV : Nat → Int32) (fM fW : Nat → Int64)  (n : Nat) (hn : n < 600) (ect : ct = nI n) : Met l yX1_isOver wsX1_isOver (rmN 0 0 0) (va_Pc [.ref (am 0)] (preM dC dI am ym sz0 (co, ct, th, fo, sg, sz, hc, fL, fN, fD, fH, fV, fM, fW))) (va_Qi (fun (r : Int32) (u : MS) => r = io_it fN n 0 0 ∧ u = (0, ct, th, fo, sg, sz, hc, fL, fN, fD, fH, fV, fM, fW)) (atM dC dI (va_A (MW am ym (co, ct, th, fo, sg, sz, hc, fL, fN, fD, fH, fV, fM, fW)) sz0) am ym) (va_A (MW am ym (co, ct, th, fo, sg, sz, hc, fL, fN, fD, fH, fV, fM, fW)) sz0)) 0 0 (va_A (MW am ym (co, ct, th, fo, sg, sz, hc, fL, fN, fD, fH, fV, fM, fW)) sz0) := by
  refine Met.ofW (cc := cX1_isOver) (maxL := 3) (ret := (some .boolean)) (by decide) rfl ?_
  intro p e s m args below meth c s₁ B hml hv
  obtain ⟨rfl, hsz, hP, hK, hD0⟩ := hv
  have hx := B.exec
  have hb := B.bytes
  have hrt := B.returns
  have hlocks := B.notSynchronized
  have hts := atoms_spec (ws := wsX1_isOver) B.pre
  have hw : ∀ w ∈ WB, w.before ([.ref (am 0)] : List Value).toArray s = true := fun w h => hts w (List.mem_cons_of_mem _ h)
  have hown : s.vm.findClass "ProofBenchModel" = some m.cls := findClass_of_methodNamed B.named
  subst hsz
  have hD := hD0.self (sz := s.heap.size)
  generalize hAe : va_A (MW am ym (co, ct, th, fo, sg, sz, hc, fL, fN, fD, fH, fV, fM, fW)) s.heap.size = A at hD ⊢
  have hA : ∀ q : Nat, s.heap.size ≤ q → A q := fun q h => by rw [← hAe]; exact Or.inr h
  have hS : va_S A s.heap s.heap [] := va_S.rf
  have hP : va_P (dC, dI) cls2 (MW am ym (co, ct, th, fo, sg, sz, hc, fL, fN, fD, fH, fV, fM, fW)) s.heap := hP
  have hl := lv_entry ([.ref (am 0)]) (n := 3) (Nat.le_of_ble_eq_true rfl)
  rw [lg_entry_eq]
  generalize (lg_sl ([.ref (am 0)]) ++ List.replicate (3 - (lg_sl ([.ref (am 0)])).length) Slot.unset).toArray = ls at hl ⊢
  have hl : lv_has ls 3 [(0, .ref (am 0))] := hl
  refine lv_aload_n hx hb dX1_isOver_0 rfl (lv_at hl 0 rfl) ?_
  refine lv_iconst (v := 0) hx hb dX1_isOver_1 (by decide) ?_
  refine va_put (D := (dC, dI)) (ci := 1) (v := .int 0) (ty := .int) (C := RX1) (T := TX1) (N := 14) hx hb hw inX1 tyX1 tyX1_ok nmX1 hown hK hP hD hS 0 rfl rfl 0 (by decide) (hw _ wb_268) (fun _ h9 => h9) rfl (by decide +kernel) rfl rfl (Nat.le_of_ble_eq_true rfl) dX1_isOver_2 (fun H locs hP hD hS => ?_)
  have hP : va_P (dC, dI) cls2 (MW am ym (0, ct, th, fo, sg, sz, hc, fL, fN, fD, fH, fV, fM, fW)) H := hP
  have hD : va_D A (MW am ym (0, ct, th, fo, sg, sz, hc, fL, fN, fD, fH, fV, fM, fW)) := hD
  refine lv_iconst (v := 0) hx hb dX1_isOver_5 (by decide) ?_
  refine lv_istore_n (lv' := [(1, .int 0), (0, .ref (am 0))]) hx hb dX1_isOver_6 rfl hl (by decide) rfl (fun ls hl => ?_)
  refine lv_iconst (v := 0) hx hb dX1_isOver_7 (by decide) ?_
  refine lv_istore_n (lv' := [(2, .int 0), (1, .int 0), (0, .ref (am 0))]) hx hb dX1_isOver_8 rfl hl (by decide) rfl (fun ls hl => ?_)
  have loop : ∀ (a i : Nat) (g : Int32), i + a = n → (g = 0 ∨ g = 1) → io_it fN n 0 0 = io_it fN a i g → ∀ ls, lv_has ls 3 [(2, .int (nI i)), (1, .int g), (0, .ref (am 0))] → W p l e (headSpec wsX1_isOver (rmN 0 0 0)).room s m ([.ref (am 0)] : List Value).toArray below meth c H locs 0 0 (MQ below (va_Qi (fun (r : Int32) (u : MS) => r = io_it fN n 0 0 ∧ u = (0, ct, th, fo, sg, sz, hc, fL, fN, fD, fH, fV, fM, fW)) (atM dC dI A am ym) A) ([.ref (am 0)] : List Value).toArray s 0 0 A) (F0 m 9 ls []) := by
    intro a
    induction a with
    | zero =>
      intro i g hk hg hq ls hl
      have e0 : i = n := by omega
      refine lv_iload_n hx hb dX1_isOver_9 rfl (lv_at hl 0 rfl) ?_
      refine lv_aload_n hx hb dX1_isOver_10 rfl (lv_at hl 2 rfl) ?_
      refine va_get (D := (dC, dI)) (ci := 1) (v := .int ct) (C := RX1) (T := TX1) (N := 14) hx hb hw inX1 hown hK hP 0 rfl rfl 1 (by decide) (hw _ wb_269) (fun _ h9 => h9) rfl dX1_isOver_11 ?_
      refine lv_icmp_ge (tgt := 42) hx hb dX1_isOver_14 (by decide) (fun c1 => ?_) (fun c1 => ?_)
      · skip
        refine lv_iload_n hx hb dX1_isOver_42 rfl (lv_at hl 1 rfl) ?_
        exact W.zret (v := g) hx hb hrt (n_bool hg) (fun t ht hW => ⟨⟨_, _, rfl, ⟨hq.symm, rfl⟩, by rw [ht]; exact hP, va_K.moved hW.alike hK, hD⟩, hS.F ht⟩) hS.2.2 dX1_isOver_43
      · skip
        exact absurd (by rw [ect, e0]; exact Int32.le_refl _) c1
    | succ a ih =>
      intro i g hk hg hq ls hl
      have ci : (nI i).toNatClampNeg = i := nI_clamp (by omega)
      refine lv_iload_n hx hb dX1_isOver_9 rfl (lv_at hl 0 rfl) ?_
      refine lv_aload_n hx hb dX1_isOver_10 rfl (lv_at hl 2 rfl) ?_
      refine va_get (D := (dC, dI)) (ci := 1) (v := .int ct) (C := RX1) (T := TX1) (N := 14) hx hb hw inX1 hown hK hP 0 rfl rfl 1 (by decide) (hw _ wb_269) (fun _ h9 => h9) rfl dX1_isOver_11 ?_
      refine lv_icmp_ge (tgt := 42) hx hb dX1_isOver_14 (by decide) (fun c1 => ?_) (fun c1 => ?_)
      · skip
        exact absurd (by rw [ect] at c1; exact c1) (nI_ge (by omega) (by omega))
      · skip
        refine lv_iload_n hx hb dX1_isOver_17 rfl (lv_at hl 1 rfl) ?_
        refine lv_if_ne (tgt := 30) hx hb dX1_isOver_18 (by decide) (fun c2 => ?_) (fun c2 => ?_)
        · skip
          have es : io_it fN (a + 1) i g = io_it fN a (i + 1) 1 := by rw [io_it, if_pos (Or.inl c2)]
          refine lv_iconst (v := 1) hx hb dX1_isOver_30 (by decide) ?_
          refine lv_goto (tgt := 35) hx hb dX1_isOver_31 (by decide) ?_
          refine lv_istore_n (lv' := [(1, .int 1), (2, .int (nI i)), (0, .ref (am 0))]) hx hb dX1_isOver_35 rfl hl (by decide) rfl (fun ls hl => ?_)
          refine lv_iinc (v := (nI i) + 1) (lv' := [(2, .int ((nI i) + 1)), (1, .int 1), (0, .ref (am 0))]) hx hb dX1_isOver_36 hl (k := 1) rfl rfl (by decide) rfl (fun ls hl => ?_)
          refine lv_goto (tgt := 9) hx hb dX1_isOver_39 (by decide) ?_
          rw [nI_1] at hl
          exact ih (i + 1) 1 (by omega) (Or.inr rfl) (hq.trans es) ls (lv_sub hl [0, 1, 2] rfl)
        · skip
          refine lv_aload_n hx hb dX1_isOver_21 rfl (lv_at hl 2 rfl) ?_
          refine va_get (D := (dC, dI)) (ci := 1) (v := .ref (am 2)) (C := RX1) (T := TX1) (N := 14) hx hb hw inX1 hown hK hP 0 rfl rfl 6 (by decide) (hw _ wb_274) (fun _ h9 => h9) rfl dX1_isOver_22 ?_
          refine lv_iload_n hx hb dX1_isOver_25 rfl (lv_at hl 0 rfl) ?_
          refine va_iald hx hb hK hP 2 1 rfl rfl (vp_in_nI (by omega) (by decide)) dX1_isOver_26 ?_
          rw [ci]
          refine lv_if_ne (tgt := 34) hx hb dX1_isOver_27 (by decide) (fun c3 => ?_) (fun c3 => ?_)
          · skip
            have es : io_it fN (a + 1) i g = io_it fN a (i + 1) 0 := by rw [io_it, if_neg (fun h => h.elim (fun h => h c2) c3)]
            refine lv_iconst (v := 0) hx hb dX1_isOver_34 (by decide) ?_
            refine lv_istore_n (lv' := [(1, .int 0), (2, .int (nI i)), (0, .ref (am 0))]) hx hb dX1_isOver_35 rfl hl (by decide) rfl (fun ls hl => ?_)
            refine lv_iinc (v := (nI i) + 1) (lv' := [(2, .int ((nI i) + 1)), (1, .int 0), (0, .ref (am 0))]) hx hb dX1_isOver_36 hl (k := 1) rfl rfl (by decide) rfl (fun ls hl => ?_)
            refine lv_goto (tgt := 9) hx hb dX1_isOver_39 (by decide) ?_
            rw [nI_1] at hl
            exact ih (i + 1) 0 (by omega) (Or.inl rfl) (hq.trans es) ls (lv_sub hl [0, 1, 2] rfl)
          · skip
            have es : io_it fN (a + 1) i g = io_it fN a (i + 1) 1 := by rw [io_it, if_pos (Or.inr c3)]
            refine lv_iconst (v := 1) hx hb dX1_isOver_30 (by decide) ?_
            refine lv_goto (tgt := 35) hx hb dX1_isOver_31 (by decide) ?_
            refine lv_istore_n (lv' := [(1, .int 1), (2, .int (nI i)), (0, .ref (am 0))]) hx hb dX1_isOver_35 rfl hl (by decide) rfl (fun ls hl => ?_)
            refine lv_iinc (v := (nI i) + 1) (lv' := [(2, .int ((nI i) + 1)), (1, .int 1), (0, .ref (am 0))]) hx hb dX1_isOver_36 hl (k := 1) rfl rfl (by decide) rfl (fun ls hl => ?_)
            refine lv_goto (tgt := 9) hx hb dX1_isOver_39 (by decide) ?_
            rw [nI_1] at hl
            exact ih (i + 1) 1 (by omega) (Or.inr rfl) (hq.trans es) ls (lv_sub hl [0, 1, 2] rfl)
  exact loop n 0 0 (by omega) (Or.inl rfl) rfl ls hl
set_option maxHeartbeats 4000000 in
set_option maxRecDepth 100000 in
/-- along -/
theorem n_along (l : Launch) (dC : Nat → ClassId) (dI : Nat → Nat → Nat) (am : Nat → Nat) (ym : Nat → ClassId) (sz0 : Nat) (co ct th fo sg sz hc : Int32) (fL fN fD fH fV : Nat → Int32) (fM fW : Nat → Int64)  (n : Nat) (hn : n < 600) (ect : ct = nI n) (d : Nat) (hd : d ≤ 16) (esz : sz = nI d) (hR : ∀ j, j < d → rng (fD j)) (hC : cl_ok n fL fN) (q : Nat) (ehc : hc = nI q) (hq40 : q ≤ 40) : Met l yX1_along wsX1_along (rmN 3 0 0) (va_Pc [.ref (am 0)] (preM dC dI am ym sz0 (co, ct, th, fo, sg, sz, hc, fL, fN, fD, fH, fV, fM, fW))) (va_Qi (fun (r : Int32) (u : MS) => (al_it ct hc fL fN fH q 0 (so_it fD d 0 (zv_it 17 0 fV)) = none ∧ r = ct + 1 - 1 ∧ ∃ f : Nat → Int32, u = ad_S n d (0, ct, th, fo + 1, sg + (if ac_it (fun j => ti_it fD fW (nI j) d 0 0) fM 1024 0 1 = 0 then 1 else 0), sz, 0, fL, fN, fD, fH, f, fM, fW)) ∨ (∃ ans : Int32, al_it ct hc fL fN fH q 0 (so_it fD d 0 (zv_it 17 0 fV)) = some ans ∧ r = ans ∧ ∃ f : Nat → Int32, u = (0, ct, th, fo, sg, sz, hc, fL, fN, fD, fH, f, fM, fW))) (atM dC dI (va_A (MW am ym (co, ct, th, fo, sg, sz, hc, fL, fN, fD, fH, fV, fM, fW)) sz0) am ym) (va_A (MW am ym (co, ct, th, fo, sg, sz, hc, fL, fN, fD, fH, fV, fM, fW)) sz0)) 0 0 (va_A (MW am ym (co, ct, th, fo, sg, sz, hc, fL, fN, fD, fH, fV, fM, fW)) sz0) := by
  refine Met.ofW (cc := cX1_along) (maxL := 3) (ret := (some .int)) (by decide) rfl ?_
  intro p e s m args below meth c s₁ B hml hv
  obtain ⟨rfl, hsz, hP, hK, hD0⟩ := hv
  have hx := B.exec
  have hb := B.bytes
  have hrt := B.returns
  have hlocks := B.notSynchronized
  have hts := atoms_spec (ws := wsX1_along) B.pre
  have hw : ∀ w ∈ WB, w.before ([.ref (am 0)] : List Value).toArray s = true := fun w h => hts w (List.mem_cons_of_mem _ h)
  have hown : s.vm.findClass "ProofBenchModel" = some m.cls := findClass_of_methodNamed B.named
  subst hsz
  have hD := hD0.self (sz := s.heap.size)
  generalize hAe : va_A (MW am ym (co, ct, th, fo, sg, sz, hc, fL, fN, fD, fH, fV, fM, fW)) s.heap.size = A at hD ⊢
  have hA : ∀ q : Nat, s.heap.size ≤ q → A q := fun q h => by rw [← hAe]; exact Or.inr h
  have hS : va_S A s.heap s.heap [] := va_S.rf
  have hP : va_P (dC, dI) cls2 (MW am ym (co, ct, th, fo, sg, sz, hc, fL, fN, fD, fH, fV, fM, fW)) s.heap := hP
  have hl := lv_entry ([.ref (am 0)]) (n := 3) (Nat.le_of_ble_eq_true rfl)
  rw [lg_entry_eq]
  generalize (lg_sl ([.ref (am 0)]) ++ List.replicate (3 - (lg_sl ([.ref (am 0)])).length) Slot.unset).toArray = ls at hl ⊢
  have hl : lv_has ls 3 [(0, .ref (am 0))] := hl
  have loop : ∀ (a i : Nat) (f : Nat → Int32) (H : Heap) (locs : List Loc), i + a = q → al_it ct hc fL fN fH q 0 (so_it fD d 0 (zv_it 17 0 fV)) = al_it ct hc fL fN fH a i f → va_P (dC, dI) cls2 (MW am ym (0, ct, th, fo, sg, sz, hc, fL, fN, fD, fH, f, fM, fW)) H → va_D A (MW am ym (0, ct, th, fo, sg, sz, hc, fL, fN, fD, fH, f, fM, fW)) → va_S A s.heap H locs → ∀ ls, lv_has ls 3 [(1, .int (nI i)), (0, .ref (am 0))] → W p l e (headSpec wsX1_along (rmN 3 0 0)).room s m ([.ref (am 0)] : List Value).toArray below meth c H locs 0 0 (MQ below (va_Qi (fun (r : Int32) (u : MS) => (al_it ct hc fL fN fH q 0 (so_it fD d 0 (zv_it 17 0 fV)) = none ∧ r = ct + 1 - 1 ∧ ∃ f : Nat → Int32, u = ad_S n d (0, ct, th, fo + 1, sg + (if ac_it (fun j => ti_it fD fW (nI j) d 0 0) fM 1024 0 1 = 0 then 1 else 0), sz, 0, fL, fN, fD, fH, f, fM, fW)) ∨ (∃ ans : Int32, al_it ct hc fL fN fH q 0 (so_it fD d 0 (zv_it 17 0 fV)) = some ans ∧ r = ans ∧ ∃ f : Nat → Int32, u = (0, ct, th, fo, sg, sz, hc, fL, fN, fD, fH, f, fM, fW))) (atM dC dI A am ym) A) ([.ref (am 0)] : List Value).toArray s 0 0 A) (F0 m 34 ls []) := by
    intro a
    induction a with
    | zero =>
      intro i f H locs hk hq hP hD hS ls hl
      have e0 : i = q := by omega
      refine lv_iload_n hx hb dX1_along_34 rfl (lv_at hl 0 rfl) ?_
      refine lv_aload_n hx hb dX1_along_35 rfl (lv_at hl 1 rfl) ?_
      refine va_get (D := (dC, dI)) (ci := 1) (v := .int hc) (C := RX1) (T := TX1) (N := 14) hx hb hw inX1 hown hK hP 0 rfl rfl 9 (by decide) (hw _ wb_277) (fun _ h9 => h9) rfl dX1_along_36 ?_
      refine lv_icmp_ge (tgt := 121) hx hb dX1_along_39 (by decide) (fun c1 => ?_) (fun c1 => ?_)
      · skip
        refine lv_iconst (v := (-1)) hx hb dX1_along_121 (by decide) ?_
        refine lv_aload_n hx hb dX1_along_122 rfl (lv_at hl 1 rfl) ?_
        refine va_get (D := (dC, dI)) (ci := 1) (v := .int hc) (C := RX1) (T := TX1) (N := 14) hx hb hw inX1 hown hK hP 0 rfl rfl 9 (by decide) (hw _ wb_277) (fun _ h9 => h9) rfl dX1_along_123 ?_
        refine lv_isub hx hb dX1_along_126 ?_
        exact W.iret (v := (-1) - hc) hx hb hrt (fun t ht hW => ⟨⟨_, _, rfl, Or.inr ⟨_, hq, rfl, f, rfl⟩, by rw [ht]; exact hP, va_K.moved hW.alike hK, hD⟩, hS.F ht⟩) hS.2.2 dX1_along_127
      · skip
        exact absurd (by rw [ehc, e0]; exact Int32.le_refl _) c1
    | succ a ih =>
      intro i f H locs hk hq hP hD hS ls hl
      have ci : (nI i).toNatClampNeg = i := nI_clamp (by omega)
      have hin : vp_in (nI i) 40 := vp_in_nI (by omega) (by decide)
      rw [al_it] at hq
      refine lv_iload_n hx hb dX1_along_34 rfl (lv_at hl 0 rfl) ?_
      refine lv_aload_n hx hb dX1_along_35 rfl (lv_at hl 1 rfl) ?_
      refine va_get (D := (dC, dI)) (ci := 1) (v := .int hc) (C := RX1) (T := TX1) (N := 14) hx hb hw inX1 hown hK hP 0 rfl rfl 9 (by decide) (hw _ wb_277) (fun _ h9 => h9) rfl dX1_along_36 ?_
      refine lv_icmp_ge (tgt := 121) hx hb dX1_along_39 (by decide) (fun c1 => ?_) (fun c1 => ?_)
      · skip
        exact absurd (by rw [ehc] at c1; exact c1) (nI_ge (by omega) (by omega))
      · skip
        refine lv_aload_n hx hb dX1_along_42 rfl (lv_at hl 1 rfl) ?_
        refine lv_aload_n hx hb dX1_along_43 rfl (lv_at hl 1 rfl) ?_
        refine va_get (D := (dC, dI)) (ci := 1) (v := .ref (am 4)) (C := RX1) (T := TX1) (N := 14) hx hb hw inX1 hown hK hP 0 rfl rfl 10 (by decide) (hw _ wb_278) (fun _ h9 => h9) rfl dX1_along_44 ?_
        refine lv_iload_n hx hb dX1_along_47 rfl (lv_at hl 0 rfl) ?_
        refine va_iald hx hb hK hP 4 3 rfl rfl hin dX1_along_48 ?_
        rw [ci]
        refine vp_callSi (W.runV (As := [.int (fH i)]) (rest := []) ⟨hx, hb, hml, hown, hw⟩ (n_isThere l dC dI am ym 0 ct th fo sg sz hc fL fN fD fH f fM fW (fH i) n (Nat.le_of_lt hn) ect) (cwV 1 hw (gw_V wb_375 wb_377 wbs_16 wb_2 wb_378) rfl rfl rfl (by decide +kernel) ⟨Nat.le_of_ble_eq_true rfl, Nat.le_of_ble_eq_true rfl⟩) ⟨blind_rdM, va_recv hK hP (ci := 1) (q0 := 0) rfl rfl, fun U hU hW => ⟨rfl, by rw [hU]; exact hP, va_K.moved hW.alike hK⟩⟩ rfl rfl hl.1 rfl (lv_room (Nat.le_of_ble_eq_true rfl)) dX1_along_49 ⟨Nat.le_of_ble_eq_true rfl, Nat.le_of_ble_eq_true rfl⟩) (fun r1 hr1 => ?_)
        subst hr1
        refine lv_if_eq (tgt := 68) hx hb dX1_along_52 (by decide) (fun c2 => ?_) (fun c2 => ?_)
        · skip
          have es : al_said ct fL fN fH f i = 0 := by rw [al_said, if_pos c2]
          rw [es, if_neg (fun h => absurd h.1 (by decide)), if_pos (Or.inl rfl)] at hq
          refine lv_iconst (v := 0) hx hb dX1_along_68 (by decide) ?_
          refine lv_istore_n (lv' := [(2, .int 0), (1, .int (nI i)), (0, .ref (am 0))]) hx hb dX1_along_69 rfl hl (by decide) rfl (fun ls hl => ?_)
          refine lv_iload_n hx hb dX1_along_70 rfl (lv_at hl 0 rfl) ?_
          refine lv_bipush (v := 17) hx hb dX1_along_71 (by decide) ?_
          refine lv_icmp_ne (tgt := 96) hx hb dX1_along_73 (by decide) (fun c3 => ?_) (fun c3 => ?_)
          · skip
            refine lv_iload_n hx hb dX1_along_96 rfl (lv_at hl 0 rfl) ?_
            refine lv_if_eq (tgt := 106) hx hb dX1_along_97 (by decide) (fun c4 => ?_) (fun c4 => ?_)
            · skip
              refine lv_iconst (v := (-1)) hx hb dX1_along_106 (by decide) ?_
              refine lv_iload_n hx hb dX1_along_107 rfl (lv_at hl 1 rfl) ?_
              refine lv_isub hx hb dX1_along_108 ?_
              exact W.iret (v := (-1) - (nI i)) hx hb hrt (fun t ht hW => ⟨⟨_, _, rfl, Or.inr ⟨_, hq, rfl, f, rfl⟩, by rw [ht]; exact hP, va_K.moved hW.alike hK, hD⟩, hS.F ht⟩) hS.2.2 dX1_along_109
            · skip
              exact absurd rfl c4
          · skip
            exact absurd c3 (by decide)
        · skip
          obtain ⟨c9, hc9, e9, k9, n9⟩ := mt_ix ect (by omega) c2
          obtain ⟨z, hz, ez, cz, hr⟩ := cl_get hC hc9 n9
          have es : al_said ct fL fN fH f i = sy_of fL fN f c9 := by rw [al_said, if_neg c2, k9]
          rw [es] at hq
          refine lv_aload_n hx hb dX1_along_55 rfl (lv_at hl 1 rfl) ?_
          refine lv_aload_n hx hb dX1_along_56 rfl (lv_at hl 1 rfl) ?_
          refine va_get (D := (dC, dI)) (ci := 1) (v := .ref (am 4)) (C := RX1) (T := TX1) (N := 14) hx hb hw inX1 hown hK hP 0 rfl rfl 10 (by decide) (hw _ wb_278) (fun _ h9 => h9) rfl dX1_along_57 ?_
          refine lv_iload_n hx hb dX1_along_60 rfl (lv_at hl 0 rfl) ?_
          refine va_iald hx hb hK hP 4 3 rfl rfl hin dX1_along_61 ?_
          rw [ci]
          refine vp_callSi (W.runV (As := [.int (fH i)]) (rest := []) ⟨hx, hb, hml, hown, hw⟩ (n_says l dC dI am ym 0 ct th fo sg sz hc fL fN fD fH f fM fW (fH i) c9 (by omega) e9 z hz ez hr) (cwV 1 hw (gw_V wb_359 wb_361 wbs_13 wb_2 wb_362) rfl rfl rfl (by decide +kernel) ⟨Nat.le_of_ble_eq_true rfl, Nat.le_of_ble_eq_true rfl⟩) ⟨blind_rdM, va_recv hK hP (ci := 1) (q0 := 0) rfl rfl, fun U hU hW => ⟨rfl, by rw [hU]; exact hP, va_K.moved hW.alike hK⟩⟩ rfl rfl hl.1 rfl (lv_room (Nat.le_of_ble_eq_true rfl)) dX1_along_62 ⟨Nat.le_of_ble_eq_true rfl, Nat.le_of_ble_eq_true rfl⟩) (fun r2 hr2 => ?_)
          have hr2 : r2 = sy_of fL fN f c9 := by rw [hr2, sy_of, cz]
          subst hr2
          refine lv_goto (tgt := 69) hx hb dX1_along_65 (by decide) ?_
          refine lv_istore_n (lv' := [(2, .int (sy_of fL fN f c9)), (1, .int (nI i)), (0, .ref (am 0))]) hx hb dX1_along_69 rfl hl (by decide) rfl (fun ls hl => ?_)
          refine lv_iload_n hx hb dX1_along_70 rfl (lv_at hl 0 rfl) ?_
          refine lv_bipush (v := 17) hx hb dX1_along_71 (by decide) ?_
          refine lv_icmp_ne (tgt := 96) hx hb dX1_along_73 (by decide) (fun c3 => ?_) (fun c3 => ?_)
          · skip
            rw [if_neg (fun h => c3 h.1)] at hq
            refine lv_iload_n hx hb dX1_along_96 rfl (lv_at hl 0 rfl) ?_
            refine lv_if_eq (tgt := 106) hx hb dX1_along_97 (by decide) (fun c4 => ?_) (fun c4 => ?_)
            · skip
              rw [if_pos (Or.inl c4)] at hq
              refine lv_iconst (v := (-1)) hx hb dX1_along_106 (by decide) ?_
              refine lv_iload_n hx hb dX1_along_107 rfl (lv_at hl 1 rfl) ?_
              refine lv_isub hx hb dX1_along_108 ?_
              exact W.iret (v := (-1) - (nI i)) hx hb hrt (fun t ht hW => ⟨⟨_, _, rfl, Or.inr ⟨_, hq, rfl, f, rfl⟩, by rw [ht]; exact hP, va_K.moved hW.alike hK, hD⟩, hS.F ht⟩) hS.2.2 dX1_along_109
            · skip
              rw [if_neg (fun h => h.elim c4 c3)] at hq
              have hr9 := sy_of_rng (fV := f) hC hc9 n9 c3
              refine lv_iload_n hx hb dX1_along_100 rfl (lv_at hl 0 rfl) ?_
              refine lv_bipush (v := 17) hx hb dX1_along_101 (by decide) ?_
              refine lv_icmp_ne (tgt := 110) hx hb dX1_along_103 (by decide) (fun c5 => ?_) (fun c5 => ?_)
              · skip
                refine lv_aload_n hx hb dX1_along_110 rfl (lv_at hl 2 rfl) ?_
                refine lv_iload_n hx hb dX1_along_111 rfl (lv_at hl 0 rfl) ?_
                have hFc := va_free (wc := MW am ym (0, ct, th, fo, sg, sz, hc, fL, fN, fD, fH, f, fM, fW)) hD hS hA [0, 1, 2, 3, 4, 5, 6, 7] rfl
                refine va_callv (va_runV (As := [.int (sy_of fL fN f c9)]) (rest := []) ⟨hx, hb, hml, hown, hw⟩ (n_tell l dC dI am ym H.size 0 ct th fo sg sz hc fL fN fD fH f fM fW (sy_of fL fN f c9) hr9.1 hr9.2) (cwV 1 hw (gw_V wb_355 wb_357 wbs_12 wb_2 wb_358) rfl rfl rfl (by decide +kernel) ⟨Nat.le_of_ble_eq_true rfl, Nat.le_of_ble_eq_true rfl⟩) ⟨blind_preM, va_recv hK hP (ci := 1) (q0 := 0) rfl rfl, fun U hU hW => ⟨rfl, by rw [hU], by rw [hU]; exact hP, va_K.moved hW.alike hK, hD.weaken (fun _ _ _ _ => trivial)⟩⟩ rfl rfl hl.1 rfl (lv_room (Nat.le_of_ble_eq_true rfl)) dX1_along_112 ⟨Nat.le_of_ble_eq_true rfl, Nat.le_of_ble_eq_true rfl⟩) hS (fun q _ h => hFc q h) hFc (fun u t H1 locs ht hvm hq hB hz1 hk1 hS => ?_)
                obtain rfl := hq
                obtain ⟨hP1, hK1, hD1⟩ := hB
                rw [ht] at hP1
                have hP : va_P (dC, dI) cls2 (MW am ym (0, ct, th, fo, sg, sz, hc, fL, fN, fD, fH, tell_v f (sy_of fL fN f c9), fM, fW)) H1 := hP1
                have hD : va_D A (MW am ym (0, ct, th, fo, sg, sz, hc, fL, fN, fD, fH, tell_v f (sy_of fL fN f c9), fM, fW)) := hD1.weaken (fun k q h _ => hFc q.1 (hD1.2 k q h))
                generalize H1 = H at hP hS ⊢
                refine lv_iinc (v := (nI i) + 1) (lv' := [(1, .int ((nI i) + 1)), (2, .int (sy_of fL fN f c9)), (0, .ref (am 0))]) hx hb dX1_along_115 hl (k := 1) rfl rfl (by decide) rfl (fun ls hl => ?_)
                refine lv_goto (tgt := 34) hx hb dX1_along_118 (by decide) ?_
                rw [nI_1] at hl
                exact ih (i + 1) _ H _ (by omega) hq hP hD hS ls (lv_sub hl [0, 2] rfl)
              · skip
                exact absurd c5 c3
          · skip
            refine lv_iload_n hx hb dX1_along_76 rfl (lv_at hl 1 rfl) ?_
            refine lv_aload_n hx hb dX1_along_77 rfl (lv_at hl 2 rfl) ?_
            refine va_get (D := (dC, dI)) (ci := 1) (v := .int hc) (C := RX1) (T := TX1) (N := 14) hx hb hw inX1 hown hK hP 0 rfl rfl 9 (by decide) (hw _ wb_277) (fun _ h9 => h9) rfl dX1_along_78 ?_
            refine lv_iconst (v := 1) hx hb dX1_along_81 (by decide) ?_
            refine lv_isub hx hb dX1_along_82 ?_
            refine lv_icmp_ne (tgt := 96) hx hb dX1_along_83 (by decide) (fun c4 => ?_) (fun c4 => ?_)
            · skip
              have a0 : ¬ a = 0 := fun h => c4 (by rw [ehc, show q = i + 1 by omega]; exact (nI_pred i).symm)
              rw [if_neg (fun h => a0 h.2), if_pos (Or.inr c3)] at hq
              refine lv_iload_n hx hb dX1_along_96 rfl (lv_at hl 0 rfl) ?_
              refine lv_if_eq (tgt := 106) hx hb dX1_along_97 (by decide) (fun c5 => ?_) (fun c5 => ?_)
              · skip
                exact absurd (c3.symm.trans c5) (by decide)
              · skip
                refine lv_iload_n hx hb dX1_along_100 rfl (lv_at hl 0 rfl) ?_
                refine lv_bipush (v := 17) hx hb dX1_along_101 (by decide) ?_
                refine lv_icmp_ne (tgt := 110) hx hb dX1_along_103 (by decide) (fun c6 => ?_) (fun c6 => ?_)
                · skip
                  exact absurd c3 c6
                · skip
                  refine lv_iconst (v := (-1)) hx hb dX1_along_106 (by decide) ?_
                  refine lv_iload_n hx hb dX1_along_107 rfl (lv_at hl 1 rfl) ?_
                  refine lv_isub hx hb dX1_along_108 ?_
                  exact W.iret (v := (-1) - (nI i)) hx hb hrt (fun t ht hW => ⟨⟨_, _, rfl, Or.inr ⟨_, hq, rfl, f, rfl⟩, by rw [ht]; exact hP, va_K.moved hW.alike hK, hD⟩, hS.F ht⟩) hS.2.2 dX1_along_109
            · skip
              have a0 : a = 0 := by
                have h9 : nI i = nI (q - 1) := by rw [c4, ehc]; exact (by rw [show q = (q - 1) + 1 by omega]; exact nI_pred _)
                have h8 := (nI_eq (by omega) (by omega)).mp h9
                omega
              rw [if_pos ⟨c3, a0⟩] at hq
              refine lv_aload_n hx hb dX1_along_86 rfl (lv_at hl 2 rfl) ?_
              refine lv_iconst (v := 0) hx hb dX1_along_87 (by decide) ?_
              refine va_put (D := (dC, dI)) (ci := 1) (v := .int 0) (ty := .int) (C := RX1) (T := TX1) (N := 14) hx hb hw inX1 tyX1 tyX1_ok nmX1 hown hK hP hD hS 0 rfl rfl 9 (by decide) (hw _ wb_277) (fun _ h9 => h9) rfl (by decide +kernel) rfl rfl (Nat.le_of_ble_eq_true rfl) dX1_along_88 (fun H locs hP hD hS => ?_)
              have hP : va_P (dC, dI) cls2 (MW am ym (0, ct, th, fo, sg, sz, 0, fL, fN, fD, fH, f, fM, fW)) H := hP
              have hD : va_D A (MW am ym (0, ct, th, fo, sg, sz, 0, fL, fN, fD, fH, f, fM, fW)) := hD
              refine lv_aload_n hx hb dX1_along_91 rfl (lv_at hl 2 rfl) ?_
              have hFc := va_free (wc := MW am ym (0, ct, th, fo, sg, sz, 0, fL, fN, fD, fH, f, fM, fW)) hD hS hA [0, 1, 2, 3, 4, 5, 6, 7] rfl
              refine va_calli (va_runV (As := []) (rest := []) ⟨hx, hb, hml, hown, hw⟩ (n_accept l dC dI am ym H.size 0 ct th fo sg sz 0 fL fN fD fH f fM fW n hn ect d hd esz hR) (cwV 0 hw (gw_V wb_367 wb_369 wbs_15 wb_2 wb_370) rfl rfl rfl (by decide +kernel) ⟨Nat.le_of_ble_eq_true rfl, Nat.le_of_ble_eq_true rfl⟩) ⟨blind_preM, va_recv hK hP (ci := 1) (q0 := 0) rfl rfl, fun U hU hW => ⟨rfl, by rw [hU], by rw [hU]; exact hP, va_K.moved hW.alike hK, hD.weaken (fun _ _ _ _ => trivial)⟩⟩ rfl rfl hl.1 rfl (lv_room (Nat.le_of_ble_eq_true rfl)) dX1_along_92 ⟨Nat.le_of_ble_eq_true rfl, Nat.le_of_ble_eq_true rfl⟩) hS (fun q _ h => hFc q h) hFc (fun r3 u t H1 locs ht hvm hq hB hz1 hk1 hS => ?_)
              obtain ⟨hr3, rfl⟩ := hq
              obtain ⟨hP1, hK1, hD1⟩ := hB
              rw [ht] at hP1
              have hP : va_P (dC, dI) cls2 (MW am ym (0, ct + 1, th + 1, fo + 1, sg + (if ac_it (fun j => ti_it fD fW (nI j) d 0 0) fM 1024 0 1 = 0 then 1 else 0), 0, 0, ad_it fD n d 0 fL, upd fN n sz, fD, fH, f, fM, fW)) H1 := hP1
              have hD : va_D A (MW am ym (0, ct + 1, th + 1, fo + 1, sg + (if ac_it (fun j => ti_it fD fW (nI j) d 0 0) fM 1024 0 1 = 0 then 1 else 0), 0, 0, ad_it fD n d 0 fL, upd fN n sz, fD, fH, f, fM, fW)) := hD1.weaken (fun k q h _ => hFc q.1 (hD1.2 k q h))
              generalize H1 = H at hP hS ⊢
              exact W.iret (v := r3) hx hb hrt (fun t ht hW => ⟨⟨_, _, rfl, Or.inl ⟨hq, hr3, f, rfl⟩, by rw [ht]; exact hP, va_K.moved hW.alike hK, hD⟩, hS.F ht⟩) hS.2.2 dX1_along_95
  refine lv_aload_n hx hb dX1_along_0 rfl (lv_at hl 0 rfl) ?_
  refine lv_aload_n hx hb dX1_along_1 rfl (lv_at hl 0 rfl) ?_
  refine va_get (D := (dC, dI)) (ci := 1) (v := .int ct) (C := RX1) (T := TX1) (N := 14) hx hb hw inX1 hown hK hP 0 rfl rfl 1 (by decide) (hw _ wb_269) (fun _ h9 => h9) rfl dX1_along_2 ?_
  refine lv_sipush (v := 600) hx hb dX1_along_5 (by decide) ?_
  refine lv_icmp_ne (tgt := 15) hx hb dX1_along_8 (by decide) (fun c1 => ?_) (fun c1 => ?_)
  · skip
    refine lv_iconst (v := 0) hx hb dX1_along_15 (by decide) ?_
    refine va_put (D := (dC, dI)) (ci := 1) (v := .int 0) (ty := .int) (C := RX1) (T := TX1) (N := 14) hx hb hw inX1 tyX1 tyX1_ok nmX1 hown hK hP hD hS 0 rfl rfl 0 (by decide) (hw _ wb_268) (fun _ h9 => h9) rfl (by decide +kernel) rfl rfl (Nat.le_of_ble_eq_true rfl) dX1_along_16 (fun H locs hP hD hS => ?_)
    have hP : va_P (dC, dI) cls2 (MW am ym (0, ct, th, fo, sg, sz, hc, fL, fN, fD, fH, fV, fM, fW)) H := hP
    have hD : va_D A (MW am ym (0, ct, th, fo, sg, sz, hc, fL, fN, fD, fH, fV, fM, fW)) := hD
    refine lv_aload_n hx hb dX1_along_19 rfl (lv_at hl 0 rfl) ?_
    refine va_get (D := (dC, dI)) (ci := 1) (v := .int 0) (C := RX1) (T := TX1) (N := 14) hx hb hw inX1 hown hK hP 0 rfl rfl 0 (by decide) (hw _ wb_268) (fun _ h9 => h9) rfl dX1_along_20 ?_
    refine lv_if_le (tgt := 28) hx hb dX1_along_23 (by decide) (fun c9 => ?_) (fun c9 => ?_)
    · skip
      refine lv_aload_n hx hb dX1_along_28 rfl (lv_at hl 0 rfl) ?_
      have hFc := va_free (wc := MW am ym (0, ct, th, fo, sg, sz, hc, fL, fN, fD, fH, fV, fM, fW)) hD hS hA [0, 1, 2, 3, 4, 5, 6, 7] rfl
      refine va_callv (va_runV (As := []) (rest := []) ⟨hx, hb, hml, hown, hw⟩ (n_setOut l dC dI am ym H.size 0 ct th fo sg sz hc fL fN fD fH fV fM fW d hd esz hR) (cwV 0 hw (gw_V wb_351 wb_353 wbs_11 wb_2 wb_354) rfl rfl rfl (by decide +kernel) ⟨Nat.le_of_ble_eq_true rfl, Nat.le_of_ble_eq_true rfl⟩) ⟨blind_preM, va_recv hK hP (ci := 1) (q0 := 0) rfl rfl, fun U hU hW => ⟨rfl, by rw [hU], by rw [hU]; exact hP, va_K.moved hW.alike hK, hD.weaken (fun _ _ _ _ => trivial)⟩⟩ rfl rfl hl.1 rfl (lv_room (Nat.le_of_ble_eq_true rfl)) dX1_along_29 ⟨Nat.le_of_ble_eq_true rfl, Nat.le_of_ble_eq_true rfl⟩) hS (fun q _ h => hFc q h) hFc (fun u t H1 locs ht hvm hq hB hz1 hk1 hS => ?_)
      obtain rfl := hq
      obtain ⟨hP1, hK1, hD1⟩ := hB
      rw [ht] at hP1
      have hP : va_P (dC, dI) cls2 (MW am ym (0, ct, th, fo, sg, sz, hc, fL, fN, fD, fH, so_it fD d 0 (zv_it 17 0 fV), fM, fW)) H1 := hP1
      have hD : va_D A (MW am ym (0, ct, th, fo, sg, sz, hc, fL, fN, fD, fH, so_it fD d 0 (zv_it 17 0 fV), fM, fW)) := hD1.weaken (fun k q h _ => hFc q.1 (hD1.2 k q h))
      generalize H1 = H at hP hS ⊢
      refine lv_iconst (v := 0) hx hb dX1_along_32 (by decide) ?_
      refine lv_istore_n (lv' := [(1, .int 0), (0, .ref (am 0))]) hx hb dX1_along_33 rfl hl (by decide) rfl (fun ls hl => ?_)
      exact loop q 0 _ H _ (by omega) rfl hP hD hS ls hl
    · skip
      exact absurd (by decide) c9
  · skip
    exact absurd ((nI_eq (a := n) (b := 600) (by omega) (by decide)).mp (by rw [← ect]; exact c1)) (by omega)
end
section
/-! the two constructors -/
def lw_in (v : Nat) : Nat → Nat → (Nat → Int64) → Nat → Int64
  | 0, _, f => f
  | a + 1, k, f => lw_in v a (k + 1) (vp_updL f v (f v ||| (((nI k >>> ((nI v - 1) &&& 31)) &&& 1).toInt64 <<< ((nI k).toInt64 &&& 63))))
def lw_out : Nat → Nat → (Nat → Int64) → Nat → Int64
  | 0, _, f => f
  | a + 1, v, f => lw_out a (v + 1) (lw_in v 64 0 f)
def mo_it : Nat → Nat → (Nat → Int64) → Nat → Int64
  | 0, _, f => f
  | a + 1, i, f => mo_it a (i + 1) (vp_updL f i (-1))
set_option maxHeartbeats 600000 in
set_option maxRecDepth 100000 in
/-- m_init -/
theorem m_init (l : Launch) (dC : Nat → ClassId) (dI : Nat → Nat → Nat) (h0 sz0 : Nat) : Met l yX0_init wsX0_init (rmN 1 4 1840) (va_Pc [.ref h0] (fun U => U.heap.size = sz0 ∧ va_P (dC, dI) cls2 [(h0, .inr (0, [.null, .null, .null, .null, .int 0, .int 0, .int 0, .int 0, .int 0, .long 0]))] U.heap ∧ va_K (dC, dI) cls2 [] U ∧ va_D (fun _ => True) [(h0, .inr (0, [.null, .null, .null, .null, .int 0, .int 0, .int 0, .int 0, .int 0, .long 0]))])) (va_Qv (fun (u : (Nat → Nat) × (Nat → ClassId)) => u.1 0 = h0) (fun u t => atX dC dI (va_A [(h0, .inr (0, [.null, .null, .null, .null, .int 0, .int 0, .int 0, .int 0, .int 0, .long 0]))] sz0) u.1 u.2 (0, 0, 0, 0, 0, 0, (fun _ => 0), (fun _ => 0), (fun _ => 0), (fun _ => 0)) t) (va_A [(h0, .inr (0, [.null, .null, .null, .null, .int 0, .int 0, .int 0, .int 0, .int 0, .long 0]))] sz0)) 4 1840 (va_A [(h0, .inr (0, [.null, .null, .null, .null, .int 0, .int 0, .int 0, .int 0, .int 0, .long 0]))] sz0) := by
  refine Met.ofW (cc := cX0_init) (maxL := 1) (ret := none) (by decide) rfl ?_
  intro p e s m args below meth c s₁ B hml hv
  obtain ⟨rfl, hsz, hP, hK, hD0⟩ := hv
  have hx := B.exec
  have hb := B.bytes
  have hrt := B.returns
  have hlocks := B.notSynchronized
  have hts := atoms_spec (ws := wsX0_init) B.pre
  have hw : ∀ w ∈ WB, w.before ([.ref h0] : List Value).toArray s = true := fun w h => hts w (List.mem_cons_of_mem _ h)
  have hown : s.vm.findClass "ProofBench" = some m.cls := findClass_of_methodNamed B.named
  have hin : meth.name = "<init>" := (name_of_methodNamed B.named B.method).1
  subst hsz
  have hD := hD0.self (sz := s.heap.size)
  generalize hAe : va_A [(h0, .inr (0, [.null, .null, .null, .null, .int 0, .int 0, .int 0, .int 0, .int 0, .long 0]))] s.heap.size = A at hD ⊢
  have hA : ∀ q : Nat, s.heap.size ≤ q → A q := fun q h => by rw [← hAe]; exact Or.inr h
  have hS : va_S A s.heap s.heap [] := va_S.rf
  have hP : va_P (dC, dI) cls2 [(h0, .inr (0, [.null, .null, .null, .null, .int 0, .int 0, .int 0, .int 0, .int 0, .long 0]))] s.heap := hP
  have hl := lv_entry ([.ref h0]) (n := 1) (Nat.le_of_ble_eq_true rfl)
  rw [lg_entry_eq]
  generalize (lg_sl ([.ref h0]) ++ List.replicate (1 - (lg_sl ([.ref h0])).length) Slot.unset).toArray = ls at hl ⊢
  have hl : lv_has ls 1 [(0, .ref h0)] := hl
  refine lv_aload_n hx hb dX0_init_0 rfl (lv_at hl 0 rfl) ?_
  refine W.objInit hx hb hown (hw _ wb_14) (hw _ wb_15) (hw _ wb_16) rfl (by rw [hml]; exact hl.1) rfl dX0_init_1 (Nat.le_of_ble_eq_true rfl) (Nat.le_of_ble_eq_true rfl) ?_
  refine W.eq (g2 := F0 m 4 ls []) rfl ?_
  refine lv_aload_n hx hb dX0_init_4 rfl (lv_at hl 0 rfl) ?_
  refine lv_sipush (v := 600) hx hb dX0_init_5 (by decide) ?_
  refine va_newa (atype := .int) (ty := .int) (a0 := (600, .inl (fun _ => 0))) (N' := 600) hx hb (hw _ wb_48) rfl hK hP hD hS hA (fun _ => rfl) (by decide +kernel) (by decide +kernel) (by decide +kernel) (Nat.le_of_ble_eq_true rfl) (Nat.le_of_ble_eq_true rfl) dX0_init_8 (fun q1 y1 H hK hP hD hS => ?_)
  have hP : va_P (dC, dI) cls2 [(h0, .inr (0, [.null, .null, .null, .null, .int 0, .int 0, .int 0, .int 0, .int 0, .long 0])), (q1, .inl (y1, 600, .inl (fun _ => 0)))] H := hP
  have hD : va_D A [(h0, .inr (0, [.null, .null, .null, .null, .int 0, .int 0, .int 0, .int 0, .int 0, .long 0])), (q1, .inl (y1, 600, .inl (fun _ => 0)))] := hD
  have hK : va_K (dC, dI) cls2 [(y1, .int)] s := hK
  refine va_putF (D := (dC, dI)) (ci := 0) (v := .ref q1) (ty := .array .int) (C := RX0) (T := TX0) (N := 10) hx hb hw inX0 tyX0 tyX0_ok nmX0 hown hK hP hD hS 0 rfl rfl 0 (by decide) (hw _ wb_17) (fun _ h9 => h9) rfl hin rfl (by decide +kernel) rfl rfl (Nat.le_of_ble_eq_true rfl) dX0_init_10 (fun H locs hP hD hS => ?_)
  have hP : va_P (dC, dI) cls2 [(h0, .inr (0, [.ref q1, .null, .null, .null, .int 0, .int 0, .int 0, .int 0, .int 0, .long 0])), (q1, .inl (y1, 600, .inl (fun _ => 0)))] H := hP
  have hD : va_D A [(h0, .inr (0, [.ref q1, .null, .null, .null, .int 0, .int 0, .int 0, .int 0, .int 0, .long 0])), (q1, .inl (y1, 600, .inl (fun _ => 0)))] := hD
  refine lv_aload_n hx hb dX0_init_13 rfl (lv_at hl 0 rfl) ?_
  refine lv_sipush (v := 600) hx hb dX0_init_14 (by decide) ?_
  refine va_newa (atype := .long) (ty := .long) (a0 := (600, .inr (.inl (fun _ => 0)))) (N' := 600) hx hb (hw _ wb_49) rfl hK hP hD hS hA (fun _ => rfl) (by decide +kernel) (by decide +kernel) (by decide +kernel) (Nat.le_of_ble_eq_true rfl) (Nat.le_of_ble_eq_true rfl) dX0_init_17 (fun q2 y2 H hK hP hD hS => ?_)
  have hP : va_P (dC, dI) cls2 [(h0, .inr (0, [.ref q1, .null, .null, .null, .int 0, .int 0, .int 0, .int 0, .int 0, .long 0])), (q1, .inl (y1, 600, .inl (fun _ => 0))), (q2, .inl (y2, 600, .inr (.inl (fun _ => 0))))] H := hP
  have hD : va_D A [(h0, .inr (0, [.ref q1, .null, .null, .null, .int 0, .int 0, .int 0, .int 0, .int 0, .long 0])), (q1, .inl (y1, 600, .inl (fun _ => 0))), (q2, .inl (y2, 600, .inr (.inl (fun _ => 0))))] := hD
  have hK : va_K (dC, dI) cls2 [(y1, .int), (y2, .long)] s := hK
  refine va_putF (D := (dC, dI)) (ci := 0) (v := .ref q2) (ty := .array .long) (C := RX0) (T := TX0) (N := 10) hx hb hw inX0 tyX0 tyX0_ok nmX0 hown hK hP hD hS 0 rfl rfl 1 (by decide) (hw _ wb_18) (fun _ h9 => h9) rfl hin rfl (by decide +kernel) rfl rfl (Nat.le_of_ble_eq_true rfl) dX0_init_19 (fun H locs hP hD hS => ?_)
  have hP : va_P (dC, dI) cls2 [(h0, .inr (0, [.ref q1, .ref q2, .null, .null, .int 0, .int 0, .int 0, .int 0, .int 0, .long 0])), (q1, .inl (y1, 600, .inl (fun _ => 0))), (q2, .inl (y2, 600, .inr (.inl (fun _ => 0))))] H := hP
  have hD : va_D A [(h0, .inr (0, [.ref q1, .ref q2, .null, .null, .int 0, .int 0, .int 0, .int 0, .int 0, .long 0])), (q1, .inl (y1, 600, .inl (fun _ => 0))), (q2, .inl (y2, 600, .inr (.inl (fun _ => 0))))] := hD
  refine lv_aload_n hx hb dX0_init_22 rfl (lv_at hl 0 rfl) ?_
  refine lv_sipush (v := 600) hx hb dX0_init_23 (by decide) ?_
  refine va_newa (atype := .boolean) (ty := .boolean) (a0 := (600, .inl (fun _ => 0))) (N' := 600) hx hb (hw _ wb_50) rfl hK hP hD hS hA (fun _ => rfl) (by decide +kernel) (by decide +kernel) (by decide +kernel) (Nat.le_of_ble_eq_true rfl) (Nat.le_of_ble_eq_true rfl) dX0_init_26 (fun q3 y3 H hK hP hD hS => ?_)
  have hP : va_P (dC, dI) cls2 [(h0, .inr (0, [.ref q1, .ref q2, .null, .null, .int 0, .int 0, .int 0, .int 0, .int 0, .long 0])), (q1, .inl (y1, 600, .inl (fun _ => 0))), (q2, .inl (y2, 600, .inr (.inl (fun _ => 0)))), (q3, .inl (y3, 600, .inl (fun _ => 0)))] H := hP
  have hD : va_D A [(h0, .inr (0, [.ref q1, .ref q2, .null, .null, .int 0, .int 0, .int 0, .int 0, .int 0, .long 0])), (q1, .inl (y1, 600, .inl (fun _ => 0))), (q2, .inl (y2, 600, .inr (.inl (fun _ => 0)))), (q3, .inl (y3, 600, .inl (fun _ => 0)))] := hD
  have hK : va_K (dC, dI) cls2 [(y1, .int), (y2, .long), (y3, .boolean)] s := hK
  refine va_putF (D := (dC, dI)) (ci := 0) (v := .ref q3) (ty := .array .boolean) (C := RX0) (T := TX0) (N := 10) hx hb hw inX0 tyX0 tyX0_ok nmX0 hown hK hP hD hS 0 rfl rfl 2 (by decide) (hw _ wb_19) (fun _ h9 => h9) rfl hin rfl (by decide +kernel) rfl rfl (Nat.le_of_ble_eq_true rfl) dX0_init_28 (fun H locs hP hD hS => ?_)
  have hP : va_P (dC, dI) cls2 [(h0, .inr (0, [.ref q1, .ref q2, .ref q3, .null, .int 0, .int 0, .int 0, .int 0, .int 0, .long 0])), (q1, .inl (y1, 600, .inl (fun _ => 0))), (q2, .inl (y2, 600, .inr (.inl (fun _ => 0)))), (q3, .inl (y3, 600, .inl (fun _ => 0)))] H := hP
  have hD : va_D A [(h0, .inr (0, [.ref q1, .ref q2, .ref q3, .null, .int 0, .int 0, .int 0, .int 0, .int 0, .long 0])), (q1, .inl (y1, 600, .inl (fun _ => 0))), (q2, .inl (y2, 600, .inr (.inl (fun _ => 0)))), (q3, .inl (y3, 600, .inl (fun _ => 0)))] := hD
  refine lv_aload_n hx hb dX0_init_31 rfl (lv_at hl 0 rfl) ?_
  refine lv_bipush (v := 40) hx hb dX0_init_32 (by decide) ?_
  refine va_newa (atype := .int) (ty := .int) (a0 := (40, .inl (fun _ => 0))) (N' := 40) hx hb (hw _ wb_48) rfl hK hP hD hS hA (fun _ => rfl) (by decide +kernel) (by decide +kernel) (by decide +kernel) (Nat.le_of_ble_eq_true rfl) (Nat.le_of_ble_eq_true rfl) dX0_init_34 (fun q4 y4 H hK hP hD hS => ?_)
  have hP : va_P (dC, dI) cls2 [(h0, .inr (0, [.ref q1, .ref q2, .ref q3, .null, .int 0, .int 0, .int 0, .int 0, .int 0, .long 0])), (q1, .inl (y1, 600, .inl (fun _ => 0))), (q2, .inl (y2, 600, .inr (.inl (fun _ => 0)))), (q3, .inl (y3, 600, .inl (fun _ => 0))), (q4, .inl (y4, 40, .inl (fun _ => 0)))] H := hP
  have hD : va_D A [(h0, .inr (0, [.ref q1, .ref q2, .ref q3, .null, .int 0, .int 0, .int 0, .int 0, .int 0, .long 0])), (q1, .inl (y1, 600, .inl (fun _ => 0))), (q2, .inl (y2, 600, .inr (.inl (fun _ => 0)))), (q3, .inl (y3, 600, .inl (fun _ => 0))), (q4, .inl (y4, 40, .inl (fun _ => 0)))] := hD
  have hK : va_K (dC, dI) cls2 [(y1, .int), (y2, .long), (y3, .boolean), (y4, .int)] s := hK
  refine va_putF (D := (dC, dI)) (ci := 0) (v := .ref q4) (ty := .array .int) (C := RX0) (T := TX0) (N := 10) hx hb hw inX0 tyX0 tyX0_ok nmX0 hown hK hP hD hS 0 rfl rfl 3 (by decide) (hw _ wb_20) (fun _ h9 => h9) rfl hin rfl (by decide +kernel) rfl rfl (Nat.le_of_ble_eq_true rfl) dX0_init_36 (fun H locs hP hD hS => ?_)
  have hP : va_P (dC, dI) cls2 [(h0, .inr (0, [.ref q1, .ref q2, .ref q3, .ref q4, .int 0, .int 0, .int 0, .int 0, .int 0, .long 0])), (q1, .inl (y1, 600, .inl (fun _ => 0))), (q2, .inl (y2, 600, .inr (.inl (fun _ => 0)))), (q3, .inl (y3, 600, .inl (fun _ => 0))), (q4, .inl (y4, 40, .inl (fun _ => 0)))] H := hP
  have hD : va_D A [(h0, .inr (0, [.ref q1, .ref q2, .ref q3, .ref q4, .int 0, .int 0, .int 0, .int 0, .int 0, .long 0])), (q1, .inl (y1, 600, .inl (fun _ => 0))), (q2, .inl (y2, 600, .inr (.inl (fun _ => 0)))), (q3, .inl (y3, 600, .inl (fun _ => 0))), (q4, .inl (y4, 40, .inl (fun _ => 0)))] := hD
  refine W.widen (k := 4) (n := 1840) (Nat.le_of_ble_eq_true rfl) (Nat.le_of_ble_eq_true rfl) ?_
  exact W.vret hx hb hrt (fun t ht hW => ⟨⟨(fun k => [h0, q1, q2, q3, q4].getD k 0, fun k => [y1, y1, y2, y3, y4].getD k y1), rfl, rfl, by rw [ht]; exact hP, va_K.moved hW.alike hK, hD⟩, hS.F ht⟩) hS.2.2 dX0_init_39
set_option maxHeartbeats 600000 in
set_option maxRecDepth 100000 in
/-- n_init -/
theorem n_init (l : Launch) (dC : Nat → ClassId) (dI : Nat → Nat → Nat) (h0 sz0 : Nat) : Met l yX1_init wsX1_init (rmN 1 7 11304) (va_Pc [.ref h0] (fun U => U.heap.size = sz0 ∧ va_P (dC, dI) cls2 [(h0, .inr (1, [.int 0, .int 0, .int 0, .int 0, .int 0, .null, .null, .int 0, .null, .int 0, .null, .null, .null, .null]))] U.heap ∧ va_K (dC, dI) cls2 [] U ∧ va_D (fun _ => True) [(h0, .inr (1, [.int 0, .int 0, .int 0, .int 0, .int 0, .null, .null, .int 0, .null, .int 0, .null, .null, .null, .null]))])) (va_Qv (fun (u : (Nat → Nat) × (Nat → ClassId)) => u.1 0 = h0) (fun u t => atM dC dI (va_A [(h0, .inr (1, [.int 0, .int 0, .int 0, .int 0, .int 0, .null, .null, .int 0, .null, .int 0, .null, .null, .null, .null]))] sz0) u.1 u.2 (0, 0, 0, 0, 0, 0, 0, (fun _ => 0), (fun _ => 0), (fun _ => 0), (fun _ => 0), (fun _ => 0), mo_it 1024 0 (fun _ => 0), lw_out 6 1 (fun _ => 0)) t) (va_A [(h0, .inr (1, [.int 0, .int 0, .int 0, .int 0, .int 0, .null, .null, .int 0, .null, .int 0, .null, .null, .null, .null]))] sz0)) 7 11304 (va_A [(h0, .inr (1, [.int 0, .int 0, .int 0, .int 0, .int 0, .null, .null, .int 0, .null, .int 0, .null, .null, .null, .null]))] sz0) := by
  refine Met.ofW (cc := cX1_init) (maxL := 3) (ret := none) (by decide) rfl ?_
  intro p e s m args below meth c s₁ B hml hv
  obtain ⟨rfl, hsz, hP, hK, hD0⟩ := hv
  have hx := B.exec
  have hb := B.bytes
  have hrt := B.returns
  have hlocks := B.notSynchronized
  have hts := atoms_spec (ws := wsX1_init) B.pre
  have hw : ∀ w ∈ WB, w.before ([.ref h0] : List Value).toArray s = true := fun w h => hts w (List.mem_cons_of_mem _ h)
  have hown : s.vm.findClass "ProofBenchModel" = some m.cls := findClass_of_methodNamed B.named
  have hin : meth.name = "<init>" := (name_of_methodNamed B.named B.method).1
  subst hsz
  have hD := hD0.self (sz := s.heap.size)
  generalize hAe : va_A [(h0, .inr (1, [.int 0, .int 0, .int 0, .int 0, .int 0, .null, .null, .int 0, .null, .int 0, .null, .null, .null, .null]))] s.heap.size = A at hD ⊢
  have hA : ∀ q : Nat, s.heap.size ≤ q → A q := fun q h => by rw [← hAe]; exact Or.inr h
  have hS : va_S A s.heap s.heap [] := va_S.rf
  have hP : va_P (dC, dI) cls2 [(h0, .inr (1, [.int 0, .int 0, .int 0, .int 0, .int 0, .null, .null, .int 0, .null, .int 0, .null, .null, .null, .null]))] s.heap := hP
  have hl := lv_entry ([.ref h0]) (n := 3) (Nat.le_of_ble_eq_true rfl)
  rw [lg_entry_eq]
  generalize (lg_sl ([.ref h0]) ++ List.replicate (3 - (lg_sl ([.ref h0])).length) Slot.unset).toArray = ls at hl ⊢
  have hl : lv_has ls 3 [(0, .ref h0)] := hl
  refine lv_aload_n hx hb dX1_init_0 rfl (lv_at hl 0 rfl) ?_
  refine W.objInit hx hb hown (hw _ wb_266) (hw _ wb_15) (hw _ wb_16) rfl (by rw [hml]; exact hl.1) rfl dX1_init_1 (Nat.le_of_ble_eq_true rfl) (Nat.le_of_ble_eq_true rfl) ?_
  refine W.eq (g2 := F0 m 4 ls []) rfl ?_
  refine lv_aload_n hx hb dX1_init_4 rfl (lv_at hl 0 rfl) ?_
  refine lv_sipush (v := 9600) hx hb dX1_init_5 (by decide) ?_
  refine va_newa (atype := .int) (ty := .int) (a0 := (9600, .inl (fun _ => 0))) (N' := 9600) hx hb (hw _ wb_48) rfl hK hP hD hS hA (fun _ => rfl) (by decide +kernel) (by decide +kernel) (by decide +kernel) (Nat.le_of_ble_eq_true rfl) (Nat.le_of_ble_eq_true rfl) dX1_init_8 (fun q1 y1 H hK hP hD hS => ?_)
  have hP : va_P (dC, dI) cls2 [(h0, .inr (1, [.int 0, .int 0, .int 0, .int 0, .int 0, .null, .null, .int 0, .null, .int 0, .null, .null, .null, .null])), (q1, .inl (y1, 9600, .inl (fun _ => 0)))] H := hP
  have hD : va_D A [(h0, .inr (1, [.int 0, .int 0, .int 0, .int 0, .int 0, .null, .null, .int 0, .null, .int 0, .null, .null, .null, .null])), (q1, .inl (y1, 9600, .inl (fun _ => 0)))] := hD
  have hK : va_K (dC, dI) cls2 [(y1, .int)] s := hK
  refine va_putF (D := (dC, dI)) (ci := 1) (v := .ref q1) (ty := .array .int) (C := RX1) (T := TX1) (N := 14) hx hb hw inX1 tyX1 tyX1_ok nmX1 hown hK hP hD hS 0 rfl rfl 5 (by decide) (hw _ wb_273) (fun _ h9 => h9) rfl hin rfl (by decide +kernel) rfl rfl (Nat.le_of_ble_eq_true rfl) dX1_init_10 (fun H locs hP hD hS => ?_)
  have hP : va_P (dC, dI) cls2 [(h0, .inr (1, [.int 0, .int 0, .int 0, .int 0, .int 0, .ref q1, .null, .int 0, .null, .int 0, .null, .null, .null, .null])), (q1, .inl (y1, 9600, .inl (fun _ => 0)))] H := hP
  have hD : va_D A [(h0, .inr (1, [.int 0, .int 0, .int 0, .int 0, .int 0, .ref q1, .null, .int 0, .null, .int 0, .null, .null, .null, .null])), (q1, .inl (y1, 9600, .inl (fun _ => 0)))] := hD
  refine lv_aload_n hx hb dX1_init_13 rfl (lv_at hl 0 rfl) ?_
  refine lv_sipush (v := 600) hx hb dX1_init_14 (by decide) ?_
  refine va_newa (atype := .int) (ty := .int) (a0 := (600, .inl (fun _ => 0))) (N' := 600) hx hb (hw _ wb_48) rfl hK hP hD hS hA (fun _ => rfl) (by decide +kernel) (by decide +kernel) (by decide +kernel) (Nat.le_of_ble_eq_true rfl) (Nat.le_of_ble_eq_true rfl) dX1_init_17 (fun q2 y2 H hK hP hD hS => ?_)
  have hP : va_P (dC, dI) cls2 [(h0, .inr (1, [.int 0, .int 0, .int 0, .int 0, .int 0, .ref q1, .null, .int 0, .null, .int 0, .null, .null, .null, .null])), (q1, .inl (y1, 9600, .inl (fun _ => 0))), (q2, .inl (y2, 600, .inl (fun _ => 0)))] H := hP
  have hD : va_D A [(h0, .inr (1, [.int 0, .int 0, .int 0, .int 0, .int 0, .ref q1, .null, .int 0, .null, .int 0, .null, .null, .null, .null])), (q1, .inl (y1, 9600, .inl (fun _ => 0))), (q2, .inl (y2, 600, .inl (fun _ => 0)))] := hD
  have hK : va_K (dC, dI) cls2 [(y1, .int), (y2, .int)] s := hK
  refine va_putF (D := (dC, dI)) (ci := 1) (v := .ref q2) (ty := .array .int) (C := RX1) (T := TX1) (N := 14) hx hb hw inX1 tyX1 tyX1_ok nmX1 hown hK hP hD hS 0 rfl rfl 6 (by decide) (hw _ wb_274) (fun _ h9 => h9) rfl hin rfl (by decide +kernel) rfl rfl (Nat.le_of_ble_eq_true rfl) dX1_init_19 (fun H locs hP hD hS => ?_)
  have hP : va_P (dC, dI) cls2 [(h0, .inr (1, [.int 0, .int 0, .int 0, .int 0, .int 0, .ref q1, .ref q2, .int 0, .null, .int 0, .null, .null, .null, .null])), (q1, .inl (y1, 9600, .inl (fun _ => 0))), (q2, .inl (y2, 600, .inl (fun _ => 0)))] H := hP
  have hD : va_D A [(h0, .inr (1, [.int 0, .int 0, .int 0, .int 0, .int 0, .ref q1, .ref q2, .int 0, .null, .int 0, .null, .null, .null, .null])), (q1, .inl (y1, 9600, .inl (fun _ => 0))), (q2, .inl (y2, 600, .inl (fun _ => 0)))] := hD
  refine lv_aload_n hx hb dX1_init_22 rfl (lv_at hl 0 rfl) ?_
  refine lv_bipush (v := 16) hx hb dX1_init_23 (by decide) ?_
  refine va_newa (atype := .int) (ty := .int) (a0 := (16, .inl (fun _ => 0))) (N' := 16) hx hb (hw _ wb_48) rfl hK hP hD hS hA (fun _ => rfl) (by decide +kernel) (by decide +kernel) (by decide +kernel) (Nat.le_of_ble_eq_true rfl) (Nat.le_of_ble_eq_true rfl) dX1_init_25 (fun q3 y3 H hK hP hD hS => ?_)
  have hP : va_P (dC, dI) cls2 [(h0, .inr (1, [.int 0, .int 0, .int 0, .int 0, .int 0, .ref q1, .ref q2, .int 0, .null, .int 0, .null, .null, .null, .null])), (q1, .inl (y1, 9600, .inl (fun _ => 0))), (q2, .inl (y2, 600, .inl (fun _ => 0))), (q3, .inl (y3, 16, .inl (fun _ => 0)))] H := hP
  have hD : va_D A [(h0, .inr (1, [.int 0, .int 0, .int 0, .int 0, .int 0, .ref q1, .ref q2, .int 0, .null, .int 0, .null, .null, .null, .null])), (q1, .inl (y1, 9600, .inl (fun _ => 0))), (q2, .inl (y2, 600, .inl (fun _ => 0))), (q3, .inl (y3, 16, .inl (fun _ => 0)))] := hD
  have hK : va_K (dC, dI) cls2 [(y1, .int), (y2, .int), (y3, .int)] s := hK
  refine va_putF (D := (dC, dI)) (ci := 1) (v := .ref q3) (ty := .array .int) (C := RX1) (T := TX1) (N := 14) hx hb hw inX1 tyX1 tyX1_ok nmX1 hown hK hP hD hS 0 rfl rfl 8 (by decide) (hw _ wb_276) (fun _ h9 => h9) rfl hin rfl (by decide +kernel) rfl rfl (Nat.le_of_ble_eq_true rfl) dX1_init_27 (fun H locs hP hD hS => ?_)
  have hP : va_P (dC, dI) cls2 [(h0, .inr (1, [.int 0, .int 0, .int 0, .int 0, .int 0, .ref q1, .ref q2, .int 0, .ref q3, .int 0, .null, .null, .null, .null])), (q1, .inl (y1, 9600, .inl (fun _ => 0))), (q2, .inl (y2, 600, .inl (fun _ => 0))), (q3, .inl (y3, 16, .inl (fun _ => 0)))] H := hP
  have hD : va_D A [(h0, .inr (1, [.int 0, .int 0, .int 0, .int 0, .int 0, .ref q1, .ref q2, .int 0, .ref q3, .int 0, .null, .null, .null, .null])), (q1, .inl (y1, 9600, .inl (fun _ => 0))), (q2, .inl (y2, 600, .inl (fun _ => 0))), (q3, .inl (y3, 16, .inl (fun _ => 0)))] := hD
  refine lv_aload_n hx hb dX1_init_30 rfl (lv_at hl 0 rfl) ?_
  refine lv_bipush (v := 40) hx hb dX1_init_31 (by decide) ?_
  refine va_newa (atype := .int) (ty := .int) (a0 := (40, .inl (fun _ => 0))) (N' := 40) hx hb (hw _ wb_48) rfl hK hP hD hS hA (fun _ => rfl) (by decide +kernel) (by decide +kernel) (by decide +kernel) (Nat.le_of_ble_eq_true rfl) (Nat.le_of_ble_eq_true rfl) dX1_init_33 (fun q4 y4 H hK hP hD hS => ?_)
  have hP : va_P (dC, dI) cls2 [(h0, .inr (1, [.int 0, .int 0, .int 0, .int 0, .int 0, .ref q1, .ref q2, .int 0, .ref q3, .int 0, .null, .null, .null, .null])), (q1, .inl (y1, 9600, .inl (fun _ => 0))), (q2, .inl (y2, 600, .inl (fun _ => 0))), (q3, .inl (y3, 16, .inl (fun _ => 0))), (q4, .inl (y4, 40, .inl (fun _ => 0)))] H := hP
  have hD : va_D A [(h0, .inr (1, [.int 0, .int 0, .int 0, .int 0, .int 0, .ref q1, .ref q2, .int 0, .ref q3, .int 0, .null, .null, .null, .null])), (q1, .inl (y1, 9600, .inl (fun _ => 0))), (q2, .inl (y2, 600, .inl (fun _ => 0))), (q3, .inl (y3, 16, .inl (fun _ => 0))), (q4, .inl (y4, 40, .inl (fun _ => 0)))] := hD
  have hK : va_K (dC, dI) cls2 [(y1, .int), (y2, .int), (y3, .int), (y4, .int)] s := hK
  refine va_putF (D := (dC, dI)) (ci := 1) (v := .ref q4) (ty := .array .int) (C := RX1) (T := TX1) (N := 14) hx hb hw inX1 tyX1 tyX1_ok nmX1 hown hK hP hD hS 0 rfl rfl 10 (by decide) (hw _ wb_278) (fun _ h9 => h9) rfl hin rfl (by decide +kernel) rfl rfl (Nat.le_of_ble_eq_true rfl) dX1_init_35 (fun H locs hP hD hS => ?_)
  have hP : va_P (dC, dI) cls2 [(h0, .inr (1, [.int 0, .int 0, .int 0, .int 0, .int 0, .ref q1, .ref q2, .int 0, .ref q3, .int 0, .ref q4, .null, .null, .null])), (q1, .inl (y1, 9600, .inl (fun _ => 0))), (q2, .inl (y2, 600, .inl (fun _ => 0))), (q3, .inl (y3, 16, .inl (fun _ => 0))), (q4, .inl (y4, 40, .inl (fun _ => 0)))] H := hP
  have hD : va_D A [(h0, .inr (1, [.int 0, .int 0, .int 0, .int 0, .int 0, .ref q1, .ref q2, .int 0, .ref q3, .int 0, .ref q4, .null, .null, .null])), (q1, .inl (y1, 9600, .inl (fun _ => 0))), (q2, .inl (y2, 600, .inl (fun _ => 0))), (q3, .inl (y3, 16, .inl (fun _ => 0))), (q4, .inl (y4, 40, .inl (fun _ => 0)))] := hD
  refine lv_aload_n hx hb dX1_init_38 rfl (lv_at hl 0 rfl) ?_
  refine lv_bipush (v := 17) hx hb dX1_init_39 (by decide) ?_
  refine va_newa (atype := .int) (ty := .int) (a0 := (17, .inl (fun _ => 0))) (N' := 17) hx hb (hw _ wb_48) rfl hK hP hD hS hA (fun _ => rfl) (by decide +kernel) (by decide +kernel) (by decide +kernel) (Nat.le_of_ble_eq_true rfl) (Nat.le_of_ble_eq_true rfl) dX1_init_41 (fun q5 y5 H hK hP hD hS => ?_)
  have hP : va_P (dC, dI) cls2 [(h0, .inr (1, [.int 0, .int 0, .int 0, .int 0, .int 0, .ref q1, .ref q2, .int 0, .ref q3, .int 0, .ref q4, .null, .null, .null])), (q1, .inl (y1, 9600, .inl (fun _ => 0))), (q2, .inl (y2, 600, .inl (fun _ => 0))), (q3, .inl (y3, 16, .inl (fun _ => 0))), (q4, .inl (y4, 40, .inl (fun _ => 0))), (q5, .inl (y5, 17, .inl (fun _ => 0)))] H := hP
  have hD : va_D A [(h0, .inr (1, [.int 0, .int 0, .int 0, .int 0, .int 0, .ref q1, .ref q2, .int 0, .ref q3, .int 0, .ref q4, .null, .null, .null])), (q1, .inl (y1, 9600, .inl (fun _ => 0))), (q2, .inl (y2, 600, .inl (fun _ => 0))), (q3, .inl (y3, 16, .inl (fun _ => 0))), (q4, .inl (y4, 40, .inl (fun _ => 0))), (q5, .inl (y5, 17, .inl (fun _ => 0)))] := hD
  have hK : va_K (dC, dI) cls2 [(y1, .int), (y2, .int), (y3, .int), (y4, .int), (y5, .int)] s := hK
  refine va_putF (D := (dC, dI)) (ci := 1) (v := .ref q5) (ty := .array .int) (C := RX1) (T := TX1) (N := 14) hx hb hw inX1 tyX1 tyX1_ok nmX1 hown hK hP hD hS 0 rfl rfl 11 (by decide) (hw _ wb_279) (fun _ h9 => h9) rfl hin rfl (by decide +kernel) rfl rfl (Nat.le_of_ble_eq_true rfl) dX1_init_43 (fun H locs hP hD hS => ?_)
  have hP : va_P (dC, dI) cls2 [(h0, .inr (1, [.int 0, .int 0, .int 0, .int 0, .int 0, .ref q1, .ref q2, .int 0, .ref q3, .int 0, .ref q4, .ref q5, .null, .null])), (q1, .inl (y1, 9600, .inl (fun _ => 0))), (q2, .inl (y2, 600, .inl (fun _ => 0))), (q3, .inl (y3, 16, .inl (fun _ => 0))), (q4, .inl (y4, 40, .inl (fun _ => 0))), (q5, .inl (y5, 17, .inl (fun _ => 0)))] H := hP
  have hD : va_D A [(h0, .inr (1, [.int 0, .int 0, .int 0, .int 0, .int 0, .ref q1, .ref q2, .int 0, .ref q3, .int 0, .ref q4, .ref q5, .null, .null])), (q1, .inl (y1, 9600, .inl (fun _ => 0))), (q2, .inl (y2, 600, .inl (fun _ => 0))), (q3, .inl (y3, 16, .inl (fun _ => 0))), (q4, .inl (y4, 40, .inl (fun _ => 0))), (q5, .inl (y5, 17, .inl (fun _ => 0)))] := hD
  refine lv_aload_n hx hb dX1_init_46 rfl (lv_at hl 0 rfl) ?_
  refine lv_sipush (v := 1024) hx hb dX1_init_47 (by decide) ?_
  refine va_newa (atype := .long) (ty := .long) (a0 := (1024, .inr (.inl (fun _ => 0)))) (N' := 1024) hx hb (hw _ wb_49) rfl hK hP hD hS hA (fun _ => rfl) (by decide +kernel) (by decide +kernel) (by decide +kernel) (Nat.le_of_ble_eq_true rfl) (Nat.le_of_ble_eq_true rfl) dX1_init_50 (fun q6 y6 H hK hP hD hS => ?_)
  have hP : va_P (dC, dI) cls2 [(h0, .inr (1, [.int 0, .int 0, .int 0, .int 0, .int 0, .ref q1, .ref q2, .int 0, .ref q3, .int 0, .ref q4, .ref q5, .null, .null])), (q1, .inl (y1, 9600, .inl (fun _ => 0))), (q2, .inl (y2, 600, .inl (fun _ => 0))), (q3, .inl (y3, 16, .inl (fun _ => 0))), (q4, .inl (y4, 40, .inl (fun _ => 0))), (q5, .inl (y5, 17, .inl (fun _ => 0))), (q6, .inl (y6, 1024, .inr (.inl (fun _ => 0))))] H := hP
  have hD : va_D A [(h0, .inr (1, [.int 0, .int 0, .int 0, .int 0, .int 0, .ref q1, .ref q2, .int 0, .ref q3, .int 0, .ref q4, .ref q5, .null, .null])), (q1, .inl (y1, 9600, .inl (fun _ => 0))), (q2, .inl (y2, 600, .inl (fun _ => 0))), (q3, .inl (y3, 16, .inl (fun _ => 0))), (q4, .inl (y4, 40, .inl (fun _ => 0))), (q5, .inl (y5, 17, .inl (fun _ => 0))), (q6, .inl (y6, 1024, .inr (.inl (fun _ => 0))))] := hD
  have hK : va_K (dC, dI) cls2 [(y1, .int), (y2, .int), (y3, .int), (y4, .int), (y5, .int), (y6, .long)] s := hK
  refine va_putF (D := (dC, dI)) (ci := 1) (v := .ref q6) (ty := .array .long) (C := RX1) (T := TX1) (N := 14) hx hb hw inX1 tyX1 tyX1_ok nmX1 hown hK hP hD hS 0 rfl rfl 12 (by decide) (hw _ wb_280) (fun _ h9 => h9) rfl hin rfl (by decide +kernel) rfl rfl (Nat.le_of_ble_eq_true rfl) dX1_init_52 (fun H locs hP hD hS => ?_)
  have hP : va_P (dC, dI) cls2 [(h0, .inr (1, [.int 0, .int 0, .int 0, .int 0, .int 0, .ref q1, .ref q2, .int 0, .ref q3, .int 0, .ref q4, .ref q5, .ref q6, .null])), (q1, .inl (y1, 9600, .inl (fun _ => 0))), (q2, .inl (y2, 600, .inl (fun _ => 0))), (q3, .inl (y3, 16, .inl (fun _ => 0))), (q4, .inl (y4, 40, .inl (fun _ => 0))), (q5, .inl (y5, 17, .inl (fun _ => 0))), (q6, .inl (y6, 1024, .inr (.inl (fun _ => 0))))] H := hP
  have hD : va_D A [(h0, .inr (1, [.int 0, .int 0, .int 0, .int 0, .int 0, .ref q1, .ref q2, .int 0, .ref q3, .int 0, .ref q4, .ref q5, .ref q6, .null])), (q1, .inl (y1, 9600, .inl (fun _ => 0))), (q2, .inl (y2, 600, .inl (fun _ => 0))), (q3, .inl (y3, 16, .inl (fun _ => 0))), (q4, .inl (y4, 40, .inl (fun _ => 0))), (q5, .inl (y5, 17, .inl (fun _ => 0))), (q6, .inl (y6, 1024, .inr (.inl (fun _ => 0))))] := hD
  refine lv_aload_n hx hb dX1_init_55 rfl (lv_at hl 0 rfl) ?_
  refine lv_bipush (v := 7) hx hb dX1_init_56 (by decide) ?_
  refine va_newa (atype := .long) (ty := .long) (a0 := (7, .inr (.inl (fun _ => 0)))) (N' := 7) hx hb (hw _ wb_49) rfl hK hP hD hS hA (fun _ => rfl) (by decide +kernel) (by decide +kernel) (by decide +kernel) (Nat.le_of_ble_eq_true rfl) (Nat.le_of_ble_eq_true rfl) dX1_init_58 (fun q7 y7 H hK hP hD hS => ?_)
  have hP : va_P (dC, dI) cls2 [(h0, .inr (1, [.int 0, .int 0, .int 0, .int 0, .int 0, .ref q1, .ref q2, .int 0, .ref q3, .int 0, .ref q4, .ref q5, .ref q6, .null])), (q1, .inl (y1, 9600, .inl (fun _ => 0))), (q2, .inl (y2, 600, .inl (fun _ => 0))), (q3, .inl (y3, 16, .inl (fun _ => 0))), (q4, .inl (y4, 40, .inl (fun _ => 0))), (q5, .inl (y5, 17, .inl (fun _ => 0))), (q6, .inl (y6, 1024, .inr (.inl (fun _ => 0)))), (q7, .inl (y7, 7, .inr (.inl (fun _ => 0))))] H := hP
  have hD : va_D A [(h0, .inr (1, [.int 0, .int 0, .int 0, .int 0, .int 0, .ref q1, .ref q2, .int 0, .ref q3, .int 0, .ref q4, .ref q5, .ref q6, .null])), (q1, .inl (y1, 9600, .inl (fun _ => 0))), (q2, .inl (y2, 600, .inl (fun _ => 0))), (q3, .inl (y3, 16, .inl (fun _ => 0))), (q4, .inl (y4, 40, .inl (fun _ => 0))), (q5, .inl (y5, 17, .inl (fun _ => 0))), (q6, .inl (y6, 1024, .inr (.inl (fun _ => 0)))), (q7, .inl (y7, 7, .inr (.inl (fun _ => 0))))] := hD
  have hK : va_K (dC, dI) cls2 [(y1, .int), (y2, .int), (y3, .int), (y4, .int), (y5, .int), (y6, .long), (y7, .long)] s := hK
  refine va_putF (D := (dC, dI)) (ci := 1) (v := .ref q7) (ty := .array .long) (C := RX1) (T := TX1) (N := 14) hx hb hw inX1 tyX1 tyX1_ok nmX1 hown hK hP hD hS 0 rfl rfl 13 (by decide) (hw _ wb_281) (fun _ h9 => h9) rfl hin rfl (by decide +kernel) rfl rfl (Nat.le_of_ble_eq_true rfl) dX1_init_60 (fun H locs hP hD hS => ?_)
  have hP : va_P (dC, dI) cls2 [(h0, .inr (1, [.int 0, .int 0, .int 0, .int 0, .int 0, .ref q1, .ref q2, .int 0, .ref q3, .int 0, .ref q4, .ref q5, .ref q6, .ref q7])), (q1, .inl (y1, 9600, .inl (fun _ => 0))), (q2, .inl (y2, 600, .inl (fun _ => 0))), (q3, .inl (y3, 16, .inl (fun _ => 0))), (q4, .inl (y4, 40, .inl (fun _ => 0))), (q5, .inl (y5, 17, .inl (fun _ => 0))), (q6, .inl (y6, 1024, .inr (.inl (fun _ => 0)))), (q7, .inl (y7, 7, .inr (.inl (fun _ => 0))))] H := hP
  have hD : va_D A [(h0, .inr (1, [.int 0, .int 0, .int 0, .int 0, .int 0, .ref q1, .ref q2, .int 0, .ref q3, .int 0, .ref q4, .ref q5, .ref q6, .ref q7])), (q1, .inl (y1, 9600, .inl (fun _ => 0))), (q2, .inl (y2, 600, .inl (fun _ => 0))), (q3, .inl (y3, 16, .inl (fun _ => 0))), (q4, .inl (y4, 40, .inl (fun _ => 0))), (q5, .inl (y5, 17, .inl (fun _ => 0))), (q6, .inl (y6, 1024, .inr (.inl (fun _ => 0)))), (q7, .inl (y7, 7, .inr (.inl (fun _ => 0))))] := hD
  refine W.widen (k := 7) (n := 11304) (Nat.le_of_ble_eq_true rfl) (Nat.le_of_ble_eq_true rfl) ?_
  obtain ⟨am, ea0, ea1, ea2, ea3, ea4, ea5, ea6, ea7⟩ : ∃ am : Nat → Nat, am 0 = h0 ∧ am 1 = q1 ∧ am 2 = q2 ∧ am 3 = q3 ∧ am 4 = q4 ∧ am 5 = q5 ∧ am 6 = q6 ∧ am 7 = q7 := ⟨fun k => [h0, q1, q2, q3, q4, q5, q6, q7].getD k 0, rfl, rfl, rfl, rfl, rfl, rfl, rfl, rfl⟩
  obtain ⟨ym, eb1, eb2, eb3, eb4, eb5, eb6, eb7⟩ : ∃ ym : Nat → ClassId, ym 1 = y1 ∧ ym 2 = y2 ∧ ym 3 = y3 ∧ ym 4 = y4 ∧ ym 5 = y5 ∧ ym 6 = y6 ∧ ym 7 = y7 := ⟨fun k => [y1, y1, y2, y3, y4, y5, y6, y7].getD k y1, rfl, rfl, rfl, rfl, rfl, rfl, rfl⟩
  subst ea0
  subst ea1
  subst ea2
  subst ea3
  subst ea4
  subst ea5
  subst ea6
  subst ea7
  subst eb1
  subst eb2
  subst eb3
  subst eb4
  subst eb5
  subst eb6
  subst eb7
  have hK : va_K (dC, dI) cls2 (tysM ym) s := hK
  have hP : va_P (dC, dI) cls2 (MW am ym (0, 0, 0, 0, 0, 0, 0, (fun _ => 0), (fun _ => 0), (fun _ => 0), (fun _ => 0), (fun _ => 0), (fun _ => 0), (fun _ => 0))) H := hP
  have hD : va_D A (MW am ym (0, 0, 0, 0, 0, 0, 0, (fun _ => 0), (fun _ => 0), (fun _ => 0), (fun _ => 0), (fun _ => 0), (fun _ => 0), (fun _ => 0))) := hD
  have loop3 : ∀ (a i : Nat) (f : Nat → Int64) (H : Heap) (locs : List Loc), i + a = 1024 → mo_it 1024 0 (fun _ => 0) = mo_it a i f → va_P (dC, dI) cls2 (MW am ym (0, 0, 0, 0, 0, 0, 0, (fun _ => 0), (fun _ => 0), (fun _ => 0), (fun _ => 0), (fun _ => 0), f, lw_out 6 1 (fun _ => 0))) H → va_D A (MW am ym (0, 0, 0, 0, 0, 0, 0, (fun _ => 0), (fun _ => 0), (fun _ => 0), (fun _ => 0), (fun _ => 0), f, lw_out 6 1 (fun _ => 0))) → va_S A s.heap H locs → ∀ ls, lv_has ls 3 [(1, .int (nI i)), (0, .ref (am 0))] → W p l e (headSpec wsX1_init (rmN 1 7 11304)).room s m ([.ref (am 0)] : List Value).toArray below meth c H locs 7 11304 (MQ below (va_Qv (fun (u : (Nat → Nat) × (Nat → ClassId)) => u.1 0 = am 0) (fun u t => atM dC dI A u.1 u.2 (0, 0, 0, 0, 0, 0, 0, (fun _ => 0), (fun _ => 0), (fun _ => 0), (fun _ => 0), (fun _ => 0), mo_it 1024 0 (fun _ => 0), lw_out 6 1 (fun _ => 0)) t) A) ([.ref (am 0)] : List Value).toArray s 7 11304 A) (F0 m 112 ls []) := by
    intro a
    induction a with
    | zero =>
      intro i f H locs hk hq hP hD hS ls hl
      have e0 : i = 1024 := by omega
      subst e0
      refine lv_iload_n hx hb dX1_init_112 rfl (lv_at hl 0 rfl) ?_
      refine lv_sipush (v := 1024) hx hb dX1_init_113 (by decide) ?_
      refine lv_icmp_ge (tgt := 134) hx hb dX1_init_116 (by decide) (fun c1 => ?_) (fun c1 => ?_)
      · skip
        exact W.vret hx hb hrt (fun t ht hW => ⟨⟨(am, ym), rfl, rfl, by rw [ht, hq]; exact hP, va_K.moved hW.alike hK, by rw [hq]; exact hD⟩, hS.F ht⟩) hS.2.2 dX1_init_134
      · skip
        exact absurd (by decide) c1
    | succ a ih =>
      intro i f H locs hk hq hP hD hS ls hl
      have ci : (nI i).toNatClampNeg = i := nI_clamp (by omega)
      refine lv_iload_n hx hb dX1_init_112 rfl (lv_at hl 0 rfl) ?_
      refine lv_sipush (v := 1024) hx hb dX1_init_113 (by decide) ?_
      refine lv_icmp_ge (tgt := 134) hx hb dX1_init_116 (by decide) (fun c1 => ?_) (fun c1 => ?_)
      · skip
        exact absurd (show nI 1024 ≤ nI i from c1) (nI_ge (by omega) (by omega))
      · skip
        refine lv_aload_n hx hb dX1_init_119 rfl (lv_at hl 1 rfl) ?_
        refine va_get (D := (dC, dI)) (ci := 1) (v := .ref (am 6)) (C := RX1) (T := TX1) (N := 14) hx hb hw inX1 hown hK hP 0 rfl rfl 12 (by decide) (hw _ wb_280) (fun _ h9 => h9) rfl dX1_init_120 ?_
        refine lv_iload_n hx hb dX1_init_123 rfl (lv_at hl 0 rfl) ?_
        refine lv_ldc2 (v := (-1)) hx hb hown (hw _ wb_267) dX1_init_124 ?_
        refine va_last hx hb hK hP hD hS 6 5 rfl rfl (vp_in_nI (by omega) (by decide)) dX1_init_127 (fun H locs hP hD hS => ?_)
        have hP : va_P (dC, dI) cls2 (MW am ym (0, 0, 0, 0, 0, 0, 0, (fun _ => 0), (fun _ => 0), (fun _ => 0), (fun _ => 0), (fun _ => 0), vp_updL f (nI i).toNatClampNeg (-1), lw_out 6 1 (fun _ => 0))) H := hP
        have hD : va_D A (MW am ym (0, 0, 0, 0, 0, 0, 0, (fun _ => 0), (fun _ => 0), (fun _ => 0), (fun _ => 0), (fun _ => 0), vp_updL f (nI i).toNatClampNeg (-1), lw_out 6 1 (fun _ => 0))) := hD
        rw [ci] at hP hD
        refine lv_iinc (v := (nI i) + 1) (lv' := [(1, .int ((nI i) + 1)), (0, .ref (am 0))]) hx hb dX1_init_128 hl (k := 0) rfl rfl (by decide) rfl (fun ls hl => ?_)
        refine lv_goto (tgt := 112) hx hb dX1_init_131 (by decide) ?_
        rw [nI_1] at hl
        exact ih (i + 1) _ H _ (by omega) hq hP hD hS ls hl
  have loop2 : ∀ (v : Nat), 1 ≤ v → v < 7 → ∀ (a k : Nat) (f g : Nat → Int64) (H : Heap) (locs : List Loc), k + a = 64 → lw_in v 64 0 g = lw_in v a k f → (∀ (H : Heap) (locs : List Loc), va_P (dC, dI) cls2 (MW am ym (0, 0, 0, 0, 0, 0, 0, (fun _ => 0), (fun _ => 0), (fun _ => 0), (fun _ => 0), (fun _ => 0), (fun _ => 0), lw_in v 64 0 g)) H → va_D A (MW am ym (0, 0, 0, 0, 0, 0, 0, (fun _ => 0), (fun _ => 0), (fun _ => 0), (fun _ => 0), (fun _ => 0), (fun _ => 0), lw_in v 64 0 g)) → va_S A s.heap H locs → ∀ ls, lv_has ls 3 [(1, .int (nI v)), (0, .ref (am 0))] → W p l e (headSpec wsX1_init (rmN 1 7 11304)).room s m ([.ref (am 0)] : List Value).toArray below meth c H locs 7 11304 (MQ below (va_Qv (fun (u : (Nat → Nat) × (Nat → ClassId)) => u.1 0 = am 0) (fun u t => atM dC dI A u.1 u.2 (0, 0, 0, 0, 0, 0, 0, (fun _ => 0), (fun _ => 0), (fun _ => 0), (fun _ => 0), (fun _ => 0), mo_it 1024 0 (fun _ => 0), lw_out 6 1 (fun _ => 0)) t) A) ([.ref (am 0)] : List Value).toArray s 7 11304 A) (F0 m 104 ls [])) → va_P (dC, dI) cls2 (MW am ym (0, 0, 0, 0, 0, 0, 0, (fun _ => 0), (fun _ => 0), (fun _ => 0), (fun _ => 0), (fun _ => 0), (fun _ => 0), f)) H → va_D A (MW am ym (0, 0, 0, 0, 0, 0, 0, (fun _ => 0), (fun _ => 0), (fun _ => 0), (fun _ => 0), (fun _ => 0), (fun _ => 0), f)) → va_S A s.heap H locs → ∀ ls, lv_has ls 3 [(2, .int (nI k)), (1, .int (nI v)), (0, .ref (am 0))] → W p l e (headSpec wsX1_init (rmN 1 7 11304)).room s m ([.ref (am 0)] : List Value).toArray below meth c H locs 7 11304 (MQ below (va_Qv (fun (u : (Nat → Nat) × (Nat → ClassId)) => u.1 0 = am 0) (fun u t => atM dC dI A u.1 u.2 (0, 0, 0, 0, 0, 0, 0, (fun _ => 0), (fun _ => 0), (fun _ => 0), (fun _ => 0), (fun _ => 0), mo_it 1024 0 (fun _ => 0), lw_out 6 1 (fun _ => 0)) t) A) ([.ref (am 0)] : List Value).toArray s 7 11304 A) (F0 m 73 ls []) := by
    intro v hv1 hv7 a
    have cv : (nI v).toNatClampNeg = v := nI_clamp (by omega)
    have hiv : vp_in (nI v) 7 := vp_in_nI (by omega) (by decide)
    induction a with
    | zero =>
      intro k f g H locs hk hq h9 hP hD hS ls hl
      have e0 : k = 64 := by omega
      subst e0
      refine lv_iload_n hx hb dX1_init_73 rfl (lv_at hl 0 rfl) ?_
      refine lv_bipush (v := 64) hx hb dX1_init_74 (by decide) ?_
      refine lv_icmp_ge (tgt := 104) hx hb dX1_init_76 (by decide) (fun c1 => ?_) (fun c1 => ?_)
      · skip
        exact h9 H locs (by rw [hq]; exact hP) (by rw [hq]; exact hD) hS ls (lv_sub hl [1, 2] rfl)
      · skip
        exact absurd (by decide) c1
    | succ a ih =>
      intro k f g H locs hk hq h9 hP hD hS ls hl
      refine lv_iload_n hx hb dX1_init_73 rfl (lv_at hl 0 rfl) ?_
      refine lv_bipush (v := 64) hx hb dX1_init_74 (by decide) ?_
      refine lv_icmp_ge (tgt := 104) hx hb dX1_init_76 (by decide) (fun c1 => ?_) (fun c1 => ?_)
      · skip
        exact absurd (show nI 64 ≤ nI k from c1) (nI_ge (by omega) (by omega))
      · skip
        refine lv_aload_n hx hb dX1_init_79 rfl (lv_at hl 2 rfl) ?_
        refine va_get (D := (dC, dI)) (ci := 1) (v := .ref (am 7)) (C := RX1) (T := TX1) (N := 14) hx hb hw inX1 hown hK hP 0 rfl rfl 13 (by decide) (hw _ wb_281) (fun _ h9 => h9) rfl dX1_init_80 ?_
        refine lv_iload_n hx hb dX1_init_83 rfl (lv_at hl 1 rfl) ?_
        refine lv_dup2_11 hx hb dX1_init_84 rfl rfl ?_
        refine va_lald hx hb hK hP 7 6 rfl rfl hiv dX1_init_85 ?_
        rw [cv]
        refine lv_iload_n hx hb dX1_init_86 rfl (lv_at hl 0 rfl) ?_
        refine lv_iload_n hx hb dX1_init_87 rfl (lv_at hl 1 rfl) ?_
        refine lv_iconst (v := 1) hx hb dX1_init_88 (by decide) ?_
        refine lv_isub hx hb dX1_init_89 ?_
        refine lv_ishr hx hb dX1_init_90 ?_
        refine lv_iconst (v := 1) hx hb dX1_init_91 (by decide) ?_
        refine lv_iand hx hb dX1_init_92 ?_
        refine lv_i2l (v := (((nI k) >>> (((nI v) - 1) &&& 31)) &&& 1).toInt64) hx hb dX1_init_93 rfl ?_
        refine lv_iload_n hx hb dX1_init_94 rfl (lv_at hl 0 rfl) ?_
        refine lv_lshl (v := ((((nI k) >>> (((nI v) - 1) &&& 31)) &&& 1).toInt64) <<< ((nI k).toInt64 &&& 63)) hx hb dX1_init_95 rfl ?_
        refine lv_lor hx hb dX1_init_96 ?_
        refine va_last hx hb hK hP hD hS 7 6 rfl rfl hiv dX1_init_97 (fun H locs hP hD hS => ?_)
        have hP : va_P (dC, dI) cls2 (MW am ym (0, 0, 0, 0, 0, 0, 0, (fun _ => 0), (fun _ => 0), (fun _ => 0), (fun _ => 0), (fun _ => 0), (fun _ => 0), vp_updL f (nI v).toNatClampNeg ((f v) ||| (((((nI k) >>> (((nI v) - 1) &&& 31)) &&& 1).toInt64) <<< ((nI k).toInt64 &&& 63))))) H := hP
        have hD : va_D A (MW am ym (0, 0, 0, 0, 0, 0, 0, (fun _ => 0), (fun _ => 0), (fun _ => 0), (fun _ => 0), (fun _ => 0), (fun _ => 0), vp_updL f (nI v).toNatClampNeg ((f v) ||| (((((nI k) >>> (((nI v) - 1) &&& 31)) &&& 1).toInt64) <<< ((nI k).toInt64 &&& 63))))) := hD
        rw [cv] at hP hD
        refine lv_iinc (v := (nI k) + 1) (lv' := [(2, .int ((nI k) + 1)), (1, .int (nI v)), (0, .ref (am 0))]) hx hb dX1_init_98 hl (k := 0) rfl rfl (by decide) rfl (fun ls hl => ?_)
        refine lv_goto (tgt := 73) hx hb dX1_init_101 (by decide) ?_
        rw [nI_1] at hl
        exact ih (k + 1) _ g H _ (by omega) hq h9 hP hD hS ls (lv_sub hl [0, 1, 2] rfl)
  have loop1 : ∀ (a v : Nat) (f : Nat → Int64) (H : Heap) (locs : List Loc), v + a = 7 → 1 ≤ v → lw_out 6 1 (fun _ => 0) = lw_out a v f → va_P (dC, dI) cls2 (MW am ym (0, 0, 0, 0, 0, 0, 0, (fun _ => 0), (fun _ => 0), (fun _ => 0), (fun _ => 0), (fun _ => 0), (fun _ => 0), f)) H → va_D A (MW am ym (0, 0, 0, 0, 0, 0, 0, (fun _ => 0), (fun _ => 0), (fun _ => 0), (fun _ => 0), (fun _ => 0), (fun _ => 0), f)) → va_S A s.heap H locs → ∀ ls, lv_has ls 3 [(1, .int (nI v)), (0, .ref (am 0))] → W p l e (headSpec wsX1_init (rmN 1 7 11304)).room s m ([.ref (am 0)] : List Value).toArray below meth c H locs 7 11304 (MQ below (va_Qv (fun (u : (Nat → Nat) × (Nat → ClassId)) => u.1 0 = am 0) (fun u t => atM dC dI A u.1 u.2 (0, 0, 0, 0, 0, 0, 0, (fun _ => 0), (fun _ => 0), (fun _ => 0), (fun _ => 0), (fun _ => 0), mo_it 1024 0 (fun _ => 0), lw_out 6 1 (fun _ => 0)) t) A) ([.ref (am 0)] : List Value).toArray s 7 11304 A) (F0 m 65 ls []) := by
    intro a
    induction a with
    | zero =>
      intro v f H locs hk hv1 hq hP hD hS ls hl
      have e0 : v = 7 := by omega
      subst e0
      refine lv_iload_n hx hb dX1_init_65 rfl (lv_at hl 0 rfl) ?_
      refine lv_bipush (v := 7) hx hb dX1_init_66 (by decide) ?_
      refine lv_icmp_ge (tgt := 110) hx hb dX1_init_68 (by decide) (fun c1 => ?_) (fun c1 => ?_)
      · skip
        refine lv_iconst (v := 0) hx hb dX1_init_110 (by decide) ?_
        refine lv_istore_n (lv' := [(1, .int 0), (0, .ref (am 0))]) hx hb dX1_init_111 rfl hl (by decide) rfl (fun ls hl => ?_)
        exact loop3 1024 0 _ H _ rfl rfl (by rw [hq]; exact hP) (by rw [hq]; exact hD) hS ls hl
      · skip
        exact absurd (by decide) c1
    | succ a ih =>
      intro v f H locs hk hv1 hq hP hD hS ls hl
      refine lv_iload_n hx hb dX1_init_65 rfl (lv_at hl 0 rfl) ?_
      refine lv_bipush (v := 7) hx hb dX1_init_66 (by decide) ?_
      refine lv_icmp_ge (tgt := 110) hx hb dX1_init_68 (by decide) (fun c1 => ?_) (fun c1 => ?_)
      · skip
        exact absurd (show nI 7 ≤ nI v from c1) (nI_ge (by omega) (by omega))
      · skip
        refine lv_iconst (v := 0) hx hb dX1_init_71 (by decide) ?_
        refine lv_istore_n (lv' := [(2, .int 0), (1, .int (nI v)), (0, .ref (am 0))]) hx hb dX1_init_72 rfl hl (by decide) rfl (fun ls hl => ?_)
        refine loop2 v hv1 (by omega) 64 0 f f H locs rfl rfl ?_ hP hD hS ls hl
        intro H locs hP hD hS ls hl
        refine lv_iinc (v := (nI v) + 1) (lv' := [(1, .int ((nI v) + 1)), (0, .ref (am 0))]) hx hb dX1_init_104 hl (k := 0) rfl rfl (by decide) rfl (fun ls hl => ?_)
        refine lv_goto (tgt := 65) hx hb dX1_init_107 (by decide) ?_
        rw [nI_1] at hl
        exact ih (v + 1) _ H _ (by omega) (by omega) hq hP hD hS ls hl
  refine lv_iconst (v := 1) hx hb dX1_init_63 (by decide) ?_
  refine lv_istore_n (lv' := [(1, .int 1), (0, .ref (am 0))]) hx hb dX1_init_64 rfl hl (by decide) rfl (fun ls hl => ?_)
  exact loop1 6 1 _ H _ rfl (Nat.le_refl _) rfl hP hD hS ls hl
end
section
/-! the law's own methods: a call of the class, what it throws told by a number -/
abbrev XOW (ax : Nat → Nat) (yx : Nat → ClassId) (qo : Nat) (yo : ClassId) (u : XS × (Nat → Int64)) : va_W := match u with
  | ((cc, tc, fc, hc, dr, dO, fC, fO, fT, fH), g) => [(ax 0, .inr (0, [.ref (ax 1), .ref (ax 2), .ref (ax 3), .ref (ax 4), .int cc, .int tc, .int fc, .int hc, .int dr, .long dO])), (ax 1, .inl (yx 1, 600, .inl fC)), (ax 2, .inl (yx 2, 600, .inr (.inl fO))), (ax 3, .inl (yx 3, 600, .inl fT)), (ax 4, .inl (yx 4, 40, .inl fH)), (qo, .inl (yo, 1, .inr (.inl g)))]
abbrev tysXO (yx : Nat → ClassId) (yo : ClassId) : List (ClassId × FieldType) := [(yx 1, .int), (yx 2, .long), (yx 3, .boolean), (yx 4, .int), (yo, .long)]
abbrev preXO (dC : Nat → ClassId) (dI : Nat → Nat → Nat) (ax : Nat → Nat) (yx : Nat → ClassId) (qo : Nat) (yo : ClassId) (sz : Nat) (u : XS × (Nat → Int64)) (U : State) : Prop := U.heap.size = sz ∧ va_P (dC, dI) cls2 (XOW ax yx qo yo u) U.heap ∧ va_K (dC, dI) cls2 (tysXO yx yo) U ∧ va_D (fun _ => True) (XOW ax yx qo yo u) ∧ ThU U
abbrev atXO (dC : Nat → ClassId) (dI : Nat → Nat → Nat) (A : Nat → Prop) (ax : Nat → Nat) (yx : Nat → ClassId) (qo : Nat) (yo : ClassId) (u : XS × (Nat → Int64)) (t : State) : Prop := va_P (dC, dI) cls2 (XOW ax yx qo yo u) t.heap ∧ va_K (dC, dI) cls2 (tysXO yx yo) t ∧ va_D A (XOW ax yx qo yo u)
theorem blind_preXO {dC : Nat → ClassId} {dI : Nat → Nat → Nat} {ax : Nat → Nat} {yx : Nat → ClassId} {qo : Nat} {yo : ClassId} {sz : Nat} {u : XS × (Nat → Int64)} {av : List Value} : FrameBlind (va_Pc av (preXO dC dI ax yx qo yo sz u)) := fun a U g mk q => by
  obtain ⟨q0, q1, qP, qK, qD, qT⟩ := q
  exact ⟨q0, q1, qP, va_K.moved (u := U) (U := U.calling g mk a) (Vm.Alike.refl U.vm) qK, qD, qT.calling⟩
theorem in_01 : vp_in (0 : Int32) 1 := vp_in_nI (n := 0) (N := 1) (by decide) (by decide)
abbrev o_set (g : Nat → Int64) (v : Int32) : Nat → Int64 := vp_updL g (0 : Int32).toNatClampNeg v.toInt64
set_option maxHeartbeats 800000 in
set_option maxRecDepth 100000 in
/-- L_literal -/
theorem l_literal (l : Launch) (hl9 : l.stackTraces = false) (dC : Nat → ClassId) (dI : Nat → Nat → Nat) (ax : Nat → Nat) (yx : Nat → ClassId) (qo : Nat) (yo : ClassId) (sz0 : Nat) (cc tc fc hc dr : Int32) (dO : Int64) (fC : Nat → Int32) (fO : Nat → Int64) (fT fH : Nat → Int32) (g : Nat → Int64) (k : Int32) : Met l yL_literal wsL_literal (rmN 8 1 6) (va_Pc [.ref (ax 0), .int k, .ref qo] (preXO dC dI ax yx qo yo sz0 ((cc, tc, fc, hc, dr, dO, fC, fO, fT, fH), g))) (va_Qi (fun (r : Int32) (u : XS × (Nat → Int64)) => (lt_bad dr k ∧ r = 1 ∧ u = ((cc, tc, fc, hc, dr, dO, fC, fO, fT, fH), g)) ∨ (¬ lt_bad dr k ∧ r = 0 ∧ u = ((cc, tc, fc, hc, dr ||| mk_bit k, lt_ord dr dO k, fC, fO, fT, fH), o_set g (nI (pb_sz (dr ||| mk_bit k)))))) (atXO dC dI (va_A (XOW ax yx qo yo ((cc, tc, fc, hc, dr, dO, fC, fO, fT, fH), g)) sz0) ax yx qo yo) (va_A (XOW ax yx qo yo ((cc, tc, fc, hc, dr, dO, fC, fO, fT, fH), g)) sz0)) 1 6 (va_A (XOW ax yx qo yo ((cc, tc, fc, hc, dr, dO, fC, fO, fT, fH), g)) sz0) := by
  refine va_MetW (cc := cL_literal) (maxL := 4) (ret := (some .int)) (by decide) rfl ?_
  intro p e s m args below meth c s₁ B hml hv
  obtain ⟨rfl, hsz, hP, hK, hD0, hT⟩ := hv
  have hx := B.exec
  have hb := B.bytes
  have hrt := B.returns
  have hlocks := B.notSynchronized
  have hts := atoms_spec (ws := wsL_literal) B.pre
  have hw : ∀ w ∈ WB, w.before ([.ref (ax 0), .int k, .ref qo] : List Value).toArray s = true := fun w h => hts w (List.mem_cons_of_mem _ h)
  have hown : s.vm.findClass "ProofBenchLaw" = some m.cls := findClass_of_methodNamed B.named
  have htab := vx_table (x := yL_law) B (hts _ List.mem_cons_self)
  subst hsz
  have hD := hD0.self (sz := s.heap.size)
  generalize hAe : va_A (XOW ax yx qo yo ((cc, tc, fc, hc, dr, dO, fC, fO, fT, fH), g)) s.heap.size = A at hD ⊢
  have hA : ∀ q : Nat, s.heap.size ≤ q → A q := fun q h => by rw [← hAe]; exact Or.inr h
  have hS : va_S A s.heap s.heap [] := va_S.rf
  have hP : va_P (dC, dI) cls2 (XOW ax yx qo yo ((cc, tc, fc, hc, dr, dO, fC, fO, fT, fH), g)) s.heap := hP
  have hl := lv_entry ([.ref (ax 0), .int k, .ref qo]) (n := 4) (Nat.le_of_ble_eq_true rfl)
  rw [lg_entry_eq]
  generalize (lg_sl ([.ref (ax 0), .int k, .ref qo]) ++ List.replicate (4 - (lg_sl ([.ref (ax 0), .int k, .ref qo])).length) Slot.unset).toArray = ls at hl ⊢
  have hl : lv_has ls 4 [(0, .ref (ax 0)), (1, .int k), (2, .ref qo)] := hl
  refine lv_aload_n hx hb dL_literal_0 rfl (lv_at hl 2 rfl) ?_
  refine lv_iconst (v := 0) hx hb dL_literal_1 (by decide) ?_
  refine lv_aload_n hx hb dL_literal_2 rfl (lv_at hl 0 rfl) ?_
  refine lv_iload_n hx hb dL_literal_3 rfl (lv_at hl 1 rfl) ?_
  have hPc := hP.sub (ws' := XW ax yx (cc, tc, fc, hc, dr, dO, fC, fO, fT, fH)) [0, 1, 2, 3, 4] rfl
  have hDc := hD.sub (ws' := XW ax yx (cc, tc, fc, hc, dr, dO, fC, fO, fT, fH)) [0, 1, 2, 3, 4] (by decide) rfl
  have hKc := hK.sub (tys' := tysX yx) [0, 1, 2, 3] rfl
  have hFc := va_free (wc := XW ax yx (cc, tc, fc, hc, dr, dO, fC, fO, fT, fH)) hD hS hA [0, 1, 2, 3, 4] rfl
  refine vx_calli (vx_runV (As := [.int k]) (rest := [.int 0, .ref qo]) ⟨hx, hb, hml, hown, hw⟩ (m_literal l hl9 dC dI ax yx s.heap.size cc tc fc hc dr dO fC fO fT fH k) (cwV 1 hw (gw_V wb_93 wb_94 wb_95 wb_1 wb_96) rfl rfl rfl (by decide +kernel) ⟨Nat.le_of_ble_eq_true rfl, Nat.le_of_ble_eq_true rfl⟩) ⟨blind_preXT, va_recv hKc hPc (ci := 0) (q0 := 0) rfl rfl, fun U hU hW => ⟨rfl, ⟨by rw [hU], by rw [hU]; exact hPc, va_K.moved hW.alike hKc, hDc.weaken (fun _ _ _ _ => trivial)⟩, ThU.at hU hW hT⟩⟩ rfl rfl hl.1 rfl (lv_room (Nat.le_of_ble_eq_true rfl)) dL_literal_4 ⟨(Nat.le_of_ble_eq_true rfl), (Nat.le_of_ble_eq_true rfl)⟩) hS (fun q _ h => hFc q h) hFc (fun q hq h => absurd hq (Nat.not_lt.mpr h)) ?_ ?_
  · intro E ce q9 u t H1 locs ht hvm hpx hBX h1 h2 hS hce hcv hcl
    have hP : va_P (dC, dI) cls2 (XOW ax yx qo yo ((cc, tc, fc, hc, dr, dO, fC, fO, fT, fH), g)) H1 := hP.kept (fun k x hx => h2 x.1 (hP k x hx).lt (Nat.not_le.mpr (hP k x hx).lt))
    subst hBX
    refine vx_catch (own := "ProofBenchLaw") (name := IAE) hown [] ⟨0, 9, 12, 13⟩ [] htab (fun z hz => nomatch hz) (by decide) (by decide) (hw _ wb_92) (va_Nw.use rfl hT.2.2.1) hce hcv hcl ?_
    refine lv_astore_n (lv' := [(3, .ref q9), (0, .ref (ax 0)), (1, .int k), (2, .ref qo)]) hx hb dL_literal_12 rfl hl (by decide) rfl (fun ls hl => ?_)
    refine lv_iconst (v := 1) hx hb dL_literal_13 (by decide) ?_
    refine W.widen (k := 1) (n := 6) (Nat.le_of_ble_eq_true rfl) (Nat.le_of_ble_eq_true rfl) ?_
    exact W.iret (v := 1) hx hb hrt (fun t ht hW => ⟨⟨_, _, rfl, Or.inl ⟨hpx, rfl, rfl⟩, by rw [ht]; exact hP, va_K.moved hW.alike hK, hD⟩, hS.F ht⟩) hS.2.2 dL_literal_14
  · intro r1 u t H1 locs ht hvm hq hB hz1 hk1 hS
    obtain ⟨nb, er1, rfl⟩ := hq
    obtain ⟨hP1, hK1, hD1⟩ := hB
    rw [ht] at hP1
    obtain ⟨hP, hD⟩ := va_join (wr := [(qo, .inl (yo, 1, .inr (.inl g)))]) (w1 := XW ax yx (cc, tc, fc, hc, dr ||| mk_bit k, lt_ord dr dO k, fC, fO, fT, fH)) hP hD [0, 1, 2, 3, 4] [5] rfl rfl (by decide) (by decide) hk1 hFc hP1 hD1
    have hP : va_P (dC, dI) cls2 (XOW ax yx qo yo ((cc, tc, fc, hc, dr ||| mk_bit k, lt_ord dr dO k, fC, fO, fT, fH), g)) H1 := hP.sub [1, 2, 3, 4, 5, 0] rfl
    have hD : va_D A (XOW ax yx qo yo ((cc, tc, fc, hc, dr ||| mk_bit k, lt_ord dr dO k, fC, fO, fT, fH), g)) := hD.sub [1, 2, 3, 4, 5, 0] (by decide) rfl
    generalize H1 = H at hP hS ⊢
    refine lv_i2l (v := r1.toInt64) hx hb dL_literal_7 rfl ?_
    refine va_last hx hb hK hP hD hS 5 4 rfl rfl in_01 dL_literal_8 (fun H locs hP hD hS => ?_)
    have hP : va_P (dC, dI) cls2 (XOW ax yx qo yo ((cc, tc, fc, hc, dr ||| mk_bit k, lt_ord dr dO k, fC, fO, fT, fH), o_set g r1)) H := hP
    have hD : va_D A (XOW ax yx qo yo ((cc, tc, fc, hc, dr ||| mk_bit k, lt_ord dr dO k, fC, fO, fT, fH), o_set g r1)) := hD
    refine lv_goto (tgt := 15) hx hb dL_literal_9 (by decide) ?_
    refine lv_iconst (v := 0) hx hb dL_literal_15 (by decide) ?_
    refine W.widen (k := 1) (n := 6) (Nat.le_of_ble_eq_true rfl) (Nat.le_of_ble_eq_true rfl) ?_
    exact W.iret (v := 0) hx hb hrt (fun t ht hW => ⟨⟨_, _, rfl, Or.inr ⟨nb, rfl, by rw [er1]⟩, by rw [ht]; exact hP, va_K.moved hW.alike hK, hD⟩, hS.F ht⟩) hS.2.2 dL_literal_16
set_option maxHeartbeats 800000 in
set_option maxRecDepth 100000 in
/-- L_hint -/
theorem l_hint (l : Launch) (hl9 : l.stackTraces = false) (dC : Nat → ClassId) (dI : Nat → Nat → Nat) (ax : Nat → Nat) (yx : Nat → ClassId) (qo : Nat) (yo : ClassId) (sz0 : Nat) (cc tc fc hc dr : Int32) (dO : Int64) (fC : Nat → Int32) (fO : Nat → Int64) (fT fH : Nat → Int32) (g : Nat → Int64) (k : Int32) (q : Nat) (ehc : hc = nI q) (hq40 : q ≤ 40) : Met l yL_hint wsL_hint (rmN 8 1 6) (va_Pc [.ref (ax 0), .int k, .ref qo] (preXO dC dI ax yx qo yo sz0 ((cc, tc, fc, hc, dr, dO, fC, fO, fT, fH), g))) (va_Qi (fun (r : Int32) (u : XS × (Nat → Int64)) => ((k < 0 ∨ ¬ k < 600) ∧ r = 1 ∧ u = ((cc, tc, fc, hc, dr, dO, fC, fO, fT, fH), g)) ∨ ((¬ (k < 0 ∨ ¬ k < 600) ∧ ¬ hc < 40) ∧ r = 2 ∧ u = ((cc, tc, fc, hc, dr, dO, fC, fO, fT, fH), g)) ∨ (¬ (k < 0 ∨ ¬ k < 600) ∧ hc < 40 ∧ r = 0 ∧ u = ((cc, tc, fc, hc + 1, dr, dO, fC, fO, fT, upd fH hc.toNatClampNeg k), o_set g (hc + 1)))) (atXO dC dI (va_A (XOW ax yx qo yo ((cc, tc, fc, hc, dr, dO, fC, fO, fT, fH), g)) sz0) ax yx qo yo) (va_A (XOW ax yx qo yo ((cc, tc, fc, hc, dr, dO, fC, fO, fT, fH), g)) sz0)) 1 6 (va_A (XOW ax yx qo yo ((cc, tc, fc, hc, dr, dO, fC, fO, fT, fH), g)) sz0) := by
  refine va_MetW (cc := cL_hint) (maxL := 4) (ret := (some .int)) (by decide) rfl ?_
  intro p e s m args below meth c s₁ B hml hv
  obtain ⟨rfl, hsz, hP, hK, hD0, hT⟩ := hv
  have hx := B.exec
  have hb := B.bytes
  have hrt := B.returns
  have hlocks := B.notSynchronized
  have hts := atoms_spec (ws := wsL_hint) B.pre
  have hw : ∀ w ∈ WB, w.before ([.ref (ax 0), .int k, .ref qo] : List Value).toArray s = true := fun w h => hts w (List.mem_cons_of_mem _ h)
  have hown : s.vm.findClass "ProofBenchLaw" = some m.cls := findClass_of_methodNamed B.named
  have htab := vx_table (x := yL_law) B (hts _ List.mem_cons_self)
  subst hsz
  have hD := hD0.self (sz := s.heap.size)
  generalize hAe : va_A (XOW ax yx qo yo ((cc, tc, fc, hc, dr, dO, fC, fO, fT, fH), g)) s.heap.size = A at hD ⊢
  have hA : ∀ q : Nat, s.heap.size ≤ q → A q := fun q h => by rw [← hAe]; exact Or.inr h
  have hS : va_S A s.heap s.heap [] := va_S.rf
  have hP : va_P (dC, dI) cls2 (XOW ax yx qo yo ((cc, tc, fc, hc, dr, dO, fC, fO, fT, fH), g)) s.heap := hP
  have hl := lv_entry ([.ref (ax 0), .int k, .ref qo]) (n := 4) (Nat.le_of_ble_eq_true rfl)
  rw [lg_entry_eq]
  generalize (lg_sl ([.ref (ax 0), .int k, .ref qo]) ++ List.replicate (4 - (lg_sl ([.ref (ax 0), .int k, .ref qo])).length) Slot.unset).toArray = ls at hl ⊢
  have hl : lv_has ls 4 [(0, .ref (ax 0)), (1, .int k), (2, .ref qo)] := hl
  refine lv_aload_n hx hb dL_hint_0 rfl (lv_at hl 2 rfl) ?_
  refine lv_iconst (v := 0) hx hb dL_hint_1 (by decide) ?_
  refine lv_aload_n hx hb dL_hint_2 rfl (lv_at hl 0 rfl) ?_
  refine lv_iload_n hx hb dL_hint_3 rfl (lv_at hl 1 rfl) ?_
  have hPc := hP.sub (ws' := XW ax yx (cc, tc, fc, hc, dr, dO, fC, fO, fT, fH)) [0, 1, 2, 3, 4] rfl
  have hDc := hD.sub (ws' := XW ax yx (cc, tc, fc, hc, dr, dO, fC, fO, fT, fH)) [0, 1, 2, 3, 4] (by decide) rfl
  have hKc := hK.sub (tys' := tysX yx) [0, 1, 2, 3] rfl
  have hFc := va_free (wc := XW ax yx (cc, tc, fc, hc, dr, dO, fC, fO, fT, fH)) hD hS hA [0, 1, 2, 3, 4] rfl
  refine vx_calli (vx_runV (As := [.int k]) (rest := [.int 0, .ref qo]) ⟨hx, hb, hml, hown, hw⟩ (m_hint l hl9 dC dI ax yx s.heap.size cc tc fc hc dr dO fC fO fT fH k q ehc hq40) (cwV 1 hw (gw_V wb_172 wb_173 wb_174 wb_1 wb_175) rfl rfl rfl (by decide +kernel) ⟨Nat.le_of_ble_eq_true rfl, Nat.le_of_ble_eq_true rfl⟩) ⟨blind_preXT, va_recv hKc hPc (ci := 0) (q0 := 0) rfl rfl, fun U hU hW => ⟨rfl, ⟨by rw [hU], by rw [hU]; exact hPc, va_K.moved hW.alike hKc, hDc.weaken (fun _ _ _ _ => trivial)⟩, ThU.at hU hW hT⟩⟩ rfl rfl hl.1 rfl (lv_room (Nat.le_of_ble_eq_true rfl)) dL_hint_4 ⟨(Nat.le_of_ble_eq_true rfl), (Nat.le_of_ble_eq_true rfl)⟩) hS (fun q _ h => hFc q h) hFc (fun q hq h => absurd hq (Nat.not_lt.mpr h)) ?_ ?_
  · intro E ce q9 u t H1 locs ht hvm hpx hBX h1 h2 hS hce hcv hcl
    have hP : va_P (dC, dI) cls2 (XOW ax yx qo yo ((cc, tc, fc, hc, dr, dO, fC, fO, fT, fH), g)) H1 := hP.kept (fun k x hx => h2 x.1 (hP k x hx).lt (Nat.not_le.mpr (hP k x hx).lt))
    rcases hBX with ⟨eE, hbad⟩ | ⟨eE, hbad⟩
    · subst eE
      refine vx_catch (own := "ProofBenchLaw") (name := IAE) hown [] ⟨0, 9, 12, 13⟩ [⟨0, 9, 15, 18⟩] htab (fun z hz => nomatch hz) (by decide) (by decide) (hw _ wb_92) (va_Nw.use rfl hT.2.2.1) hce hcv hcl ?_
      refine lv_astore_n (lv' := [(3, .ref q9), (0, .ref (ax 0)), (1, .int k), (2, .ref qo)]) hx hb dL_hint_12 rfl hl (by decide) rfl (fun ls hl => ?_)
      refine lv_iconst (v := 1) hx hb dL_hint_13 (by decide) ?_
      refine W.widen (k := 1) (n := 6) (Nat.le_of_ble_eq_true rfl) (Nat.le_of_ble_eq_true rfl) ?_
      exact W.iret (v := 1) hx hb hrt (fun t ht hW => ⟨⟨_, _, rfl, Or.inl ⟨hbad, rfl, rfl⟩, by rw [ht]; exact hP, va_K.moved hW.alike hK, hD⟩, hS.F ht⟩) hS.2.2 dL_hint_14
    · subst eE
      refine vx_catch (own := "ProofBenchLaw") (name := ISE) hown [⟨0, 9, 12, 13⟩] ⟨0, 9, 15, 18⟩ [] htab (fun z hz => by rw [List.mem_singleton.mp hz]; exact Or.inr ⟨by decide, IAE, hw _ wb_92, hT.2.2.2.2.2.2.2.2⟩) (by decide) (by decide) (hw _ wb_171) (va_Nw.use rfl hT.2.2.2.1) hce hcv hcl ?_
      refine lv_astore_n (lv' := [(3, .ref q9), (0, .ref (ax 0)), (1, .int k), (2, .ref qo)]) hx hb dL_hint_15 rfl hl (by decide) rfl (fun ls hl => ?_)
      refine lv_iconst (v := 2) hx hb dL_hint_16 (by decide) ?_
      refine W.widen (k := 1) (n := 6) (Nat.le_of_ble_eq_true rfl) (Nat.le_of_ble_eq_true rfl) ?_
      exact W.iret (v := 2) hx hb hrt (fun t ht hW => ⟨⟨_, _, rfl, Or.inr (Or.inl ⟨hbad, rfl, rfl⟩), by rw [ht]; exact hP, va_K.moved hW.alike hK, hD⟩, hS.F ht⟩) hS.2.2 dL_hint_17
  · intro r1 u t H1 locs ht hvm hq hB hz1 hk1 hS
    obtain ⟨nb, n40, er1, rfl⟩ := hq
    obtain ⟨hP1, hK1, hD1⟩ := hB
    rw [ht] at hP1
    obtain ⟨hP, hD⟩ := va_join (wr := [(qo, .inl (yo, 1, .inr (.inl g)))]) (w1 := XW ax yx (cc, tc, fc, hc + 1, dr, dO, fC, fO, fT, upd fH hc.toNatClampNeg k)) hP hD [0, 1, 2, 3, 4] [5] rfl rfl (by decide) (by decide) hk1 hFc hP1 hD1
    have hP : va_P (dC, dI) cls2 (XOW ax yx qo yo ((cc, tc, fc, hc + 1, dr, dO, fC, fO, fT, upd fH hc.toNatClampNeg k), g)) H1 := hP.sub [1, 2, 3, 4, 5, 0] rfl
    have hD : va_D A (XOW ax yx qo yo ((cc, tc, fc, hc + 1, dr, dO, fC, fO, fT, upd fH hc.toNatClampNeg k), g)) := hD.sub [1, 2, 3, 4, 5, 0] (by decide) rfl
    generalize H1 = H at hP hS ⊢
    refine lv_i2l (v := r1.toInt64) hx hb dL_hint_7 rfl ?_
    refine va_last hx hb hK hP hD hS 5 4 rfl rfl in_01 dL_hint_8 (fun H locs hP hD hS => ?_)
    have hP : va_P (dC, dI) cls2 (XOW ax yx qo yo ((cc, tc, fc, hc + 1, dr, dO, fC, fO, fT, upd fH hc.toNatClampNeg k), o_set g r1)) H := hP
    have hD : va_D A (XOW ax yx qo yo ((cc, tc, fc, hc + 1, dr, dO, fC, fO, fT, upd fH hc.toNatClampNeg k), o_set g r1)) := hD
    refine lv_goto (tgt := 18) hx hb dL_hint_9 (by decide) ?_
    refine lv_iconst (v := 0) hx hb dL_hint_18 (by decide) ?_
    refine W.widen (k := 1) (n := 6) (Nat.le_of_ble_eq_true rfl) (Nat.le_of_ble_eq_true rfl) ?_
    exact W.iret (v := 0) hx hb hrt (fun t ht hW => ⟨⟨_, _, rfl, Or.inr (Or.inr ⟨nb, n40, rfl, by rw [er1]⟩), by rw [ht]; exact hP, va_K.moved hW.alike hK, hD⟩, hS.F ht⟩) hS.2.2 dL_hint_19
set_option maxHeartbeats 800000 in
set_option maxRecDepth 100000 in
/-- L_drop -/
theorem l_drop (l : Launch) (hl9 : l.stackTraces = false) (dC : Nat → ClassId) (dI : Nat → Nat → Nat) (ax : Nat → Nat) (yx : Nat → ClassId) (qo : Nat) (yo : ClassId) (sz0 : Nat) (cc tc fc hc dr : Int32) (dO : Int64) (fC : Nat → Int32) (fO : Nat → Int64) (fT fH : Nat → Int32) (g : Nat → Int64) (k : Int32) (n : Nat) (hn : n ≤ 600) (ecc : cc = nI n) : Met l yL_drop wsL_drop (rmN 8 1 6) (va_Pc [.ref (ax 0), .int k, .ref qo] (preXO dC dI ax yx qo yo sz0 ((cc, tc, fc, hc, dr, dO, fC, fO, fT, fH), g))) (va_Qi (fun (r : Int32) (u : XS × (Nat → Int64)) => (th_b cc fT k = 0 ∧ r = 1 ∧ u = ((cc, tc, fc, hc, dr, dO, fC, fO, fT, fH), g)) ∨ (th_b cc fT k ≠ 0 ∧ r = 0 ∧ u = ((cc, tc - 1, fc, hc, dr, dO, fC, fO, upd fT k.toNatClampNeg (vp_nar .boolean 0), fH), o_set g (nI (pb_sz (fC k.toNatClampNeg)))))) (atXO dC dI (va_A (XOW ax yx qo yo ((cc, tc, fc, hc, dr, dO, fC, fO, fT, fH), g)) sz0) ax yx qo yo) (va_A (XOW ax yx qo yo ((cc, tc, fc, hc, dr, dO, fC, fO, fT, fH), g)) sz0)) 1 6 (va_A (XOW ax yx qo yo ((cc, tc, fc, hc, dr, dO, fC, fO, fT, fH), g)) sz0) := by
  refine va_MetW (cc := cL_drop) (maxL := 4) (ret := (some .int)) (by decide) rfl ?_
  intro p e s m args below meth c s₁ B hml hv
  obtain ⟨rfl, hsz, hP, hK, hD0, hT⟩ := hv
  have hx := B.exec
  have hb := B.bytes
  have hrt := B.returns
  have hlocks := B.notSynchronized
  have hts := atoms_spec (ws := wsL_drop) B.pre
  have hw : ∀ w ∈ WB, w.before ([.ref (ax 0), .int k, .ref qo] : List Value).toArray s = true := fun w h => hts w (List.mem_cons_of_mem _ h)
  have hown : s.vm.findClass "ProofBenchLaw" = some m.cls := findClass_of_methodNamed B.named
  have htab := vx_table (x := yL_law) B (hts _ List.mem_cons_self)
  subst hsz
  have hD := hD0.self (sz := s.heap.size)
  generalize hAe : va_A (XOW ax yx qo yo ((cc, tc, fc, hc, dr, dO, fC, fO, fT, fH), g)) s.heap.size = A at hD ⊢
  have hA : ∀ q : Nat, s.heap.size ≤ q → A q := fun q h => by rw [← hAe]; exact Or.inr h
  have hS : va_S A s.heap s.heap [] := va_S.rf
  have hP : va_P (dC, dI) cls2 (XOW ax yx qo yo ((cc, tc, fc, hc, dr, dO, fC, fO, fT, fH), g)) s.heap := hP
  have hl := lv_entry ([.ref (ax 0), .int k, .ref qo]) (n := 4) (Nat.le_of_ble_eq_true rfl)
  rw [lg_entry_eq]
  generalize (lg_sl ([.ref (ax 0), .int k, .ref qo]) ++ List.replicate (4 - (lg_sl ([.ref (ax 0), .int k, .ref qo])).length) Slot.unset).toArray = ls at hl ⊢
  have hl : lv_has ls 4 [(0, .ref (ax 0)), (1, .int k), (2, .ref qo)] := hl
  refine lv_aload_n hx hb dL_drop_0 rfl (lv_at hl 2 rfl) ?_
  refine lv_iconst (v := 0) hx hb dL_drop_1 (by decide) ?_
  refine lv_aload_n hx hb dL_drop_2 rfl (lv_at hl 0 rfl) ?_
  refine lv_iload_n hx hb dL_drop_3 rfl (lv_at hl 1 rfl) ?_
  have hPc := hP.sub (ws' := XW ax yx (cc, tc, fc, hc, dr, dO, fC, fO, fT, fH)) [0, 1, 2, 3, 4] rfl
  have hDc := hD.sub (ws' := XW ax yx (cc, tc, fc, hc, dr, dO, fC, fO, fT, fH)) [0, 1, 2, 3, 4] (by decide) rfl
  have hKc := hK.sub (tys' := tysX yx) [0, 1, 2, 3] rfl
  have hFc := va_free (wc := XW ax yx (cc, tc, fc, hc, dr, dO, fC, fO, fT, fH)) hD hS hA [0, 1, 2, 3, 4] rfl
  refine vx_calli (vx_runV (As := [.int k]) (rest := [.int 0, .ref qo]) ⟨hx, hb, hml, hown, hw⟩ (m_drop l hl9 dC dI ax yx s.heap.size cc tc fc hc dr dO fC fO fT fH k n hn ecc) (cwV 1 hw (gw_V wb_235 wb_236 wb_237 wb_1 wb_238) rfl rfl rfl (by decide +kernel) ⟨Nat.le_of_ble_eq_true rfl, Nat.le_of_ble_eq_true rfl⟩) ⟨blind_preXT, va_recv hKc hPc (ci := 0) (q0 := 0) rfl rfl, fun U hU hW => ⟨rfl, ⟨by rw [hU], by rw [hU]; exact hPc, va_K.moved hW.alike hKc, hDc.weaken (fun _ _ _ _ => trivial)⟩, ThU.at hU hW hT⟩⟩ rfl rfl hl.1 rfl (lv_room (Nat.le_of_ble_eq_true rfl)) dL_drop_4 ⟨(Nat.le_of_ble_eq_true rfl), (Nat.le_of_ble_eq_true rfl)⟩) hS (fun q _ h => hFc q h) hFc (fun q hq h => absurd hq (Nat.not_lt.mpr h)) ?_ ?_
  · intro E ce q9 u t H1 locs ht hvm hpx hBX h1 h2 hS hce hcv hcl
    have hP : va_P (dC, dI) cls2 (XOW ax yx qo yo ((cc, tc, fc, hc, dr, dO, fC, fO, fT, fH), g)) H1 := hP.kept (fun k x hx => h2 x.1 (hP k x hx).lt (Nat.not_le.mpr (hP k x hx).lt))
    subst hBX
    refine vx_catch (own := "ProofBenchLaw") (name := IAE) hown [] ⟨0, 9, 12, 13⟩ [] htab (fun z hz => nomatch hz) (by decide) (by decide) (hw _ wb_92) (va_Nw.use rfl hT.2.2.1) hce hcv hcl ?_
    refine lv_astore_n (lv' := [(3, .ref q9), (0, .ref (ax 0)), (1, .int k), (2, .ref qo)]) hx hb dL_drop_12 rfl hl (by decide) rfl (fun ls hl => ?_)
    refine lv_iconst (v := 1) hx hb dL_drop_13 (by decide) ?_
    refine W.widen (k := 1) (n := 6) (Nat.le_of_ble_eq_true rfl) (Nat.le_of_ble_eq_true rfl) ?_
    exact W.iret (v := 1) hx hb hrt (fun t ht hW => ⟨⟨_, _, rfl, Or.inl ⟨hpx, rfl, rfl⟩, by rw [ht]; exact hP, va_K.moved hW.alike hK, hD⟩, hS.F ht⟩) hS.2.2 dL_drop_14
  · intro r1 u t H1 locs ht hvm hq hB hz1 hk1 hS
    obtain ⟨nb, er1, rfl⟩ := hq
    obtain ⟨hP1, hK1, hD1⟩ := hB
    rw [ht] at hP1
    obtain ⟨hP, hD⟩ := va_join (wr := [(qo, .inl (yo, 1, .inr (.inl g)))]) (w1 := XW ax yx (cc, tc - 1, fc, hc, dr, dO, fC, fO, upd fT k.toNatClampNeg (vp_nar .boolean 0), fH)) hP hD [0, 1, 2, 3, 4] [5] rfl rfl (by decide) (by decide) hk1 hFc hP1 hD1
    have hP : va_P (dC, dI) cls2 (XOW ax yx qo yo ((cc, tc - 1, fc, hc, dr, dO, fC, fO, upd fT k.toNatClampNeg (vp_nar .boolean 0), fH), g)) H1 := hP.sub [1, 2, 3, 4, 5, 0] rfl
    have hD : va_D A (XOW ax yx qo yo ((cc, tc - 1, fc, hc, dr, dO, fC, fO, upd fT k.toNatClampNeg (vp_nar .boolean 0), fH), g)) := hD.sub [1, 2, 3, 4, 5, 0] (by decide) rfl
    generalize H1 = H at hP hS ⊢
    refine lv_i2l (v := r1.toInt64) hx hb dL_drop_7 rfl ?_
    refine va_last hx hb hK hP hD hS 5 4 rfl rfl in_01 dL_drop_8 (fun H locs hP hD hS => ?_)
    have hP : va_P (dC, dI) cls2 (XOW ax yx qo yo ((cc, tc - 1, fc, hc, dr, dO, fC, fO, upd fT k.toNatClampNeg (vp_nar .boolean 0), fH), o_set g r1)) H := hP
    have hD : va_D A (XOW ax yx qo yo ((cc, tc - 1, fc, hc, dr, dO, fC, fO, upd fT k.toNatClampNeg (vp_nar .boolean 0), fH), o_set g r1)) := hD
    refine lv_goto (tgt := 15) hx hb dL_drop_9 (by decide) ?_
    refine lv_iconst (v := 0) hx hb dL_drop_15 (by decide) ?_
    refine W.widen (k := 1) (n := 6) (Nat.le_of_ble_eq_true rfl) (Nat.le_of_ble_eq_true rfl) ?_
    exact W.iret (v := 0) hx hb hrt (fun t ht hW => ⟨⟨_, _, rfl, Or.inr ⟨nb, rfl, by rw [er1]⟩, by rw [ht]; exact hP, va_K.moved hW.alike hK, hD⟩, hS.F ht⟩) hS.2.2 dL_drop_16
set_option maxHeartbeats 800000 in
set_option maxRecDepth 100000 in
/-- L_at -/
theorem l_at (l : Launch) (hl9 : l.stackTraces = false) (dC : Nat → ClassId) (dI : Nat → Nat → Nat) (ax : Nat → Nat) (yx : Nat → ClassId) (qo : Nat) (yo : ClassId) (sz0 : Nat) (cc tc fc hc dr : Int32) (dO : Int64) (fC : Nat → Int32) (fO : Nat → Int64) (fT fH : Nat → Int32) (g : Nat → Int64) (k : Int32) (i : Int32) (n : Nat) (hn : n ≤ 600) (ecc : cc = nI n) : Met l yL_at wsL_at (rmN 8 2 12) (va_Pc [.ref (ax 0), .int k, .int i, .ref qo] (preXO dC dI ax yx qo yo sz0 ((cc, tc, fc, hc, dr, dO, fC, fO, fT, fH), g))) (va_Qi (fun (r : Int32) (u : XS × (Nat → Int64)) => ((th_b cc fT k = 0 ∨ i < 0) ∧ r = 1 ∧ u = ((cc, tc, fc, hc, dr, dO, fC, fO, fT, fH), g)) ∨ (th_b cc fT k ≠ 0 ∧ ¬ i < 0 ∧ r = 0 ∧ u = ((cc, tc, fc, hc, dr, dO, fC, fO, fT, fH), o_set g (at_val (fC k.toNatClampNeg) (fO k.toNatClampNeg) i)))) (atXO dC dI (va_A (XOW ax yx qo yo ((cc, tc, fc, hc, dr, dO, fC, fO, fT, fH), g)) sz0) ax yx qo yo) (va_A (XOW ax yx qo yo ((cc, tc, fc, hc, dr, dO, fC, fO, fT, fH), g)) sz0)) 2 12 (va_A (XOW ax yx qo yo ((cc, tc, fc, hc, dr, dO, fC, fO, fT, fH), g)) sz0) := by
  refine va_MetW (cc := cL_at) (maxL := 5) (ret := (some .int)) (by decide) rfl ?_
  intro p e s m args below meth c s₁ B hml hv
  obtain ⟨rfl, hsz, hP, hK, hD0, hT⟩ := hv
  have hx := B.exec
  have hb := B.bytes
  have hrt := B.returns
  have hlocks := B.notSynchronized
  have hts := atoms_spec (ws := wsL_at) B.pre
  have hw : ∀ w ∈ WB, w.before ([.ref (ax 0), .int k, .int i, .ref qo] : List Value).toArray s = true := fun w h => hts w (List.mem_cons_of_mem _ h)
  have hown : s.vm.findClass "ProofBenchLaw" = some m.cls := findClass_of_methodNamed B.named
  have htab := vx_table (x := yL_law) B (hts _ List.mem_cons_self)
  subst hsz
  have hD := hD0.self (sz := s.heap.size)
  generalize hAe : va_A (XOW ax yx qo yo ((cc, tc, fc, hc, dr, dO, fC, fO, fT, fH), g)) s.heap.size = A at hD ⊢
  have hA : ∀ q : Nat, s.heap.size ≤ q → A q := fun q h => by rw [← hAe]; exact Or.inr h
  have hS : va_S A s.heap s.heap [] := va_S.rf
  have hP : va_P (dC, dI) cls2 (XOW ax yx qo yo ((cc, tc, fc, hc, dr, dO, fC, fO, fT, fH), g)) s.heap := hP
  have hl := lv_entry ([.ref (ax 0), .int k, .int i, .ref qo]) (n := 5) (Nat.le_of_ble_eq_true rfl)
  rw [lg_entry_eq]
  generalize (lg_sl ([.ref (ax 0), .int k, .int i, .ref qo]) ++ List.replicate (5 - (lg_sl ([.ref (ax 0), .int k, .int i, .ref qo])).length) Slot.unset).toArray = ls at hl ⊢
  have hl : lv_has ls 5 [(0, .ref (ax 0)), (1, .int k), (2, .int i), (3, .ref qo)] := hl
  refine lv_aload_n hx hb dL_at_0 rfl (lv_at hl 3 rfl) ?_
  refine lv_iconst (v := 0) hx hb dL_at_1 (by decide) ?_
  refine lv_aload_n hx hb dL_at_2 rfl (lv_at hl 0 rfl) ?_
  refine lv_iload_n hx hb dL_at_3 rfl (lv_at hl 1 rfl) ?_
  refine lv_iload_n hx hb dL_at_4 rfl (lv_at hl 2 rfl) ?_
  have hPc := hP.sub (ws' := XW ax yx (cc, tc, fc, hc, dr, dO, fC, fO, fT, fH)) [0, 1, 2, 3, 4] rfl
  have hDc := hD.sub (ws' := XW ax yx (cc, tc, fc, hc, dr, dO, fC, fO, fT, fH)) [0, 1, 2, 3, 4] (by decide) rfl
  have hKc := hK.sub (tys' := tysX yx) [0, 1, 2, 3] rfl
  have hFc := va_free (wc := XW ax yx (cc, tc, fc, hc, dr, dO, fC, fO, fT, fH)) hD hS hA [0, 1, 2, 3, 4] rfl
  refine vx_csi (vx_runV (As := [.int k, .int i]) (rest := [.int 0, .ref qo]) ⟨hx, hb, hml, hown, hw⟩ (m_at l hl9 dC dI ax yx s.heap.size cc tc fc hc dr dO fC fO fT fH k i n hn ecc) (cwV 2 hw (gw_V wb_247 wb_248 wb_249 wb_1 wb_250) rfl rfl rfl (by decide +kernel) ⟨Nat.le_of_ble_eq_true rfl, Nat.le_of_ble_eq_true rfl⟩) ⟨blind_rdXT, va_recv hKc hPc (ci := 0) (q0 := 0) rfl rfl, fun U hU hW => ⟨rfl, by rw [hU], ⟨by rw [hU]; exact hPc, va_K.moved hW.alike hKc⟩, ThU.at hU hW hT⟩⟩ rfl rfl hl.1 rfl (lv_room (Nat.le_of_ble_eq_true rfl)) dL_at_5 ⟨(Nat.le_of_ble_eq_true rfl), (Nat.le_of_ble_eq_true rfl)⟩) hS (fun q hq h => absurd hq (Nat.not_lt.mpr h)) ?_ ?_
  · intro E ce q9 u t H1 ht hvm hpx hBX h1 h2 hS hce hcv hcl
    have hP : va_P (dC, dI) cls2 (XOW ax yx qo yo ((cc, tc, fc, hc, dr, dO, fC, fO, fT, fH), g)) H1 := hP.kept (fun k x hx => h2 x.1 (hP k x hx).lt (Nat.not_le.mpr (hP k x hx).lt))
    subst hBX
    refine vx_catch (own := "ProofBenchLaw") (name := IAE) hown [] ⟨0, 10, 13, 13⟩ [] htab (fun z hz => nomatch hz) (by decide) (by decide) (hw _ wb_92) (va_Nw.use rfl hT.2.2.1) hce hcv hcl ?_
    refine lv_astore (lv' := [(4, .ref q9), (0, .ref (ax 0)), (1, .int k), (2, .int i), (3, .ref qo)]) hx hb dL_at_13 hl (by decide) rfl (fun ls hl => ?_)
    refine lv_iconst (v := 1) hx hb dL_at_15 (by decide) ?_
    refine W.widen (k := 2) (n := 12) (Nat.le_of_ble_eq_true rfl) (Nat.le_of_ble_eq_true rfl) ?_
    exact W.iret (v := 1) hx hb hrt (fun t ht hW => ⟨⟨_, _, rfl, Or.inl ⟨hpx, rfl, rfl⟩, by rw [ht]; exact hP, va_K.moved hW.alike hK, hD⟩, hS.F ht⟩) hS.2.2 dL_at_16
  · intro r1 hq
    refine lv_i2l (v := r1.toInt64) hx hb dL_at_8 rfl ?_
    refine va_last hx hb hK hP hD hS 5 4 rfl rfl in_01 dL_at_9 (fun H locs hP hD hS => ?_)
    have hP : va_P (dC, dI) cls2 (XOW ax yx qo yo ((cc, tc, fc, hc, dr, dO, fC, fO, fT, fH), o_set g r1)) H := hP
    have hD : va_D A (XOW ax yx qo yo ((cc, tc, fc, hc, dr, dO, fC, fO, fT, fH), o_set g r1)) := hD
    refine lv_goto (tgt := 17) hx hb dL_at_10 (by decide) ?_
    refine lv_iconst (v := 0) hx hb dL_at_17 (by decide) ?_
    refine W.widen (k := 2) (n := 12) (Nat.le_of_ble_eq_true rfl) (Nat.le_of_ble_eq_true rfl) ?_
    exact W.iret (v := 0) hx hb hrt (fun t ht hW => ⟨⟨_, _, rfl, Or.inr ⟨hq.1, hq.2.1, rfl, by rw [hq.2.2]⟩, by rw [ht]; exact hP, va_K.moved hW.alike hK, hD⟩, hS.F ht⟩) hS.2.2 dL_at_18
set_option maxHeartbeats 800000 in
set_option maxRecDepth 100000 in
/-- L_count -/
theorem l_count (l : Launch) (hl9 : l.stackTraces = false) (dC : Nat → ClassId) (dI : Nat → Nat → Nat) (ax : Nat → Nat) (yx : Nat → ClassId) (qo : Nat) (yo : ClassId) (sz0 : Nat) (cc tc fc hc dr : Int32) (dO : Int64) (fC : Nat → Int32) (fO : Nat → Int64) (fT fH : Nat → Int32) (g : Nat → Int64) (k : Int32) : Met l yL_count wsL_count (rmN 8 1 6) (va_Pc [.ref (ax 0), .int k, .ref qo] (preXO dC dI ax yx qo yo sz0 ((cc, tc, fc, hc, dr, dO, fC, fO, fT, fH), g))) (va_Qi (fun (r : Int32) (u : XS × (Nat → Int64)) => ((k < 0 ∨ 4 < k) ∧ r = 1 ∧ u = ((cc, tc, fc, hc, dr, dO, fC, fO, fT, fH), g)) ∨ (¬ (k < 0 ∨ 4 < k) ∧ r = 0 ∧ u = ((cc, tc, fc, hc, dr, dO, fC, fO, fT, fH), o_set g (cn_val cc tc fc hc dr k)))) (atXO dC dI (va_A (XOW ax yx qo yo ((cc, tc, fc, hc, dr, dO, fC, fO, fT, fH), g)) sz0) ax yx qo yo) (va_A (XOW ax yx qo yo ((cc, tc, fc, hc, dr, dO, fC, fO, fT, fH), g)) sz0)) 1 6 (va_A (XOW ax yx qo yo ((cc, tc, fc, hc, dr, dO, fC, fO, fT, fH), g)) sz0) := by
  refine va_MetW (cc := cL_count) (maxL := 4) (ret := (some .int)) (by decide) rfl ?_
  intro p e s m args below meth c s₁ B hml hv
  obtain ⟨rfl, hsz, hP, hK, hD0, hT⟩ := hv
  have hx := B.exec
  have hb := B.bytes
  have hrt := B.returns
  have hlocks := B.notSynchronized
  have hts := atoms_spec (ws := wsL_count) B.pre
  have hw : ∀ w ∈ WB, w.before ([.ref (ax 0), .int k, .ref qo] : List Value).toArray s = true := fun w h => hts w (List.mem_cons_of_mem _ h)
  have hown : s.vm.findClass "ProofBenchLaw" = some m.cls := findClass_of_methodNamed B.named
  have htab := vx_table (x := yL_law) B (hts _ List.mem_cons_self)
  subst hsz
  have hD := hD0.self (sz := s.heap.size)
  generalize hAe : va_A (XOW ax yx qo yo ((cc, tc, fc, hc, dr, dO, fC, fO, fT, fH), g)) s.heap.size = A at hD ⊢
  have hA : ∀ q : Nat, s.heap.size ≤ q → A q := fun q h => by rw [← hAe]; exact Or.inr h
  have hS : va_S A s.heap s.heap [] := va_S.rf
  have hP : va_P (dC, dI) cls2 (XOW ax yx qo yo ((cc, tc, fc, hc, dr, dO, fC, fO, fT, fH), g)) s.heap := hP
  have hl := lv_entry ([.ref (ax 0), .int k, .ref qo]) (n := 4) (Nat.le_of_ble_eq_true rfl)
  rw [lg_entry_eq]
  generalize (lg_sl ([.ref (ax 0), .int k, .ref qo]) ++ List.replicate (4 - (lg_sl ([.ref (ax 0), .int k, .ref qo])).length) Slot.unset).toArray = ls at hl ⊢
  have hl : lv_has ls 4 [(0, .ref (ax 0)), (1, .int k), (2, .ref qo)] := hl
  refine lv_aload_n hx hb dL_count_0 rfl (lv_at hl 2 rfl) ?_
  refine lv_iconst (v := 0) hx hb dL_count_1 (by decide) ?_
  refine lv_aload_n hx hb dL_count_2 rfl (lv_at hl 0 rfl) ?_
  refine lv_iload_n hx hb dL_count_3 rfl (lv_at hl 1 rfl) ?_
  have hPc := hP.sub (ws' := XW ax yx (cc, tc, fc, hc, dr, dO, fC, fO, fT, fH)) [0, 1, 2, 3, 4] rfl
  have hDc := hD.sub (ws' := XW ax yx (cc, tc, fc, hc, dr, dO, fC, fO, fT, fH)) [0, 1, 2, 3, 4] (by decide) rfl
  have hKc := hK.sub (tys' := tysX yx) [0, 1, 2, 3] rfl
  have hFc := va_free (wc := XW ax yx (cc, tc, fc, hc, dr, dO, fC, fO, fT, fH)) hD hS hA [0, 1, 2, 3, 4] rfl
  refine vx_csi (vx_runV (As := [.int k]) (rest := [.int 0, .ref qo]) ⟨hx, hb, hml, hown, hw⟩ (m_count l hl9 dC dI ax yx s.heap.size cc tc fc hc dr dO fC fO fT fH k) (cwV 1 hw (gw_V wb_256 wb_257 wb_258 wb_1 wb_259) rfl rfl rfl (by decide +kernel) ⟨Nat.le_of_ble_eq_true rfl, Nat.le_of_ble_eq_true rfl⟩) ⟨blind_rdXT, va_recv hKc hPc (ci := 0) (q0 := 0) rfl rfl, fun U hU hW => ⟨rfl, by rw [hU], ⟨by rw [hU]; exact hPc, va_K.moved hW.alike hKc⟩, ThU.at hU hW hT⟩⟩ rfl rfl hl.1 rfl (lv_room (Nat.le_of_ble_eq_true rfl)) dL_count_4 ⟨(Nat.le_of_ble_eq_true rfl), (Nat.le_of_ble_eq_true rfl)⟩) hS (fun q hq h => absurd hq (Nat.not_lt.mpr h)) ?_ ?_
  · intro E ce q9 u t H1 ht hvm hpx hBX h1 h2 hS hce hcv hcl
    have hP : va_P (dC, dI) cls2 (XOW ax yx qo yo ((cc, tc, fc, hc, dr, dO, fC, fO, fT, fH), g)) H1 := hP.kept (fun k x hx => h2 x.1 (hP k x hx).lt (Nat.not_le.mpr (hP k x hx).lt))
    subst hBX
    refine vx_catch (own := "ProofBenchLaw") (name := IAE) hown [] ⟨0, 9, 12, 13⟩ [] htab (fun z hz => nomatch hz) (by decide) (by decide) (hw _ wb_92) (va_Nw.use rfl hT.2.2.1) hce hcv hcl ?_
    refine lv_astore_n (lv' := [(3, .ref q9), (0, .ref (ax 0)), (1, .int k), (2, .ref qo)]) hx hb dL_count_12 rfl hl (by decide) rfl (fun ls hl => ?_)
    refine lv_iconst (v := 1) hx hb dL_count_13 (by decide) ?_
    refine W.widen (k := 1) (n := 6) (Nat.le_of_ble_eq_true rfl) (Nat.le_of_ble_eq_true rfl) ?_
    exact W.iret (v := 1) hx hb hrt (fun t ht hW => ⟨⟨_, _, rfl, Or.inl ⟨hpx, rfl, rfl⟩, by rw [ht]; exact hP, va_K.moved hW.alike hK, hD⟩, hS.F ht⟩) hS.2.2 dL_count_14
  · intro r1 hq
    refine lv_i2l (v := r1.toInt64) hx hb dL_count_7 rfl ?_
    refine va_last hx hb hK hP hD hS 5 4 rfl rfl in_01 dL_count_8 (fun H locs hP hD hS => ?_)
    have hP : va_P (dC, dI) cls2 (XOW ax yx qo yo ((cc, tc, fc, hc, dr, dO, fC, fO, fT, fH), o_set g r1)) H := hP
    have hD : va_D A (XOW ax yx qo yo ((cc, tc, fc, hc, dr, dO, fC, fO, fT, fH), o_set g r1)) := hD
    refine lv_goto (tgt := 15) hx hb dL_count_9 (by decide) ?_
    refine lv_iconst (v := 0) hx hb dL_count_15 (by decide) ?_
    refine W.widen (k := 1) (n := 6) (Nat.le_of_ble_eq_true rfl) (Nat.le_of_ble_eq_true rfl) ?_
    exact W.iret (v := 0) hx hb hrt (fun t ht hW => ⟨⟨_, _, rfl, Or.inr ⟨hq.1, rfl, by rw [hq.2]⟩, by rw [ht]; exact hP, va_K.moved hW.alike hK, hD⟩, hS.F ht⟩) hS.2.2 dL_count_16
set_option maxHeartbeats 800000 in
set_option maxRecDepth 100000 in
/-- L_give -/
theorem l_give (l : Launch) (hl9 : l.stackTraces = false) (dC : Nat → ClassId) (dI : Nat → Nat → Nat) (ax : Nat → Nat) (yx : Nat → ClassId) (qo : Nat) (yo : ClassId) (sz0 : Nat) (cc tc fc hc dr : Int32) (dO : Int64) (fC : Nat → Int32) (fO : Nat → Int64) (fT fH : Nat → Int32) (g : Nat → Int64)  (n : Nat) (hn : n < 600) (ecc : cc = nI n) : Met l yL_give wsL_give (rmN 8 0 0) (va_Pc [.ref (ax 0), .ref qo] (preXO dC dI ax yx qo yo sz0 ((cc, tc, fc, hc, dr, dO, fC, fO, fT, fH), g))) (va_Qi (fun (r : Int32) (u : XS × (Nat → Int64)) => (r = 0 ∧ u = (kp_S (cc, tc, fc, hc, dr, dO, fC, fO, fT, fH), o_set g cc))) (atXO dC dI (va_A (XOW ax yx qo yo ((cc, tc, fc, hc, dr, dO, fC, fO, fT, fH), g)) sz0) ax yx qo yo) (va_A (XOW ax yx qo yo ((cc, tc, fc, hc, dr, dO, fC, fO, fT, fH), g)) sz0)) 0 0 (va_A (XOW ax yx qo yo ((cc, tc, fc, hc, dr, dO, fC, fO, fT, fH), g)) sz0) := by
  refine va_MetW (cc := cL_give) (maxL := 3) (ret := (some .int)) (by decide) rfl ?_
  intro p e s m args below meth c s₁ B hml hv
  obtain ⟨rfl, hsz, hP, hK, hD0, hT⟩ := hv
  have hx := B.exec
  have hb := B.bytes
  have hrt := B.returns
  have hlocks := B.notSynchronized
  have hts := atoms_spec (ws := wsL_give) B.pre
  have hw : ∀ w ∈ WB, w.before ([.ref (ax 0), .ref qo] : List Value).toArray s = true := fun w h => hts w (List.mem_cons_of_mem _ h)
  have hown : s.vm.findClass "ProofBenchLaw" = some m.cls := findClass_of_methodNamed B.named
  have htab := vx_table (x := yL_law) B (hts _ List.mem_cons_self)
  subst hsz
  have hD := hD0.self (sz := s.heap.size)
  generalize hAe : va_A (XOW ax yx qo yo ((cc, tc, fc, hc, dr, dO, fC, fO, fT, fH), g)) s.heap.size = A at hD ⊢
  have hA : ∀ q : Nat, s.heap.size ≤ q → A q := fun q h => by rw [← hAe]; exact Or.inr h
  have hS : va_S A s.heap s.heap [] := va_S.rf
  have hP : va_P (dC, dI) cls2 (XOW ax yx qo yo ((cc, tc, fc, hc, dr, dO, fC, fO, fT, fH), g)) s.heap := hP
  have hl := lv_entry ([.ref (ax 0), .ref qo]) (n := 3) (Nat.le_of_ble_eq_true rfl)
  rw [lg_entry_eq]
  generalize (lg_sl ([.ref (ax 0), .ref qo]) ++ List.replicate (3 - (lg_sl ([.ref (ax 0), .ref qo])).length) Slot.unset).toArray = ls at hl ⊢
  have hl : lv_has ls 3 [(0, .ref (ax 0)), (1, .ref qo)] := hl
  refine lv_aload_n hx hb dL_give_0 rfl (lv_at hl 1 rfl) ?_
  refine lv_iconst (v := 0) hx hb dL_give_1 (by decide) ?_
  refine lv_aload_n hx hb dL_give_2 rfl (lv_at hl 0 rfl) ?_
  have hPc := hP.sub (ws' := XW ax yx (cc, tc, fc, hc, dr, dO, fC, fO, fT, fH)) [0, 1, 2, 3, 4] rfl
  have hDc := hD.sub (ws' := XW ax yx (cc, tc, fc, hc, dr, dO, fC, fO, fT, fH)) [0, 1, 2, 3, 4] (by decide) rfl
  have hKc := hK.sub (tys' := tysX yx) [0, 1, 2, 3] rfl
  have hFc := va_free (wc := XW ax yx (cc, tc, fc, hc, dr, dO, fC, fO, fT, fH)) hD hS hA [0, 1, 2, 3, 4] rfl
  refine va_calli (va_runV (As := []) (rest := [.int 0, .ref qo]) ⟨hx, hb, hml, hown, hw⟩ (m_give l dC dI ax yx s.heap.size cc tc fc hc dr dO fC fO fT fH n hn ecc) (cwV 0 hw (gw_V wb_196 wb_197 wb_198 wb_1 wb_199) rfl rfl rfl (by decide +kernel) ⟨Nat.le_of_ble_eq_true rfl, Nat.le_of_ble_eq_true rfl⟩) ⟨blind_preX, va_recv hKc hPc (ci := 0) (q0 := 0) rfl rfl, fun U hU hW => ⟨rfl, ⟨by rw [hU], by rw [hU]; exact hPc, va_K.moved hW.alike hKc, hDc.weaken (fun _ _ _ _ => trivial)⟩⟩⟩ rfl rfl hl.1 rfl (lv_room (Nat.le_of_ble_eq_true rfl)) dL_give_3 ⟨(Nat.le_of_ble_eq_true rfl), (Nat.le_of_ble_eq_true rfl)⟩) hS (fun q _ h => hFc q h) hFc ?_
  intro r1 u t H1 locs ht hvm hq hB hz1 hk1 hS
  obtain ⟨er1, rfl⟩ := hq
  obtain ⟨hP1, hK1, hD1⟩ := hB
  rw [ht] at hP1
  obtain ⟨hP, hD⟩ := va_join (wr := [(qo, .inl (yo, 1, .inr (.inl g)))]) (w1 := XW ax yx (kp_S (cc, tc, fc, hc, dr, dO, fC, fO, fT, fH))) hP hD [0, 1, 2, 3, 4] [5] rfl rfl (by decide) (by decide) hk1 hFc hP1 hD1
  have hP : va_P (dC, dI) cls2 (XOW ax yx qo yo ((kp_S (cc, tc, fc, hc, dr, dO, fC, fO, fT, fH)), g)) H1 := hP.sub [1, 2, 3, 4, 5, 0] rfl
  have hD : va_D A (XOW ax yx qo yo ((kp_S (cc, tc, fc, hc, dr, dO, fC, fO, fT, fH)), g)) := hD.sub [1, 2, 3, 4, 5, 0] (by decide) rfl
  generalize H1 = H at hP hS ⊢
  refine lv_i2l (v := r1.toInt64) hx hb dL_give_6 rfl ?_
  refine va_last hx hb hK hP hD hS 5 4 rfl rfl in_01 dL_give_7 (fun H locs hP hD hS => ?_)
  have hP : va_P (dC, dI) cls2 (XOW ax yx qo yo ((kp_S (cc, tc, fc, hc, dr, dO, fC, fO, fT, fH)), o_set g r1)) H := hP
  have hD : va_D A (XOW ax yx qo yo ((kp_S (cc, tc, fc, hc, dr, dO, fC, fO, fT, fH)), o_set g r1)) := hD
  refine lv_goto (tgt := 14) hx hb dL_give_8 (by decide) ?_
  refine lv_iconst (v := 0) hx hb dL_give_14 (by decide) ?_
  refine W.widen (k := 0) (n := 0) (Nat.le_of_ble_eq_true rfl) (Nat.le_of_ble_eq_true rfl) ?_
  exact W.iret (v := 0) hx hb hrt (fun t ht hW => ⟨⟨_, _, rfl, ⟨rfl, by rw [er1]⟩, by rw [ht]; exact hP, va_K.moved hW.alike hK, hD⟩, hS.F ht⟩) hS.2.2 dL_give_15
set_option maxHeartbeats 800000 in
set_option maxRecDepth 100000 in
/-- L_step -/
theorem l_step (l : Launch) (hl9 : l.stackTraces = false) (dC : Nat → ClassId) (dI : Nat → Nat → Nat) (ax : Nat → Nat) (yx : Nat → ClassId) (qo : Nat) (yo : ClassId) (sz0 : Nat) (cc tc fc hc dr : Int32) (dO : Int64) (fC : Nat → Int32) (fO : Nat → Int64) (fT fH : Nat → Int32) (g : Nat → Int64)  (n : Nat) (hn : n < 600) (ecc : cc = nI n) : Met l yL_step wsL_step (rmN 8 0 0) (va_Pc [.ref (ax 0), .ref qo] (preXO dC dI ax yx qo yo sz0 ((cc, tc, fc, hc, dr, dO, fC, fO, fT, fH), g))) (va_Qi (fun (r : Int32) (u : XS × (Nat → Int64)) => ((td_val (tl_rounds fC fT n 17 dr) dr = 17 ∧ r = 0 ∧ u = (kp_S (cc, tc, fc + 1, hc, dr, dO, fC, fO, fT, fH), o_set g cc)) ∨ (¬ td_val (tl_rounds fC fT n 17 dr) dr = 17 ∧ r = 0 ∧ u = ((cc, tc, fc, hc, dr, dO, fC, fO, fT, fH), o_set g (-1))))) (atXO dC dI (va_A (XOW ax yx qo yo ((cc, tc, fc, hc, dr, dO, fC, fO, fT, fH), g)) sz0) ax yx qo yo) (va_A (XOW ax yx qo yo ((cc, tc, fc, hc, dr, dO, fC, fO, fT, fH), g)) sz0)) 0 0 (va_A (XOW ax yx qo yo ((cc, tc, fc, hc, dr, dO, fC, fO, fT, fH), g)) sz0) := by
  refine va_MetW (cc := cL_step) (maxL := 3) (ret := (some .int)) (by decide) rfl ?_
  intro p e s m args below meth c s₁ B hml hv
  obtain ⟨rfl, hsz, hP, hK, hD0, hT⟩ := hv
  have hx := B.exec
  have hb := B.bytes
  have hrt := B.returns
  have hlocks := B.notSynchronized
  have hts := atoms_spec (ws := wsL_step) B.pre
  have hw : ∀ w ∈ WB, w.before ([.ref (ax 0), .ref qo] : List Value).toArray s = true := fun w h => hts w (List.mem_cons_of_mem _ h)
  have hown : s.vm.findClass "ProofBenchLaw" = some m.cls := findClass_of_methodNamed B.named
  have htab := vx_table (x := yL_law) B (hts _ List.mem_cons_self)
  subst hsz
  have hD := hD0.self (sz := s.heap.size)
  generalize hAe : va_A (XOW ax yx qo yo ((cc, tc, fc, hc, dr, dO, fC, fO, fT, fH), g)) s.heap.size = A at hD ⊢
  have hA : ∀ q : Nat, s.heap.size ≤ q → A q := fun q h => by rw [← hAe]; exact Or.inr h
  have hS : va_S A s.heap s.heap [] := va_S.rf
  have hP : va_P (dC, dI) cls2 (XOW ax yx qo yo ((cc, tc, fc, hc, dr, dO, fC, fO, fT, fH), g)) s.heap := hP
  have hl := lv_entry ([.ref (ax 0), .ref qo]) (n := 3) (Nat.le_of_ble_eq_true rfl)
  rw [lg_entry_eq]
  generalize (lg_sl ([.ref (ax 0), .ref qo]) ++ List.replicate (3 - (lg_sl ([.ref (ax 0), .ref qo])).length) Slot.unset).toArray = ls at hl ⊢
  have hl : lv_has ls 3 [(0, .ref (ax 0)), (1, .ref qo)] := hl
  refine lv_aload_n hx hb dL_step_0 rfl (lv_at hl 1 rfl) ?_
  refine lv_iconst (v := 0) hx hb dL_step_1 (by decide) ?_
  refine lv_aload_n hx hb dL_step_2 rfl (lv_at hl 0 rfl) ?_
  have hPc := hP.sub (ws' := XW ax yx (cc, tc, fc, hc, dr, dO, fC, fO, fT, fH)) [0, 1, 2, 3, 4] rfl
  have hDc := hD.sub (ws' := XW ax yx (cc, tc, fc, hc, dr, dO, fC, fO, fT, fH)) [0, 1, 2, 3, 4] (by decide) rfl
  have hKc := hK.sub (tys' := tysX yx) [0, 1, 2, 3] rfl
  have hFc := va_free (wc := XW ax yx (cc, tc, fc, hc, dr, dO, fC, fO, fT, fH)) hD hS hA [0, 1, 2, 3, 4] rfl
  refine va_calli (va_runV (As := []) (rest := [.int 0, .ref qo]) ⟨hx, hb, hml, hown, hw⟩ (m_step l dC dI ax yx s.heap.size cc tc fc hc dr dO fC fO fT fH n hn ecc) (cwV 0 hw (gw_V wb_212 wb_213 wb_214 wb_1 wb_215) rfl rfl rfl (by decide +kernel) ⟨Nat.le_of_ble_eq_true rfl, Nat.le_of_ble_eq_true rfl⟩) ⟨blind_preX, va_recv hKc hPc (ci := 0) (q0 := 0) rfl rfl, fun U hU hW => ⟨rfl, ⟨by rw [hU], by rw [hU]; exact hPc, va_K.moved hW.alike hKc, hDc.weaken (fun _ _ _ _ => trivial)⟩⟩⟩ rfl rfl hl.1 rfl (lv_room (Nat.le_of_ble_eq_true rfl)) dL_step_3 ⟨(Nat.le_of_ble_eq_true rfl), (Nat.le_of_ble_eq_true rfl)⟩) hS (fun q _ h => hFc q h) hFc ?_
  intro r1 u t H1 locs ht hvm hq hB hz1 hk1 hS
  rcases hq with ⟨c1, er1, rfl⟩ | ⟨c1, er1, rfl⟩
  · skip
    obtain ⟨hP1, hK1, hD1⟩ := hB
    rw [ht] at hP1
    obtain ⟨hP, hD⟩ := va_join (wr := [(qo, .inl (yo, 1, .inr (.inl g)))]) (w1 := XW ax yx (kp_S (cc, tc, fc + 1, hc, dr, dO, fC, fO, fT, fH))) hP hD [0, 1, 2, 3, 4] [5] rfl rfl (by decide) (by decide) hk1 hFc hP1 hD1
    have hP : va_P (dC, dI) cls2 (XOW ax yx qo yo ((kp_S (cc, tc, fc + 1, hc, dr, dO, fC, fO, fT, fH)), g)) H1 := hP.sub [1, 2, 3, 4, 5, 0] rfl
    have hD : va_D A (XOW ax yx qo yo ((kp_S (cc, tc, fc + 1, hc, dr, dO, fC, fO, fT, fH)), g)) := hD.sub [1, 2, 3, 4, 5, 0] (by decide) rfl
    generalize H1 = H at hP hS ⊢
    refine lv_i2l (v := r1.toInt64) hx hb dL_step_6 rfl ?_
    refine va_last hx hb hK hP hD hS 5 4 rfl rfl in_01 dL_step_7 (fun H locs hP hD hS => ?_)
    have hP : va_P (dC, dI) cls2 (XOW ax yx qo yo ((kp_S (cc, tc, fc + 1, hc, dr, dO, fC, fO, fT, fH)), o_set g r1)) H := hP
    have hD : va_D A (XOW ax yx qo yo ((kp_S (cc, tc, fc + 1, hc, dr, dO, fC, fO, fT, fH)), o_set g r1)) := hD
    refine lv_goto (tgt := 14) hx hb dL_step_8 (by decide) ?_
    refine lv_iconst (v := 0) hx hb dL_step_14 (by decide) ?_
    refine W.widen (k := 0) (n := 0) (Nat.le_of_ble_eq_true rfl) (Nat.le_of_ble_eq_true rfl) ?_
    exact W.iret (v := 0) hx hb hrt (fun t ht hW => ⟨⟨_, _, rfl, Or.inl ⟨c1, rfl, by rw [er1]⟩, by rw [ht]; exact hP, va_K.moved hW.alike hK, hD⟩, hS.F ht⟩) hS.2.2 dL_step_15
  · skip
    obtain ⟨hP1, hK1, hD1⟩ := hB
    rw [ht] at hP1
    obtain ⟨hP, hD⟩ := va_join (wr := [(qo, .inl (yo, 1, .inr (.inl g)))]) (w1 := XW ax yx (cc, tc, fc, hc, dr, dO, fC, fO, fT, fH)) hP hD [0, 1, 2, 3, 4] [5] rfl rfl (by decide) (by decide) hk1 hFc hP1 hD1
    have hP : va_P (dC, dI) cls2 (XOW ax yx qo yo ((cc, tc, fc, hc, dr, dO, fC, fO, fT, fH), g)) H1 := hP.sub [1, 2, 3, 4, 5, 0] rfl
    have hD : va_D A (XOW ax yx qo yo ((cc, tc, fc, hc, dr, dO, fC, fO, fT, fH), g)) := hD.sub [1, 2, 3, 4, 5, 0] (by decide) rfl
    generalize H1 = H at hP hS ⊢
    refine lv_i2l (v := r1.toInt64) hx hb dL_step_6 rfl ?_
    refine va_last hx hb hK hP hD hS 5 4 rfl rfl in_01 dL_step_7 (fun H locs hP hD hS => ?_)
    have hP : va_P (dC, dI) cls2 (XOW ax yx qo yo ((cc, tc, fc, hc, dr, dO, fC, fO, fT, fH), o_set g r1)) H := hP
    have hD : va_D A (XOW ax yx qo yo ((cc, tc, fc, hc, dr, dO, fC, fO, fT, fH), o_set g r1)) := hD
    refine lv_goto (tgt := 14) hx hb dL_step_8 (by decide) ?_
    refine lv_iconst (v := 0) hx hb dL_step_14 (by decide) ?_
    refine W.widen (k := 0) (n := 0) (Nat.le_of_ble_eq_true rfl) (Nat.le_of_ble_eq_true rfl) ?_
    exact W.iret (v := 0) hx hb hrt (fun t ht hW => ⟨⟨_, _, rfl, Or.inr ⟨c1, rfl, by rw [er1]⟩, by rw [ht]; exact hP, va_K.moved hW.alike hK, hD⟩, hS.F ht⟩) hS.2.2 dL_step_15
set_option maxHeartbeats 800000 in
set_option maxRecDepth 100000 in
/-- L_along -/
theorem l_along (l : Launch) (hl9 : l.stackTraces = false) (dC : Nat → ClassId) (dI : Nat → Nat → Nat) (ax : Nat → Nat) (yx : Nat → ClassId) (qo : Nat) (yo : ClassId) (sz0 : Nat) (cc tc fc hc dr : Int32) (dO : Int64) (fC : Nat → Int32) (fO : Nat → Int64) (fT fH : Nat → Int32) (g : Nat → Int64)  (n : Nat) (hn : n < 600) (ecc : cc = nI n) (q : Nat) (hq40 : q ≤ 40) (ehc : hc = nI q) : Met l yL_along wsL_along (rmN 8 0 0) (va_Pc [.ref (ax 0), .ref qo] (preXO dC dI ax yx qo yo sz0 ((cc, tc, fc, hc, dr, dO, fC, fO, fT, fH), g))) (va_Qi (fun (r : Int32) (u : XS × (Nat → Int64)) => ((bh_scan cc fC fT fH q 0 dr = -1 ∧ r = 0 ∧ u = (kp_S (cc, tc, fc + 1, 0, dr, dO, fC, fO, fT, fH), o_set g cc)) ∨ (¬ bh_scan cc fC fT fH q 0 dr = -1 ∧ r = 0 ∧ u = ((cc, tc, fc, hc, dr, dO, fC, fO, fT, fH), o_set g (-1 - bh_scan cc fC fT fH q 0 dr))))) (atXO dC dI (va_A (XOW ax yx qo yo ((cc, tc, fc, hc, dr, dO, fC, fO, fT, fH), g)) sz0) ax yx qo yo) (va_A (XOW ax yx qo yo ((cc, tc, fc, hc, dr, dO, fC, fO, fT, fH), g)) sz0)) 0 0 (va_A (XOW ax yx qo yo ((cc, tc, fc, hc, dr, dO, fC, fO, fT, fH), g)) sz0) := by
  refine va_MetW (cc := cL_along) (maxL := 3) (ret := (some .int)) (by decide) rfl ?_
  intro p e s m args below meth c s₁ B hml hv
  obtain ⟨rfl, hsz, hP, hK, hD0, hT⟩ := hv
  have hx := B.exec
  have hb := B.bytes
  have hrt := B.returns
  have hlocks := B.notSynchronized
  have hts := atoms_spec (ws := wsL_along) B.pre
  have hw : ∀ w ∈ WB, w.before ([.ref (ax 0), .ref qo] : List Value).toArray s = true := fun w h => hts w (List.mem_cons_of_mem _ h)
  have hown : s.vm.findClass "ProofBenchLaw" = some m.cls := findClass_of_methodNamed B.named
  have htab := vx_table (x := yL_law) B (hts _ List.mem_cons_self)
  subst hsz
  have hD := hD0.self (sz := s.heap.size)
  generalize hAe : va_A (XOW ax yx qo yo ((cc, tc, fc, hc, dr, dO, fC, fO, fT, fH), g)) s.heap.size = A at hD ⊢
  have hA : ∀ q : Nat, s.heap.size ≤ q → A q := fun q h => by rw [← hAe]; exact Or.inr h
  have hS : va_S A s.heap s.heap [] := va_S.rf
  have hP : va_P (dC, dI) cls2 (XOW ax yx qo yo ((cc, tc, fc, hc, dr, dO, fC, fO, fT, fH), g)) s.heap := hP
  have hl := lv_entry ([.ref (ax 0), .ref qo]) (n := 3) (Nat.le_of_ble_eq_true rfl)
  rw [lg_entry_eq]
  generalize (lg_sl ([.ref (ax 0), .ref qo]) ++ List.replicate (3 - (lg_sl ([.ref (ax 0), .ref qo])).length) Slot.unset).toArray = ls at hl ⊢
  have hl : lv_has ls 3 [(0, .ref (ax 0)), (1, .ref qo)] := hl
  refine lv_aload_n hx hb dL_along_0 rfl (lv_at hl 1 rfl) ?_
  refine lv_iconst (v := 0) hx hb dL_along_1 (by decide) ?_
  refine lv_aload_n hx hb dL_along_2 rfl (lv_at hl 0 rfl) ?_
  have hPc := hP.sub (ws' := XW ax yx (cc, tc, fc, hc, dr, dO, fC, fO, fT, fH)) [0, 1, 2, 3, 4] rfl
  have hDc := hD.sub (ws' := XW ax yx (cc, tc, fc, hc, dr, dO, fC, fO, fT, fH)) [0, 1, 2, 3, 4] (by decide) rfl
  have hKc := hK.sub (tys' := tysX yx) [0, 1, 2, 3] rfl
  have hFc := va_free (wc := XW ax yx (cc, tc, fc, hc, dr, dO, fC, fO, fT, fH)) hD hS hA [0, 1, 2, 3, 4] rfl
  refine va_calli (va_runV (As := []) (rest := [.int 0, .ref qo]) ⟨hx, hb, hml, hown, hw⟩ (m_along l dC dI ax yx s.heap.size cc tc fc hc dr dO fC fO fT fH n hn ecc q hq40 ehc) (cwV 0 hw (gw_V wb_220 wb_221 wb_222 wb_1 wb_223) rfl rfl rfl (by decide +kernel) ⟨Nat.le_of_ble_eq_true rfl, Nat.le_of_ble_eq_true rfl⟩) ⟨blind_preX, va_recv hKc hPc (ci := 0) (q0 := 0) rfl rfl, fun U hU hW => ⟨rfl, ⟨by rw [hU], by rw [hU]; exact hPc, va_K.moved hW.alike hKc, hDc.weaken (fun _ _ _ _ => trivial)⟩⟩⟩ rfl rfl hl.1 rfl (lv_room (Nat.le_of_ble_eq_true rfl)) dL_along_3 ⟨(Nat.le_of_ble_eq_true rfl), (Nat.le_of_ble_eq_true rfl)⟩) hS (fun q _ h => hFc q h) hFc ?_
  intro r1 u t H1 locs ht hvm hq hB hz1 hk1 hS
  rcases hq with ⟨c1, er1, rfl⟩ | ⟨c1, er1, rfl⟩
  · skip
    obtain ⟨hP1, hK1, hD1⟩ := hB
    rw [ht] at hP1
    obtain ⟨hP, hD⟩ := va_join (wr := [(qo, .inl (yo, 1, .inr (.inl g)))]) (w1 := XW ax yx (kp_S (cc, tc, fc + 1, 0, dr, dO, fC, fO, fT, fH))) hP hD [0, 1, 2, 3, 4] [5] rfl rfl (by decide) (by decide) hk1 hFc hP1 hD1
    have hP : va_P (dC, dI) cls2 (XOW ax yx qo yo ((kp_S (cc, tc, fc + 1, 0, dr, dO, fC, fO, fT, fH)), g)) H1 := hP.sub [1, 2, 3, 4, 5, 0] rfl
    have hD : va_D A (XOW ax yx qo yo ((kp_S (cc, tc, fc + 1, 0, dr, dO, fC, fO, fT, fH)), g)) := hD.sub [1, 2, 3, 4, 5, 0] (by decide) rfl
    generalize H1 = H at hP hS ⊢
    refine lv_i2l (v := r1.toInt64) hx hb dL_along_6 rfl ?_
    refine va_last hx hb hK hP hD hS 5 4 rfl rfl in_01 dL_along_7 (fun H locs hP hD hS => ?_)
    have hP : va_P (dC, dI) cls2 (XOW ax yx qo yo ((kp_S (cc, tc, fc + 1, 0, dr, dO, fC, fO, fT, fH)), o_set g r1)) H := hP
    have hD : va_D A (XOW ax yx qo yo ((kp_S (cc, tc, fc + 1, 0, dr, dO, fC, fO, fT, fH)), o_set g r1)) := hD
    refine lv_goto (tgt := 14) hx hb dL_along_8 (by decide) ?_
    refine lv_iconst (v := 0) hx hb dL_along_14 (by decide) ?_
    refine W.widen (k := 0) (n := 0) (Nat.le_of_ble_eq_true rfl) (Nat.le_of_ble_eq_true rfl) ?_
    exact W.iret (v := 0) hx hb hrt (fun t ht hW => ⟨⟨_, _, rfl, Or.inl ⟨c1, rfl, by rw [er1]⟩, by rw [ht]; exact hP, va_K.moved hW.alike hK, hD⟩, hS.F ht⟩) hS.2.2 dL_along_15
  · skip
    obtain ⟨hP1, hK1, hD1⟩ := hB
    rw [ht] at hP1
    obtain ⟨hP, hD⟩ := va_join (wr := [(qo, .inl (yo, 1, .inr (.inl g)))]) (w1 := XW ax yx (cc, tc, fc, hc, dr, dO, fC, fO, fT, fH)) hP hD [0, 1, 2, 3, 4] [5] rfl rfl (by decide) (by decide) hk1 hFc hP1 hD1
    have hP : va_P (dC, dI) cls2 (XOW ax yx qo yo ((cc, tc, fc, hc, dr, dO, fC, fO, fT, fH), g)) H1 := hP.sub [1, 2, 3, 4, 5, 0] rfl
    have hD : va_D A (XOW ax yx qo yo ((cc, tc, fc, hc, dr, dO, fC, fO, fT, fH), g)) := hD.sub [1, 2, 3, 4, 5, 0] (by decide) rfl
    generalize H1 = H at hP hS ⊢
    refine lv_i2l (v := r1.toInt64) hx hb dL_along_6 rfl ?_
    refine va_last hx hb hK hP hD hS 5 4 rfl rfl in_01 dL_along_7 (fun H locs hP hD hS => ?_)
    have hP : va_P (dC, dI) cls2 (XOW ax yx qo yo ((cc, tc, fc, hc, dr, dO, fC, fO, fT, fH), o_set g r1)) H := hP
    have hD : va_D A (XOW ax yx qo yo ((cc, tc, fc, hc, dr, dO, fC, fO, fT, fH), o_set g r1)) := hD
    refine lv_goto (tgt := 14) hx hb dL_along_8 (by decide) ?_
    refine lv_iconst (v := 0) hx hb dL_along_14 (by decide) ?_
    refine W.widen (k := 0) (n := 0) (Nat.le_of_ble_eq_true rfl) (Nat.le_of_ble_eq_true rfl) ?_
    exact W.iret (v := 0) hx hb hrt (fun t ht hW => ⟨⟨_, _, rfl, Or.inr ⟨c1, rfl, by rw [er1]⟩, by rw [ht]; exact hP, va_K.moved hW.alike hK, hD⟩, hS.F ht⟩) hS.2.2 dL_along_15
end
section
/-! literals and their bits -/
def lit (l : Int32) : Prop := ¬ l = 0 ∧ rng l
/-- the bit of a literal -/
def bi (l : Int32) : Nat := if 0 < l then (l - 1).toNatClampNeg else (15 - l).toNatClampNeg
/-- the literal of a bit -/
def lb (i : Nat) : Int32 := if i < 16 then nI (i + 1) else -(nI (i - 15))
theorem lit_lb {l : Int32} (h : lit l) : ∃ i : Nat, i < 32 ∧ l = lb i := by
  obtain ⟨h0, hr⟩ := h
  obtain ⟨j, hj, e⟩ := rng33 hr
  have h1 : j ≠ 16 := fun h => h0 (by rw [e, h]; rfl)
  rcases Nat.lt_or_ge 16 j with h | h
  · refine ⟨j - 17, by omega, ?_⟩
    rw [e]
    exact (by decide +kernel : ∀ j, j < 33 → 16 < j → nI j - 16 = lb (j - 17)) j hj h
  · refine ⟨31 - j, by omega, ?_⟩
    rw [e]
    exact (by decide +kernel : ∀ j, j < 16 → nI j - 16 = lb (31 - j)) j (by omega)
theorem lb_lit : ∀ i, i < 32 → lit (lb i) := by
  intro i hi
  have h : ∀ i, i < 32 → ¬ lb i = 0 ∧ ¬ lb i < -16 ∧ ¬ 16 < lb i := by decide +kernel
  exact ⟨(h i hi).1, (h i hi).2.1, (h i hi).2.2⟩
theorem bi_lb : ∀ i, i < 32 → bi (lb i) = i := by decide +kernel
theorem lb_neg : ∀ i, i < 32 → -(lb i) = lb ((i + 16) % 32) := by decide +kernel
theorem lb_pos : ∀ i, i < 32 → (0 < lb i ↔ i < 16) := by decide +kernel
theorem lb_abs : ∀ i, i < 32 → lt_abs (lb i) = nI (i % 16 + 1) := by decide +kernel
theorem lb_inj {i j : Nat} (hi : i < 32) (hj : j < 32) (h : lb i = lb j) : i = j := by rw [← bi_lb i hi, ← bi_lb j hj, h]
theorem bt_lb0 : ∀ i, i < 32 → ∀ k, k < 32 → bt (mk_bit (lb i)) k = decide (k = i) := by decide +kernel
theorem bt_neg (x : Int32) {i : Nat} (hi : i < 32) : bt (mk_neg x) i = bt x ((i + 16) % 32) := by
  rw [mk_neg, b_or, b_shl16 x hi, show pb_u x 16 = (x.toUInt32 >>> ((nI 16).toUInt32 &&& Int32.toUInt32 31)).toInt32 from rfl, b_ushr 16 (by omega)]
  rcases Nat.lt_or_ge i 16 with h | h
  · rw [decide_eq_false (by omega), show (i + 16) % 32 = 16 + i by omega]
    simp
  · rw [decide_eq_true h, show (i + 16) % 32 = i - 16 by omega, b_big (show 32 ≤ 16 + i by omega)]
    simp
theorem bt_not (f : Int32) {i : Nat} (hi : i < 32) : bt (f ^^^ (-1)) i = !bt f i := by rw [b_xor, b_m1 i hi]; simp
theorem bt_rest (c f : Int32) {i : Nat} (hi : i < 32) : bt (mk_rest c f) i = (bt c i && !bt f i) := by rw [mk_rest, b_and, bt_not f hi]
theorem bt_0' {x : Int32} (h : x = 0) (i : Nat) : bt x i = false := by rw [h]; exact b_0 i
theorem eq_0 {x : Int32} (h : ∀ i, i < 32 → bt x i = false) : x = 0 := b_ext (fun i hi => by rw [h i hi, b_0])
theorem ne_0 {x : Int32} (h : ¬ x = 0) : ∃ i, i < 32 ∧ bt x i = true := by
  refine Classical.byContradiction fun hn => h (eq_0 fun i hi => ?_)
  cases hb : bt x i with
  | false => rfl
  | true => exact absurd ⟨i, hi, hb⟩ hn
theorem bt_lb {i : Nat} (hi : i < 32) (k : Nat) (hk : k < 32) : bt (mk_bit (lb i)) k = decide (k = i) := bt_lb0 i hi k hk
theorem neg_0 : mk_neg 0 = 0 := by decide +kernel
theorem neg_lb : ∀ i, i < 32 → mk_neg (mk_bit (lb i)) = mk_bit (lb ((i + 16) % 32)) := by decide +kernel
theorem bit_ne : ∀ i, i < 32 → ¬ mk_bit (lb i) = 0 := by decide +kernel
/-- sizes -/
theorem sz_or {x y : Int32} (h : ∀ i, i < 32 → (bt x i && bt y i) = false) : pb_sz (x ||| y) = pb_sz x + pb_sz y := by
  rw [pb_sz_sum, pb_sz_sum, pb_sz_sum, ← pb_sum_or h]
  exact pb_sum_eq (fun i _ => b_or x y i)
theorem sz_bit {i : Nat} (hi : i < 32) : pb_sz (mk_bit (lb i)) = 1 := by
  rw [pb_sz_sum, pb_sum_eq (fun k hk => bt_lb hi k hk), pb_sum_k, if_pos hi]
theorem sz_add {x : Int32} {i : Nat} (hi : i < 32) (h : bt x i = false) : pb_sz (x ||| mk_bit (lb i)) = pb_sz x + 1 := by
  rw [sz_or, sz_bit hi]
  intro k hk
  rw [bt_lb hi k hk]
  by_cases e : k = i
  · rw [e, h]; rfl
  · rw [decide_eq_false e]; simp
theorem sz_0 {x : Int32} (h : pb_sz x = 0) : x = 0 := eq_0 (pb_sum_all (by rw [← pb_sz_sum]; exact h))
theorem sz_1 {x : Int32} (h : pb_sz x = 1) : ∃ i, i < 32 ∧ x = mk_bit (lb i) := by
  obtain ⟨k, hk, h1, h2⟩ := pb_sum_1 (by rw [← pb_sz_sum]; exact h)
  refine ⟨k, hk, b_ext fun i hi => ?_⟩
  rw [bt_lb hk i hi]
  by_cases e : i = k
  · rw [e, h1, decide_eq_true rfl]
  · rw [decide_eq_false e]
    cases hb : bt x i with
    | false => rfl
    | true => exact absurd (h2 i hi hb) e
/-- both a literal and its other never stand in a set -/
def cons_ (f : Int32) : Prop := ∀ i, i < 16 → (bt f i && bt f (i + 16)) = false
theorem pair_sum (f : Nat → Bool) (h : ∀ i, i < 16 → (f i && f (i + 16)) = false) : pb_sum f 32 ≤ 16 := by
  have e : pb_sum f 32 = pb_sum f 16 + pb_sum (fun i => f (i + 16)) 16 := by simp only [pb_sum, Nat.reduceAdd]; omega
  rw [e, ← pb_sum_or h]
  exact pb_sum_n _ _
theorem sz_cons {f : Int32} (h : cons_ f) : pb_sz f ≤ 16 := by rw [pb_sz_sum]; exact pair_sum _ h
theorem cons_other {f : Int32} (h : cons_ f) {i : Nat} (hi : i < 32) (h1 : bt f i = true) : bt f ((i + 16) % 32) = false := by
  rcases Nat.lt_or_ge i 16 with q | q
  · have := h i q
    rw [h1] at this
    rw [show (i + 16) % 32 = i + 16 by omega]
    simpa using this
  · have := h (i - 16) (by omega)
    rw [show i - 16 + 16 = i by omega, h1] at this
    rw [show (i + 16) % 32 = i - 16 by omega]
    simpa using this
theorem cons_add {f : Int32} (h : cons_ f) {i : Nat} (hi : i < 32) (h1 : bt f ((i + 16) % 32) = false) : cons_ (f ||| mk_bit (lb i)) := by
  intro k hk
  rw [b_or, b_or, bt_lb hi k (by omega), bt_lb hi (k + 16) (by omega)]
  have h2 := h k hk
  by_cases e1 : k = i
  · have e2 : ¬ k + 16 = i := by omega
    rw [decide_eq_true e1, decide_eq_false e2]
    rw [show (i + 16) % 32 = k + 16 by omega] at h1
    rw [h1]; simp
  · by_cases e2 : k + 16 = i
    · rw [decide_eq_false e1, decide_eq_true e2]
      rw [show (i + 16) % 32 = k by omega] at h1
      rw [h1]; simp
    · rw [decide_eq_false e1, decide_eq_false e2]
      simpa using h2
/-- the values of the variables, as the reference has them, and the set of false literals, as the class has it -/
def VR (fV : Nat → Int32) (f : Int32) : Prop := cons_ f ∧ ∀ i, i < 16 → fV (i + 1) = if bt f i then 2 else if bt f (i + 16) then 1 else 0
theorem of_lb {fV : Nat → Int32} {f : Int32} (h : VR fV f) {i : Nat} (hi : i < 32) : of_v fV (lb i) = if bt f i then 2 else if bt f ((i + 16) % 32) then 1 else 0 := by
  have e1 : (lt_abs (lb i)).toNatClampNeg = i % 16 + 1 := by rw [lb_abs i hi]; exact nI_clamp (by omega)
  rw [of_v, e1, h.2 (i % 16) (by omega)]
  rcases Nat.lt_or_ge i 16 with q | q
  · rw [show i % 16 = i by omega, show (i + 16) % 32 = i + 16 by omega]
    have hp : 0 < lb i := (lb_pos i hi).mpr q
    cases h1 : bt f i <;> cases h2 : bt f (i + 16) <;> simp [hp]
  · rw [show i % 16 = i - 16 by omega, show i - 16 + 16 = i by omega, show (i + 16) % 32 = i - 16 by omega]
    have hp : ¬ 0 < lb i := fun h => absurd ((lb_pos i hi).mp h) (by omega)
    have hc := h.1 (i - 16) (by omega)
    rw [show i - 16 + 16 = i by omega] at hc
    cases h1 : bt f i <;> cases h2 : bt f (i - 16) <;> rw [h1, h2] at hc <;> simp [hp] at hc ⊢
theorem VR_tell {fV : Nat → Int32} {f : Int32} (h : VR fV f) {i : Nat} (hi : i < 32) (h1 : bt f i = false) : VR (tell_v fV (lb i)) (f ||| mk_bit (lb ((i + 16) % 32))) := by
  have ho : (i + 16) % 32 < 32 := by omega
  have e1 : (lt_abs (lb i)).toNatClampNeg = i % 16 + 1 := by rw [lb_abs i hi]; exact nI_clamp (by omega)
  refine ⟨cons_add h.1 ho (by rw [show ((i + 16) % 32 + 16) % 32 = i by omega]; exact h1), fun k hk => ?_⟩
  rw [tell_v, e1, b_or, b_or, bt_lb ho k (by omega), bt_lb ho (k + 16) (by omega)]
  by_cases e : k = i % 16
  · subst e
    rw [pk_us]
    rcases Nat.lt_or_ge i 16 with q | q
    · have hp : 0 < lb i := (lb_pos i hi).mpr q
      rw [if_pos hp, show i % 16 = i by omega, show (i + 16) % 32 = i + 16 by omega, h1]
      simp
    · have hp : ¬ 0 < lb i := fun h => absurd ((lb_pos i hi).mp h) (by omega)
      rw [if_neg hp, show i % 16 = i - 16 by omega, show (i + 16) % 32 = i - 16 by omega]
      simp
  · rw [pk_un (by omega), h.2 k hk, decide_eq_false (show ¬ k = (i + 16) % 32 by omega), decide_eq_false (show ¬ k + 16 = (i + 16) % 32 by omega)]
    simp
end
section
/-! what a clause says: the reference's scan, and the class's set -/
def ms_of (f : Nat → Int32) : Nat → Int32
  | 0 => 0
  | k + 1 => ms_of f k ||| mk_bit (f k)
/-- a row of literals, no variable twice -/
def gs (f : Nat → Int32) (k : Nat) : Prop := (∀ j, j < k → lit (f j)) ∧ ∀ i j, i < j → j < k → ¬ f i = f j ∧ ¬ f i = -(f j)
theorem ms_bt {f : Nat → Int32} {i : Nat} (hi : i < 32) : ∀ {k : Nat}, (∀ j, j < k → lit (f j)) → (bt (ms_of f k) i = true ↔ ∃ j, j < k ∧ f j = lb i)
  | 0, _ => by
    rw [ms_of, b_0]
    exact ⟨fun h => (nomatch h), fun ⟨j, hj, _⟩ => absurd hj (Nat.not_lt_zero j)⟩
  | k + 1, h => by
    obtain ⟨m, hm, em⟩ := lit_lb (h k (Nat.lt_succ_self k))
    rw [ms_of, b_or, em, bt_lb hm i hi, Bool.or_eq_true, ms_bt hi (fun j hj => h j (Nat.lt_succ_of_lt hj)), decide_eq_true_eq]
    constructor
    · rintro (⟨j, hj, e⟩ | e)
      · exact ⟨j, Nat.lt_succ_of_lt hj, e⟩
      · exact ⟨k, Nat.lt_succ_self k, by rw [em, e]⟩
    · rintro ⟨j, hj, e⟩
      rcases Nat.lt_or_ge j k with q | q
      · exact Or.inl ⟨j, q, e⟩
      · have ej : j = k := by omega
        rw [ej, em] at e
        exact Or.inr (lb_inj hm hi e).symm
theorem ms_eq {f g : Nat → Int32} : ∀ {k : Nat}, (∀ j, j < k → f j = g j) → ms_of f k = ms_of g k
  | 0, _ => rfl
  | k + 1, h => by rw [ms_of, ms_of, ms_eq (fun j hj => h j (Nat.lt_succ_of_lt hj)), h k (Nat.lt_succ_self k)]
theorem gs_pre {f : Nat → Int32} {k : Nat} (h : gs f (k + 1)) : gs f k := ⟨fun j hj => h.1 j (Nat.lt_succ_of_lt hj), fun i j hij hj => h.2 i j hij (Nat.lt_succ_of_lt hj)⟩
theorem gs_le {f : Nat → Int32} {k z : Nat} (h : gs f z) (hk : k ≤ z) : gs f k := ⟨fun j hj => h.1 j (by omega), fun i j hij hj => h.2 i j hij (by omega)⟩
theorem gs_eq {f g : Nat → Int32} {k : Nat} (h : gs f k) (e : ∀ j, j < k → f j = g j) : gs g k := ⟨fun j hj => by rw [← e j hj]; exact h.1 j hj, fun i j hij hj => by rw [← e j hj, ← e i (by omega)]; exact h.2 i j hij hj⟩
/-- the last literal's bit, and its other's, aren't among those before -/
theorem gs_new {f : Nat → Int32} {k i : Nat} (h : gs f (k + 1)) (hi : i < 32) (e : f k = lb i) : bt (ms_of f k) i = false ∧ bt (ms_of f k) ((i + 16) % 32) = false := by
  constructor
  · cases hb : bt (ms_of f k) i with
    | false => rfl
    | true =>
      obtain ⟨j, hj, ej⟩ := (ms_bt hi (gs_pre h).1).mp hb
      exact absurd (by rw [ej, e]) (h.2 j k hj (Nat.lt_succ_self k)).1
  · cases hb : bt (ms_of f k) ((i + 16) % 32) with
    | false => rfl
    | true =>
      obtain ⟨j, hj, ej⟩ := (ms_bt (show (i + 16) % 32 < 32 by omega) (gs_pre h).1).mp hb
      exact absurd (by rw [ej, e, lb_neg i hi]) (h.2 j k hj (Nat.lt_succ_self k)).2
theorem ms_cons {f : Nat → Int32} : ∀ {k : Nat}, gs f k → cons_ (ms_of f k)
  | 0, _ => fun i _ => by rw [ms_of, b_0]; rfl
  | k + 1, h => by
    obtain ⟨m, hm, em⟩ := lit_lb (h.1 k (Nat.lt_succ_self k))
    rw [ms_of, em]
    exact cons_add (ms_cons (gs_pre h)) hm (gs_new h hm em).2
theorem ms_sz {f : Nat → Int32} : ∀ {k : Nat}, gs f k → pb_sz (ms_of f k) = k
  | 0, _ => by rw [ms_of]; exact pb_sz_0
  | k + 1, h => by
    obtain ⟨m, hm, em⟩ := lit_lb (h.1 k (Nat.lt_succ_self k))
    rw [ms_of, em, sz_add hm (gs_new h hm em).1, ms_sz (gs_pre h)]
theorem gs_16 {f : Nat → Int32} {k : Nat} (h : gs f k) : k ≤ 16 := by rw [← ms_sz h]; exact sz_cons (ms_cons h)
/-- what a clause c says under the false literals f -/
def SY (c f r : Int32) : Prop := (mk_rest c f = 0 ∧ r = 17) ∨ (¬ mk_rest c f = 0 ∧ mk_told c f = 0 ∧ r = 0) ∨ (¬ mk_rest c f = 0 ∧ ∃ i, i < 32 ∧ r = lb i ∧ mk_told c f = mk_bit (lb i) ∧ bt f i = false ∧ bt f ((i + 16) % 32) = false ∧ mk_rest c f = mk_bit (lb i))
theorem of_cases {fV : Nat → Int32} {f : Int32} (h : VR fV f) {i : Nat} (hi : i < 32) : (of_v fV (lb i) = 1 ∧ bt f i = false ∧ bt f ((i + 16) % 32) = true) ∨ (of_v fV (lb i) = 0 ∧ bt f i = false ∧ bt f ((i + 16) % 32) = false) ∨ (of_v fV (lb i) = 2 ∧ bt f i = true) := by
  rw [of_lb h hi]
  cases h1 : bt f i <;> cases h2 : bt f ((i + 16) % 32) <;> simp
theorem rest_or (c x f : Int32) : mk_rest (c ||| x) f = mk_rest c f ||| mk_rest x f := b_ext fun i hi => by
  rw [b_or, bt_rest _ _ hi, bt_rest _ _ hi, bt_rest _ _ hi, b_or]
  cases bt c i <;> cases bt x i <;> cases bt f i <;> rfl
theorem rest_bit0 {f : Int32} {i : Nat} (hi : i < 32) (h : bt f i = true) : mk_rest (mk_bit (lb i)) f = 0 := eq_0 fun k hk => by
  rw [bt_rest _ _ hk, bt_lb hi k hk]
  by_cases e : k = i
  · rw [e, h]; simp
  · rw [decide_eq_false e]; rfl
theorem rest_bit1 {f : Int32} {i : Nat} (hi : i < 32) (h : bt f i = false) : mk_rest (mk_bit (lb i)) f = mk_bit (lb i) := b_ext fun k hk => by
  rw [bt_rest _ _ hk, bt_lb hi k hk]
  by_cases e : k = i
  · rw [e, h]; simp
  · rw [decide_eq_false e]; rfl
theorem or_0 (x : Int32) : x ||| 0 = x := b_ext fun i _ => by rw [b_or, b_0]; simp
theorem zero_or (x : Int32) : (0 : Int32) ||| x = x := b_ext fun i _ => by rw [b_or, b_0]; simp
theorem sy_main {fL fV : Nat → Int32} {f : Int32} (hV : VR fV f) (p z : Nat) (hg : gs (fun j => fL (p + j)) z) : ∀ (a k : Nat) (op la : Int32), k + a = z → (∀ j i, j < k → i < 32 → fL (p + j) = lb i → (bt f i && true) = false → bt f ((i + 16) % 32) = false) → op = nI (pb_sz (mk_rest (ms_of (fun j => fL (p + j)) k) f)) → (op = 1 → ∃ i, i < 32 ∧ la = lb i ∧ mk_rest (ms_of (fun j => fL (p + j)) k) f = mk_bit (lb i)) → SY (ms_of (fun j => fL (p + j)) z) f (sy_it fL fV a (p + k) op la) := by
  intro a
  induction a with
  | zero =>
    intro k op la hk hn ho h1
    have ek : k = z := by omega
    subst ek
    have hsz := pb_sz_n (mk_rest (ms_of (fun j => fL (p + j)) k) f)
    rw [sy_it]
    by_cases c0 : op = 0
    · rw [if_pos c0]
      rw [ho, ← nI_0] at c0
      exact Or.inl ⟨sz_0 ((nI_eq (by omega) (by omega)).mp c0), rfl⟩
    · rw [if_neg c0]
      have hne : ¬ mk_rest (ms_of (fun j => fL (p + j)) k) f = 0 := fun h => c0 (by rw [ho, h]; rfl)
      by_cases c1 : op = 1
      · rw [if_pos c1]
        obtain ⟨i, hi, ela, er⟩ := h1 c1
        have hbi : bt (mk_rest (ms_of (fun j => fL (p + j)) k) f) i = true := by rw [er, bt_lb hi i hi, decide_eq_true rfl]
        rw [bt_rest _ _ hi, Bool.and_eq_true] at hbi
        have hfi : bt f i = false := by simpa using hbi.2
        obtain ⟨j, hj, ej⟩ := (ms_bt hi hg.1).mp hbi.1
        have hfo := hn j i hj hi ej (by rw [hfi]; rfl)
        have hz : mk_rest (ms_of (fun j => fL (p + j)) k) f &&& mk_neg f = 0 := by
          rw [er]
          refine eq_0 fun m hm => ?_
          rw [b_and, bt_lb hi m hm, bt_neg f hm]
          by_cases e : m = i
          · rw [e, hfo]; simp
          · rw [decide_eq_false e]; rfl
        refine Or.inr (Or.inr ⟨hne, i, hi, ela, ?_, hfi, hfo, er⟩)
        rw [mk_told, if_pos ⟨by rw [er]; exact sz_bit hi, hz⟩, er]
      · rw [if_neg c1]
        refine Or.inr (Or.inl ⟨hne, ?_, rfl⟩)
        rw [mk_told, if_neg (fun h => c1 (by rw [ho, h.1]; rfl))]
  | succ a ih =>
    intro k op la hk hn ho h1
    have hlit : lit (fL (p + k)) := hg.1 k (by omega)
    obtain ⟨i, hi, ei⟩ := lit_lb hlit
    have hgk : gs (fun j => fL (p + j)) (k + 1) := gs_le hg (by omega)
    have hnew := gs_new hgk hi ei
    have hms : ms_of (fun j => fL (p + j)) (k + 1) = ms_of (fun j => fL (p + j)) k ||| mk_bit (lb i) := by rw [ms_of, ei]
    rw [sy_it, ei]
    rcases of_cases hV hi with ⟨ho1, hf1, hf2⟩ | ⟨ho0, hf1, hf2⟩ | ⟨ho2, hf1⟩
    · rw [if_pos ho1]
      have hb : bt (ms_of (fun j => fL (p + j)) z) i = true := (ms_bt hi hg.1).mpr ⟨k, by omega, ei⟩
      have hr : bt (mk_rest (ms_of (fun j => fL (p + j)) z) f) i = true := by rw [bt_rest _ _ hi, hb, hf1]; rfl
      refine Or.inr (Or.inl ⟨fun h => ?_, ?_, rfl⟩)
      · rw [h, b_0] at hr; cases hr
      · rw [mk_told, if_neg]
        intro h
        have h3 := bt_0' h.2 i
        rw [b_and, hr, bt_neg f hi, hf2] at h3
        cases h3
    · rw [if_neg (by rw [ho0]; decide), if_pos ho0, if_pos ho0]
      have er : mk_rest (ms_of (fun j => fL (p + j)) (k + 1)) f = mk_rest (ms_of (fun j => fL (p + j)) k) f ||| mk_bit (lb i) := by rw [hms, rest_or, rest_bit1 hi hf1]
      have hni : bt (mk_rest (ms_of (fun j => fL (p + j)) k) f) i = false := by rw [bt_rest _ _ hi, hnew.1]; rfl
      have hs1 : pb_sz (mk_rest (ms_of (fun j => fL (p + j)) (k + 1)) f) = pb_sz (mk_rest (ms_of (fun j => fL (p + j)) k) f) + 1 := by rw [er, sz_add hi hni]
      have hsz := pb_sz_n (mk_rest (ms_of (fun j => fL (p + j)) k) f)
      refine ih (k + 1) _ _ (by omega) ?_ (by rw [ho, nI_1, hs1]) ?_
      · intro j m hj hm ej hfm
        rcases Nat.lt_or_ge j k with q | q
        · exact hn j m q hm ej hfm
        · have e2 : j = k := by omega
          rw [e2, ei] at ej
          have e3 := lb_inj hi hm ej
          rw [← e3]; exact hf2
      · intro c1
        rw [ho, nI_1] at c1
        have e0 : pb_sz (mk_rest (ms_of (fun j => fL (p + j)) k) f) + 1 = 1 := (nI_eq (by omega) (by omega)).mp c1
        refine ⟨i, hi, rfl, ?_⟩
        rw [er, sz_0 (by omega : pb_sz (mk_rest (ms_of (fun j => fL (p + j)) k) f) = 0), zero_or]
    · rw [if_neg (by rw [ho2]; decide), if_neg (by rw [ho2]; decide), if_neg (by rw [ho2]; decide)]
      have er : mk_rest (ms_of (fun j => fL (p + j)) (k + 1)) f = mk_rest (ms_of (fun j => fL (p + j)) k) f := by rw [hms, rest_or, rest_bit0 hi hf1, or_0]
      refine ih (k + 1) _ _ (by omega) ?_ (by rw [er, ho]; simp) ?_
      · intro j m hj hm ej hfm
        rcases Nat.lt_or_ge j k with q | q
        · exact hn j m q hm ej hfm
        · have e2 : j = k := by omega
          rw [e2, ei] at ej
          have e3 := lb_inj hi hm ej
          rw [← e3, hf1] at hfm
          cases hfm
      · intro c1
        obtain ⟨m, hm, e1, e2⟩ := h1 (by simpa using c1)
        exact ⟨m, hm, e1, by rw [er]; exact e2⟩
/-- SAYS -/
theorem sy_ok {fL fV : Nat → Int32} {f : Int32} (hV : VR fV f) (p z : Nat) (hg : gs (fun j => fL (p + j)) z) : SY (ms_of (fun j => fL (p + j)) z) f (sy_it fL fV z p 0 0) := by
  have h0 : mk_rest (ms_of (fun j => fL (p + j)) 0) f = 0 := eq_0 fun i hi => by rw [bt_rest _ _ hi, ms_of, b_0]; rfl
  exact sy_main hV p z hg z 0 0 0 (by omega) (fun j i hj => absurd hj (Nat.not_lt_zero j)) (by rw [h0]; rfl) (fun h => absurd h (by decide))
theorem lb_ne : ∀ i, i < 32 → ¬ lb i = 0 ∧ ¬ lb i = 17 := by decide +kernel
end
section
/-! the class and the reference follow in step -/
/-- the clauses, as the class and as the reference have them -/
def CR (n : Nat) (zl : Nat → Nat) (fC fT fL fN : Nat → Int32) : Prop := ∀ c, c < n → gs (fun j => fL (16 * c + j)) (zl c) ∧ fC c = ms_of (fun j => fL (16 * c + j)) (zl c) ∧ ((fT c = 0 ∧ fN c = -1) ∨ (fT c = 1 ∧ fN c = nI (zl c)))
theorem CR_sy {n c : Nat} {zl : Nat → Nat} {fC fT fL fN fV : Nat → Int32} {f : Int32} (h : CR n zl fC fT fL fN) (hc : c < n) (hV : VR fV f) (ht : ¬ fT c = 0) : ¬ fN c < 0 ∧ SY (fC c) f (sy_of fL fN fV c) := by
  obtain ⟨hg, hm, hh⟩ := h c hc
  rcases hh with ⟨h1, _⟩ | ⟨_, h2⟩
  · exact absurd h1 ht
  · have hz := gs_16 hg
    have e : (fN c).toNatClampNeg = zl c := by rw [h2]; exact nI_clamp (by omega)
    refine ⟨by rw [h2]; exact nI_pos (by omega), ?_⟩
    rw [sy_of, e, hm]
    exact sy_ok hV (16 * c) (zl c) hg
theorem CR_dead {n c : Nat} {zl : Nat → Nat} {fC fT fL fN : Nat → Int32} (h : CR n zl fC fT fL fN) (hc : c < n) (ht : fT c = 0) : fN c < 0 := by
  rcases (h c hc).2.2 with ⟨_, h2⟩ | ⟨h1, _⟩
  · rw [h2]; decide
  · rw [ht] at h1; exact absurd h1 (by decide)
theorem scan_ok {n : Nat} {zl : Nat → Nat} {fC fT fL fN : Nat → Int32} (hC : CR n zl fC fT fL fN) : ∀ (a i : Nat) (f : Int32) (fV : Nat → Int32) (g b : Int32), i + a = n → VR fV f → (tl_scan fC fT a i f = none ∧ fw_scan fL fN a i fV g b = none) ∨ (∃ (f1 : Int32) (fV1 : Nat → Int32) (t : Nat) (b1 : Int32), tl_scan fC fT a i f = some f1 ∧ fw_scan fL fN a i fV g b = some (fV1, g + nI t, b1) ∧ VR fV1 f1 ∧ pb_sz f1 = pb_sz f + t ∧ ((t = 0 ∧ f1 = f ∧ b1 = b) ∨ (0 < t ∧ b1 = 1))) := by
  intro a
  induction a with
  | zero =>
    intro i f fV g b hk hV
    exact Or.inr ⟨f, fV, 0, b, rfl, by rw [fw_scan, nI_0]; simp, hV, rfl, Or.inl ⟨rfl, rfl, rfl⟩⟩
  | succ a ih =>
    intro i f fV g b hk hV
    rw [tl_scan, fw_scan]
    by_cases ht : fT i = 0
    · rw [if_pos ht, if_pos (CR_dead hC (by omega) ht)]
      exact ih (i + 1) f fV g b (by omega) hV
    · obtain ⟨hn, hsy⟩ := CR_sy hC (show i < n by omega) hV ht
      rw [if_neg ht, if_neg hn]
      rcases hsy with ⟨h0, h17⟩ | ⟨hr, ht0, hs0⟩ | ⟨hr, j, hj, hs, ht1, hf1, hf2, _⟩
      · rw [if_pos h0, if_pos h17]
        exact Or.inl ⟨rfl, rfl⟩
      · rw [if_neg hr, if_neg (by rw [hs0]; decide), if_pos hs0, ht0, neg_0, or_0]
        exact ih (i + 1) f fV g b (by omega) hV
      · rw [if_neg hr, if_neg (by rw [hs]; exact (lb_ne j hj).2), if_neg (by rw [hs]; exact (lb_ne j hj).1), ht1, neg_lb j hj, hs]
        have hV2 := VR_tell hV hj hf1
        have hsz : pb_sz (f ||| mk_bit (lb ((j + 16) % 32))) = pb_sz f + 1 := sz_add (by omega) hf2
        rcases ih (i + 1) _ _ (g + 1) 1 (by omega) hV2 with ⟨h1, h2⟩ | ⟨f1, fV1, t, b1, h1, h2, h3, h4, h5⟩
        · exact Or.inl ⟨h1, h2⟩
        · refine Or.inr ⟨f1, fV1, t + 1, 1, h1, ?_, h3, by omega, Or.inr ⟨by omega, rfl⟩⟩
          have eb : b1 = 1 := by
            rcases h5 with ⟨_, _, h⟩ | ⟨_, h⟩ <;> exact h
          rw [h2, eb, show g + 1 + nI t = g + nI (t + 1) by rw [← nI_1 t, Int32.add_assoc, Int32.add_comm 1]]
theorem rounds_ok {n : Nat} {zl : Nat → Nat} {fC fT fL fN : Nat → Int32} (hC : CR n zl fC fT fL fN) : ∀ (k : Nat) (f : Int32) (fV : Nat → Int32) (g : Int32), VR fV f → 17 ≤ pb_sz f + k → (tl_rounds fC fT n k f = none ∧ fw_it fL fN n k fV g = some 17) ∨ (∃ (f1 : Int32) (t : Nat), tl_rounds fC fT n k f = some f1 ∧ fw_it fL fN n k fV g = some (g + nI t) ∧ pb_sz f1 = pb_sz f + t ∧ pb_sz f1 ≤ 16) := by
  intro k
  induction k with
  | zero =>
    intro f fV g hV hk
    have := sz_cons hV.1
    omega
  | succ k ih =>
    intro f fV g hV hk
    rw [tl_rounds, fw_it]
    rcases scan_ok hC n 0 f fV g 0 (by omega) hV with ⟨h1, h2⟩ | ⟨f1, fV1, t, b1, h1, h2, h3, h4, h5⟩
    · rw [h1, h2]
      exact Or.inl ⟨rfl, rfl⟩
    · rw [h1, h2]
      show (((if f1 = f then some f1 else tl_rounds fC fT n k f1) = none ∧ (if b1 = 0 then some (g + nI t) else fw_it fL fN n k fV1 (g + nI t)) = some 17) ∨ _)
      rcases h5 with ⟨e1, e2, e3⟩ | ⟨e1, e2⟩
      · refine Or.inr ⟨f1, t, ?_, ?_, h4, sz_cons h3.1⟩
        · show (if f1 = f then some f1 else tl_rounds fC fT n k f1) = some f1
          rw [if_pos e2]
        · show (if b1 = 0 then some (g + nI t) else fw_it fL fN n k fV1 (g + nI t)) = some (g + nI t)
          rw [if_pos e3]
      · have hne : ¬ f1 = f := fun h => by rw [h] at h4; omega
        have hb : ¬ b1 = 0 := by rw [e2]; decide
        rw [if_neg hne, if_neg hb]
        rcases ih f1 fV1 (g + nI t) h3 (by omega) with ⟨q1, q2⟩ | ⟨f2, t2, q1, q2, q3, q4⟩
        · exact Or.inl ⟨q1, q2⟩
        · refine Or.inr ⟨f2, t + t2, ?_, ?_, by omega, q4⟩
          · show (if f1 = f then some f1 else tl_rounds fC fT n k f1) = some f2
            rw [if_neg hne]; exact q1
          · show (if b1 = 0 then some (g + nI t) else fw_it fL fN n k fV1 (g + nI t)) = some (g + nI (t + t2))
            rw [if_neg hb, q2, Int32.add_assoc, nI_add]
theorem zv_at : ∀ (a i : Nat) (f : Nat → Int32) (j : Nat), zv_it a i f j = if i ≤ j ∧ j < i + a then 0 else f j
  | 0, i, f, j => by rw [zv_it, if_neg (by omega)]
  | a + 1, i, f, j => by
    rw [zv_it, zv_at a (i + 1)]
    by_cases h : i + 1 ≤ j ∧ j < i + 1 + a
    · rw [if_pos h, if_pos (by omega)]
    · rw [if_neg h]
      by_cases e : j = i
      · rw [e, pk_us, if_pos (by omega)]
      · rw [pk_un e, if_neg (by omega)]
theorem so_ok {fD : Nat → Int32} {d : Nat} (hg : gs fD d) : ∀ (a i : Nat) (f : Nat → Int32), i + a = d → VR f (ms_of fD i) → VR (so_it fD a i f) (ms_of fD d) := by
  intro a
  induction a with
  | zero =>
    intro i f hk hV
    have e : i = d := by omega
    rw [so_it, ← e]
    exact hV
  | succ a ih =>
    intro i f hk hV
    rw [so_it]
    refine ih (i + 1) _ (by omega) ?_
    have hgi : gs fD (i + 1) := gs_le hg (by omega)
    obtain ⟨m, hm, em⟩ := lit_lb (hgi.1 i (Nat.lt_succ_self i))
    have h2 := (gs_new hgi hm em).2
    have h3 := VR_tell hV (show (m + 16) % 32 < 32 by omega) h2
    rw [show ((m + 16) % 32 + 16) % 32 = m by omega] at h3
    rw [ms_of, em, lb_neg m hm]
    exact h3
theorem VR_0 {fD fV : Nat → Int32} {d : Nat} (hg : gs fD d) : VR (so_it fD d 0 (zv_it 17 0 fV)) (ms_of fD d) := by
  refine so_ok hg d 0 _ (by omega) ⟨fun i _ => by rw [ms_of, b_0]; rfl, fun i hi => ?_⟩
  rw [zv_at, if_pos (by omega), ms_of, b_0, b_0]
  rfl
/-- FOLLOWING, by itself -/
theorem follow_ok {n d : Nat} {zl : Nat → Nat} {fC fT fL fN fD : Nat → Int32} (fV : Nat → Int32) (hC : CR n zl fC fT fL fN) (hg : gs fD d) : (tl_rounds fC fT n 17 (ms_of fD d) = none ∧ td_val (tl_rounds fC fT n 17 (ms_of fD d)) (ms_of fD d) = 17 ∧ fw_it fL fN n 17 (so_it fD d 0 (zv_it 17 0 fV)) 0 = some 17) ∨ (∃ t : Nat, t ≤ 16 ∧ td_val (tl_rounds fC fT n 17 (ms_of fD d)) (ms_of fD d) = nI t ∧ fw_it fL fN n 17 (so_it fD d 0 (zv_it 17 0 fV)) 0 = some (nI t)) := by
  rcases rounds_ok hC 17 (ms_of fD d) _ 0 (VR_0 (fV := fV) hg) (by omega) with ⟨h1, h2⟩ | ⟨f1, t, h1, h2, h3, h4⟩
  · exact Or.inl ⟨h1, by rw [h1]; rfl, h2⟩
  · refine Or.inr ⟨t, by omega, ?_, by rw [h2]; simp⟩
    rw [h1]
    show nI (pb_sz f1) - nI (pb_sz (ms_of fD d)) = nI t
    rw [pk_sub (by omega), h3, show pb_sz (ms_of fD d) + t - pb_sz (ms_of fD d) = t by omega]
theorem there_ok {n : Nat} {zl : Nat → Nat} {cc ct : Int32} {fC fT fL fN : Nat → Int32} (hC : CR n zl fC fT fL fN) (hn : n < 2 ^ 31) (e1 : cc = nI n) (e2 : ct = nI n) (k : Int32) : th_b cc fT k = mt_b ct fN k := by
  rw [th_b, mt_b, e1, e2]
  by_cases z : ¬ k < 0 ∧ ¬ nI n ≤ k
  · rcases pk_ix k (n := n) hn with q | q | ⟨j, hj, ej⟩
    · exact absurd q z.1
    · exact absurd q z.2
    · have cj : k.toNatClampNeg = j := by rw [ej]; exact nI_clamp (by omega)
      rw [cj]
      by_cases ht : fT j = 0
      · rw [if_neg (fun h => h.2.2 ht), if_neg (fun h => h.2.2 (CR_dead hC hj ht))]
      · have hnn : ¬ fN j < 0 := by
          rcases (hC j hj).2.2 with ⟨h1, _⟩ | ⟨_, h2⟩
          · exact absurd h1 ht
          · rw [h2]; exact nI_pos (by have := gs_16 (hC j hj).1; omega)
        rw [if_pos ⟨z.1, z.2, ht⟩, if_pos ⟨z.1, z.2, hnn⟩]
  · rw [if_neg (fun h => z ⟨h.1, h.2.1⟩), if_neg (fun h => z ⟨h.1, h.2.1⟩)]
theorem th_ix {cc k : Int32} {fT : Nat → Int32} {n : Nat} (e : cc = nI n) (hn : n < 2 ^ 31) (h : ¬ th_b cc fT k = 0) : ∃ c : Nat, c < n ∧ k = nI c ∧ k.toNatClampNeg = c ∧ ¬ fT c = 0 := by
  by_cases z : ¬ k < 0 ∧ ¬ cc ≤ k ∧ fT k.toNatClampNeg ≠ 0
  · rcases pk_ix k (n := n) hn with q | q | ⟨j, hj, ej⟩
    · exact absurd q z.1
    · exact absurd (by rw [e]; exact q) z.2.1
    · have cj : k.toNatClampNeg = j := by rw [ej]; exact nI_clamp (by omega)
      exact ⟨j, hj, ej, cj, by have := z.2.2; rw [cj] at this; exact this⟩
  · exact absurd (by rw [th_b, if_neg z]) h
theorem nI_m1 {i : Nat} (h : i < 2 ^ 31) : ¬ nI i = -1 := fun e => by
  have := nI_pos h
  rw [e] at this
  exact this (by decide)
theorem told_0 {c f : Int32} (h : mk_rest c f = 0) : mk_told c f = 0 := by
  rw [mk_told, if_neg]
  intro h1
  rw [h] at h1
  exact absurd h1.1 (by rw [pb_sz_0]; decide)
/-- FOLLOWING, along hints -/
theorem along_ok {n q : Nat} {zl : Nat → Nat} {cc ct hc : Int32} {fC fT fL fN fH fH2 : Nat → Int32} (hC : CR n zl fC fT fL fN) (hn : n < 2 ^ 31) (e1 : cc = nI n) (e2 : ct = nI n) (e3 : hc = nI q) (hq : q ≤ 40) (eH : ∀ j, j < q → fH j = fH2 j) : ∀ (a i : Nat) (f : Int32) (fV : Nat → Int32), i + a = q → VR fV f → (bh_scan cc fC fT fH a i f = -1 ∧ al_it ct hc fL fN fH2 a i fV = none) ∨ (¬ bh_scan cc fC fT fH a i f = -1 ∧ al_it ct hc fL fN fH2 a i fV = some (-1 - bh_scan cc fC fT fH a i f)) := by
  intro a
  induction a with
  | zero =>
    intro i f fV hk hV
    have e : i = q := by omega
    rw [bh_scan, al_it]
    exact Or.inr ⟨nI_m1 (by omega), by rw [e3, e]⟩
  | succ a ih =>
    intro i f fV hk hV
    rw [bh_scan, al_it, show al_said ct fL fN fH2 fV i = if th_b cc fT (fH i) = 0 then 0 else sy_of fL fN fV (fH i).toNatClampNeg by rw [al_said, ← eH i (by omega), there_ok hC hn e1 e2]]
    by_cases ht : th_b cc fT (fH i) = 0
    · rw [if_pos ht, if_pos ht, if_neg (fun h => absurd h.1 (by decide)), if_pos (Or.inl rfl)]
      exact Or.inr ⟨nI_m1 (by omega), rfl⟩
    · obtain ⟨c, hc9, ec, cc9, hT9⟩ := th_ix e1 hn ht
      obtain ⟨_, hsy⟩ := CR_sy hC hc9 hV hT9
      rw [if_neg ht, if_neg ht, cc9]
      rcases hsy with ⟨h0, h17⟩ | ⟨hr, ht0, hs0⟩ | ⟨hr, j, hj, hs, ht1, hf1, hf2, _⟩
      · by_cases ha : a = 0
        · rw [if_pos ⟨ha, h0⟩, if_pos ⟨h17, ha⟩]
          exact Or.inl ⟨rfl, rfl⟩
        · rw [if_neg (fun h => ha h.1), if_pos (told_0 h0), if_neg (fun h => ha h.2), if_pos (Or.inr h17)]
          exact Or.inr ⟨nI_m1 (by omega), rfl⟩
      · rw [if_neg (fun h => hr h.2), if_pos ht0, if_neg (fun h => absurd h.1 (by rw [hs0]; decide)), if_pos (Or.inl hs0)]
        exact Or.inr ⟨nI_m1 (by omega), rfl⟩
      · have hn17 : ¬ sy_of fL fN fV c = 17 := by rw [hs]; exact (lb_ne j hj).2
        have hn0 : ¬ sy_of fL fN fV c = 0 := by rw [hs]; exact (lb_ne j hj).1
        rw [if_neg (fun h => hr h.2), if_neg (by rw [ht1]; exact bit_ne j hj), if_neg (fun h => hn17 h.1), if_neg (fun h => h.elim hn0 hn17), ht1, neg_lb j hj, hs]
        exact ih (i + 1) _ _ (by omega) (VR_tell hV hj hf1)
end
section
/-! what is followed follows: so the reference counts no strange clause -/
def b6 (x : Int64) (i : Nat) : Bool := x.toBitVec.getLsbD i
theorem b6_ext {x y : Int64} (h : ∀ i, i < 64 → b6 x i = b6 y i) : x = y := Int64.toBitVec_inj.mp (BitVec.eq_of_getLsbD_eq (fun i hi => h i hi))
theorem b6_or (x y : Int64) (i : Nat) : b6 (x ||| y) i = (b6 x i || b6 y i) := by unfold b6; rw [Int64.toBitVec_or, BitVec.getLsbD_or]
theorem b6_and (x y : Int64) (i : Nat) : b6 (x &&& y) i = (b6 x i && b6 y i) := by unfold b6; rw [Int64.toBitVec_and, BitVec.getLsbD_and]
theorem b6_xor (x y : Int64) (i : Nat) : b6 (x ^^^ y) i = (b6 x i ^^ b6 y i) := by unfold b6; rw [Int64.toBitVec_xor, BitVec.getLsbD_xor]
theorem b6_0 (i : Nat) : b6 0 i = false := BitVec.getLsbD_zero
theorem b6_m1 : ∀ i, i < 64 → b6 (-1) i = true := by decide +kernel
theorem b6_not (x : Int64) {i : Nat} (hi : i < 64) : b6 (x ^^^ (-1)) i = !b6 x i := by rw [b6_xor, b6_m1 i hi]; simp
/-- the value of a literal (by its bit) in place b of row w of the table of all values -/
def vb (fW : Nat → Int64) (w b i : Nat) : Bool := if i < 16 then b6 (tr_v fW (nI (i + 1)) (nI w)) b else !b6 (tr_v fW (nI (i - 15)) (nI w)) b
theorem vb_other (fW : Nat → Int64) (w b : Nat) {i : Nat} (hi : i < 32) : vb fW w b ((i + 16) % 32) = !vb fW w b i := by
  rw [vb, vb]
  rcases Nat.lt_or_ge i 16 with h | h
  · rw [if_neg (show ¬ (i + 16) % 32 < 16 by omega), if_pos h, show (i + 16) % 32 - 15 = i + 1 by omega]
  · rw [if_pos (show (i + 16) % 32 < 16 by omega), if_neg (show ¬ i < 16 by omega), show (i + 16) % 32 + 1 = i - 15 by omega]
    simp
theorem lb_lo : ∀ i, i < 16 → lb i = nI (i + 1) := by decide +kernel
theorem lb_hi : ∀ i, i < 32 → 16 ≤ i → -(lb i) = nI (i - 15) := by decide +kernel
theorem vb_lb (fW : Nat → Int64) (w : Nat) {b i : Nat} (hb : b < 64) (hi : i < 32) : b6 (if 0 < lb i then tr_v fW (lb i) (nI w) else tr_v fW (-(lb i)) (nI w) ^^^ (-1)) b = vb fW w b i := by
  rw [vb]
  rcases Nat.lt_or_ge i 16 with h | h
  · rw [if_pos ((lb_pos i hi).mpr h), if_pos h, lb_lo i h]
  · rw [if_neg (fun z => absurd ((lb_pos i hi).mp z) (by omega)), if_neg (show ¬ i < 16 by omega), lb_hi i hi h, b6_not _ hb]
/-- a set of literals, taken as a clause, is true under val -/
def CT (c : Int32) (val : Nat → Bool) : Prop := ∃ m, m < 32 ∧ bt c m = true ∧ val m = true
theorem ti_bit {fD : Nat → Int32} {fW : Nat → Int64} {w b d : Nat} (hb : b < 64) (hl : ∀ j, j < d → lit (fD j)) : ∀ (a i : Nat) (f : Int64), i + a = d → (b6 (ti_it fD fW (nI w) a i f) b = true ↔ b6 f b = true ∨ ∃ j m, i ≤ j ∧ j < d ∧ m < 32 ∧ fD j = lb m ∧ vb fW w b m = true)
  | 0, i, f, hk => by
    rw [ti_it]
    exact ⟨Or.inl, fun h => h.elim id (fun ⟨j, m, h1, h2, _⟩ => by omega)⟩
  | a + 1, i, f, hk => by
    obtain ⟨m, hm, em⟩ := lit_lb (hl i (by omega))
    rw [ti_it, ti_bit hb hl a (i + 1) _ (by omega), b6_or, em, vb_lb fW w hb hm, Bool.or_eq_true]
    constructor
    · rintro ((h | h) | ⟨j, k, h1, h2, h3⟩)
      · exact Or.inl h
      · exact Or.inr ⟨i, m, Nat.le_refl _, by omega, hm, em, h⟩
      · exact Or.inr ⟨j, k, by omega, h2, h3⟩
    · rintro (h | ⟨j, k, h1, h2, h3, h4, h5⟩)
      · exact Or.inl (Or.inl h)
      · rcases Nat.lt_or_ge i j with q | q
        · exact Or.inr ⟨j, k, q, h2, h3, h4, h5⟩
        · have e : j = i := by omega
          rw [e, em] at h4
          rw [lb_inj hm h3 h4]
          exact Or.inl (Or.inr h5)
theorem ti_CT {fD : Nat → Int32} {fW : Nat → Int64} {w b d : Nat} (hb : b < 64) (hg : gs fD d) : b6 (ti_it fD fW (nI w) d 0 0) b = true ↔ CT (ms_of fD d) (vb fW w b) := by
  rw [ti_bit hb hg.1 d 0 0 (by omega), b6_0]
  constructor
  · rintro (h | ⟨j, m, _, h2, h3, h4, h5⟩)
    · cases h
    · exact ⟨m, h3, (ms_bt h3 hg.1).mpr ⟨j, h2, h4⟩, h5⟩
  · rintro ⟨m, h3, h4, h5⟩
    obtain ⟨j, hj, ej⟩ := (ms_bt h3 hg.1).mp h4
    exact Or.inr ⟨j, m, Nat.zero_le _, hj, h3, ej, h5⟩
section SND
variable {val : Nat → Bool} (hval : ∀ i, i < 32 → val ((i + 16) % 32) = !val i)
theorem snd_told {c f : Int32} (hval : ∀ i, i < 32 → val ((i + 16) % 32) = !val i) (hc : CT c val) (hf : ∀ m, m < 32 → bt f m = true → val m = false) : ¬ mk_rest c f = 0 ∧ ∀ m, m < 32 → bt (f ||| mk_neg (mk_told c f)) m = true → val m = false := by
  obtain ⟨m, hm, h1, h2⟩ := hc
  have hfm : bt f m = false := by
    cases h : bt f m with
    | false => rfl
    | true => rw [hf m hm h] at h2; cases h2
  have hr : bt (mk_rest c f) m = true := by rw [bt_rest _ _ hm, h1, hfm]; rfl
  refine ⟨fun h => (by rw [h, b_0] at hr; cases hr), fun k hk hb => ?_⟩
  rw [b_or, Bool.or_eq_true] at hb
  rcases hb with hb | hb
  · exact hf k hk hb
  · by_cases ht : pb_sz (mk_rest c f) = 1 ∧ mk_rest c f &&& mk_neg f = 0
    · rw [mk_told, if_pos ht] at hb
      obtain ⟨i, hi, ei⟩ := sz_1 ht.1
      rw [ei, bt_lb hi m hm, decide_eq_true_eq] at hr
      rw [ei, neg_lb i hi, bt_lb (by omega) k hk, decide_eq_true_eq] at hb
      rw [hb, hval i hi, ← hr, h2]
      rfl
    · rw [mk_told, if_neg ht, neg_0, b_0] at hb
      cases hb
theorem snd_scan {n : Nat} {fC fT : Nat → Int32} (hval : ∀ i, i < 32 → val ((i + 16) % 32) = !val i) (hc : ∀ c, c < n → CT (fC c) val) : ∀ (a i : Nat) (f : Int32), i + a ≤ n → (∀ m, m < 32 → bt f m = true → val m = false) → ∃ g, tl_scan fC fT a i f = some g ∧ ∀ m, m < 32 → bt g m = true → val m = false
  | 0, i, f, _, hf => ⟨f, rfl, hf⟩
  | a + 1, i, f, hk, hf => by
    rw [tl_scan]
    by_cases ht : fT i = 0
    · rw [if_pos ht]
      exact snd_scan hval hc a (i + 1) f (by omega) hf
    · obtain ⟨h1, h2⟩ := snd_told hval (hc i (by omega)) hf
      rw [if_neg ht, if_neg h1]
      exact snd_scan hval hc a (i + 1) _ (by omega) h2
theorem snd_rounds {n : Nat} {fC fT : Nat → Int32} (hval : ∀ i, i < 32 → val ((i + 16) % 32) = !val i) (hc : ∀ c, c < n → CT (fC c) val) : ∀ (k : Nat) (f : Int32), (∀ m, m < 32 → bt f m = true → val m = false) → ¬ tl_rounds fC fT n k f = none
  | 0, f, _ => fun h => by rw [tl_rounds] at h; cases h
  | k + 1, f, hf => by
    obtain ⟨g, h1, h2⟩ := snd_scan (fT := fT) hval hc n 0 f (by omega) hf
    rw [tl_rounds, h1]
    show ¬ (if g = f then some g else tl_rounds fC fT n k g) = none
    by_cases e : g = f
    · rw [if_pos e]; exact fun h => nomatch h
    · rw [if_neg e]
      exact snd_rounds hval hc k g h2
theorem snd_hints {n q : Nat} {cc : Int32} {fC fT fH : Nat → Int32} (hval : ∀ i, i < 32 → val ((i + 16) % 32) = !val i) (hn : n < 2 ^ 31) (e1 : cc = nI n) (hq : q ≤ 40) (hc : ∀ c, c < n → CT (fC c) val) : ∀ (a i : Nat) (f : Int32), i + a = q → (∀ m, m < 32 → bt f m = true → val m = false) → ¬ bh_scan cc fC fT fH a i f = -1
  | 0, i, f, hk, _ => by rw [bh_scan]; exact nI_m1 (by omega)
  | a + 1, i, f, hk, hf => by
    rw [bh_scan]
    by_cases ht : th_b cc fT (fH i) = 0
    · rw [if_pos ht]; exact nI_m1 (by omega)
    · obtain ⟨c, hc9, _, cc9, _⟩ := th_ix e1 hn ht
      rw [if_neg ht, cc9]
      obtain ⟨h1, h2⟩ := snd_told hval (hc c hc9) hf
      rw [if_neg (fun h => h1 h.2)]
      by_cases h0 : mk_told (fC c) f = 0
      · rw [if_pos h0]; exact nI_m1 (by omega)
      · rw [if_neg h0]
        exact snd_hints hval hn e1 hq hc a (i + 1) _ (by omega) h2
theorem CT_of {dr : Int32} (h : ¬ ∀ m, m < 32 → bt dr m = true → val m = false) : CT dr val := by
  refine Classical.byContradiction fun hn => h fun m hm hb => ?_
  cases hv : val m with
  | false => rfl
  | true => exact absurd ⟨m, hm, hb, hv⟩ hn
end SND
/-- all clauses are true wherever the given ones are -/
def MI (n : Nat) (fC : Nat → Int32) (fM fW : Nat → Int64) : Prop := ∀ w b, w < 1024 → b < 64 → b6 (fM w) b = true → ∀ c, c < n → CT (fC c) (vb fW w b)
theorem ac_1 {ti fM : Nat → Int64} : ∀ (a i : Nat), (∀ w, i ≤ w → w < i + a → fM w = 0 ∨ fM w &&& (ti w ^^^ (-1)) = 0) → ac_it ti fM a i 1 = 1
  | 0, _, _ => rfl
  | a + 1, i, h => by
    rw [ac_it, if_neg (by decide), if_pos (h i (Nat.le_refl _) (by omega))]
    exact ac_1 a (i + 1) (fun w h1 h2 => h w (by omega) (by omega))
/-- a draft that is true wherever the given clauses are isn't strange -/
theorem ac_ok {fD : Nat → Int32} {fM fW : Nat → Int64} {d : Nat} (hg : gs fD d) (h : ∀ w b, w < 1024 → b < 64 → b6 (fM w) b = true → CT (ms_of fD d) (vb fW w b)) : ac_it (fun j => ti_it fD fW (nI j) d 0 0) fM 1024 0 1 = 1 := by
  refine ac_1 1024 0 fun w _ hw => Or.inr (b6_ext fun b hb => ?_)
  rw [b6_and, b6_not _ hb, b6_0]
  cases h1 : b6 (fM w) b with
  | false => rfl
  | true =>
    have h2 := (ti_CT (fW := fW) (w := w) hb hg).mpr (h w b (by omega) hb h1)
    show (true && !b6 (ti_it fD fW (nI w) d 0 0) b) = false
    rw [h2]
    rfl
theorem gm_at {ti : Nat → Int64} : ∀ (a i : Nat) (f : Nat → Int64) (j : Nat), gm_it ti a i f j = if i ≤ j ∧ j < i + a then f j &&& (if f j = 0 then 0 else ti j) else f j
  | 0, i, f, j => by rw [gm_it, if_neg (by omega)]
  | a + 1, i, f, j => by
    rw [gm_it, gm_at a (i + 1)]
    by_cases e : j = i
    · rw [e, if_neg (show ¬ (i + 1 ≤ i ∧ i < i + 1 + a) by omega), pk_uLs, if_pos (show i ≤ i ∧ i < i + (a + 1) by omega)]
    · rw [pk_uLn e]
      by_cases h : i + 1 ≤ j ∧ j < i + 1 + a
      · rw [if_pos h, if_pos (show i ≤ j ∧ j < i + (a + 1) by omega)]
      · rw [if_neg h, if_neg (show ¬ (i ≤ j ∧ j < i + (a + 1)) by omega)]
/-- giving: the table afterwards -/
theorem MI_give {n d : Nat} {fC fC2 fD : Nat → Int32} {fM fW : Nat → Int64} (hg : gs fD d) (h : MI n fC fM fW) (h1 : ∀ c, c < n → fC2 c = fC c) (h2 : fC2 n = ms_of fD d) : MI (n + 1) fC2 (gm_it (fun j => ti_it fD fW (nI j) d 0 0) 1024 0 fM) fW := by
  intro w b hw hb hm c hc
  rw [gm_at, if_pos (by omega), b6_and, Bool.and_eq_true] at hm
  rcases Nat.lt_or_ge c n with q | q
  · rw [h1 c q]
    exact h w b hw hb hm.1 c q
  · rw [show c = n by omega, h2]
    have h3 := hm.2
    by_cases e : fM w = 0
    · rw [if_pos e, b6_0] at h3; cases h3
    · rw [if_neg e] at h3
      exact (ti_CT hb hg).mp h3
theorem MI_acc {n d : Nat} {fC fC2 fD : Nat → Int32} {fM fW : Nat → Int64} (h : MI n fC fM fW) (h1 : ∀ c, c < n → fC2 c = fC c) (h2 : fC2 n = ms_of fD d) (h3 : ∀ w b, w < 1024 → b < 64 → b6 (fM w) b = true → CT (ms_of fD d) (vb fW w b)) : MI (n + 1) fC2 fM fW := by
  intro w b hw hb hm c hc
  rcases Nat.lt_or_ge c n with q | q
  · rw [h1 c q]
    exact h w b hw hb hm c q
  · rw [show c = n by omega, h2]
    exact h3 w b hw hb hm
theorem snd_step {n : Nat} {fC fT : Nat → Int32} {fM fW : Nat → Int64} {dr : Int32} (h : MI n fC fM fW) (h17 : tl_rounds fC fT n 17 dr = none) : ∀ w b, w < 1024 → b < 64 → b6 (fM w) b = true → CT dr (vb fW w b) := fun w b hw hb hm =>
  CT_of fun hf => snd_rounds (fun i hi => vb_other fW w b hi) (h w b hw hb hm) 17 dr hf h17
theorem snd_along {n q : Nat} {cc : Int32} {fC fT fH : Nat → Int32} {fM fW : Nat → Int64} {dr : Int32} (hn : n < 2 ^ 31) (e1 : cc = nI n) (hq : q ≤ 40) (h : MI n fC fM fW) (h1 : bh_scan cc fC fT fH q 0 dr = -1) : ∀ w b, w < 1024 → b < 64 → b6 (fM w) b = true → CT dr (vb fW w b) := fun w b hw hb hm =>
  CT_of fun hf => snd_hints (fun i hi => vb_other fW w b hi) hn e1 hq (h w b hw hb hm) q 0 dr (by omega) hf h1
end
section
/-! the order of a clause's literals, at(); literal(); isOver() -/
def or_of (f : Nat → Int32) : Nat → Int64
  | 0 => 0
  | k + 1 => or_of f k ||| ((lt_abs (f k) - 1).toInt64 <<< ((4 * nI k).toInt64 &&& 63))
theorem or_eq {f g : Nat → Int32} : ∀ {k : Nat}, (∀ j, j < k → f j = g j) → or_of f k = or_of g k
  | 0, _ => rfl
  | k + 1, h => by rw [or_of, or_of, or_eq (fun j hj => h j (Nat.lt_succ_of_lt hj)), h k (Nat.lt_succ_self k)]
def or_N (f : Nat → Int32) : Nat → Nat
  | 0 => 0
  | k + 1 => or_N f k + bi (f k) % 16 * 2 ^ (4 * k)
theorem or_lt {f : Nat → Int32} : ∀ (k : Nat), or_N f k < 2 ^ (4 * k)
  | 0 => by rw [or_N]; decide
  | k + 1 => by
    have h := or_lt (f := f) k
    have h2 : bi (f k) % 16 < 16 := Nat.mod_lt _ (by decide)
    rw [or_N, show 2 ^ (4 * (k + 1)) = 16 * 2 ^ (4 * k) by rw [show 4 * (k + 1) = 4 + 4 * k by omega, Nat.pow_add]]
    have h3 : bi (f k) % 16 * 2 ^ (4 * k) ≤ 15 * 2 ^ (4 * k) := Nat.mul_le_mul_right _ (by omega)
    omega
theorem or_dig {f : Nat → Int32} {i : Nat} : ∀ (z : Nat), i < z → or_N f z / 2 ^ (4 * i) % 16 = bi (f i) % 16
  | 0, h => absurd h (Nat.not_lt_zero i)
  | z + 1, h => by
    rw [or_N]
    rcases Nat.lt_or_ge i z with q | q
    · have e : bi (f z) % 16 * 2 ^ (4 * z) = 2 ^ (4 * i) * (16 * (bi (f z) % 16 * 2 ^ (4 * (z - i - 1)))) := by
        rw [show 4 * z = 4 * i + (4 + 4 * (z - i - 1)) by omega, Nat.pow_add, Nat.pow_add]
        generalize 2 ^ (4 * i) = A
        generalize 2 ^ (4 * (z - i - 1)) = B
        generalize bi (f z) % 16 = C
        show C * (A * (16 * B)) = A * (16 * (C * B))
        rw [← Nat.mul_assoc, Nat.mul_comm C A, Nat.mul_assoc]
        congr 1
        rw [← Nat.mul_assoc, Nat.mul_comm C 16, Nat.mul_assoc]
      rw [e, Nat.add_mul_div_left _ _ (Nat.two_pow_pos _), Nat.add_mul_mod_self_left]
      exact or_dig z q
    · have e : i = z := by omega
      subst e
      rw [Nat.add_mul_div_right _ _ (Nat.two_pow_pos _), Nat.div_eq_of_lt (or_lt i)]
      omega
theorem or_lN {f : Nat → Int32} : ∀ {k : Nat}, k ≤ 16 → (∀ j, j < k → lit (f j)) → or_of f k = lN (or_N f k)
  | 0, _, _ => rfl
  | k + 1, hk, h => by
    obtain ⟨m, hm, em⟩ := lit_lb (h k (Nat.lt_succ_self k))
    have hb : bi (f k) % 16 = m % 16 := by rw [em, bi_lb m hm]
    have hlt := or_lt (f := f) k
    have hp : 2 ^ (4 * k) ≤ 2 ^ 60 := Nat.pow_le_pow_right (by decide) (by omega)
    have hx : m % 16 * 2 ^ (4 * k) ≤ 15 * 2 ^ (4 * k) := Nat.mul_le_mul_right _ (by omega)
    have key : or_N f k ||| m % 16 * 2 ^ (4 * k) = or_N f k + m % 16 * 2 ^ (4 * k) := by rw [Nat.or_comm, Nat.mul_comm, ← Nat.two_pow_add_eq_or_of_lt hlt, Nat.add_comm]
    rw [or_of, or_N, hb, or_lN (by omega) (fun j hj => h j (Nat.lt_succ_of_lt hj)), em, lb_abs m hm, nI_pred, nI_l (by omega), show (4 : Int32) * nI k = nI (4 * k) by rw [show (4 : Int32) = nI 4 from rfl, pk_mul], wb_shl _ (show 4 * k < 64 by omega), wb_or (by omega) (by omega), key]
theorem at_var_ok {f : Nat → Int32} {z i : Nat} (hg : gs f z) (hi : i < z) : at_var (or_of f z) (nI i) = nI (bi (f i) % 16 + 1) := by
  have hz := gs_16 hg
  have hlt := or_lt (f := f) z
  have hp : 2 ^ (4 * z) ≤ 2 ^ 64 := Nat.pow_le_pow_right (by decide) (by omega)
  have hd : or_N f z / 2 ^ (4 * i) < 2 ^ 64 := Nat.lt_of_le_of_lt (Nat.div_le_self _ _) (by omega)
  rw [at_var, or_lN hz hg.1, show (4 : Int32) * nI i = nI (4 * i) by rw [show (4 : Int32) = nI 4 from rfl, pk_mul], pb_lu, wb_shr (by omega) (show 4 * i < 64 by omega), show (15 : Int64) = lN (2 ^ 4 - 1) from rfl, wb_mask hd (by decide), lN_i, nI_1, show (2 : Nat) ^ 4 = 16 from rfl, or_dig z hi]
/-- AT -/
theorem at_ok {f : Nat → Int32} {z j : Nat} (hg : gs f z) (hj31 : j < 2 ^ 31) : at_val (ms_of f z) (or_of f z) (nI j) = if j < z then f j else 0 := by
  have hz := gs_16 hg
  rw [at_val, ms_sz hg]
  by_cases h : j < z
  · rw [if_pos (nI_lt h (by omega)), if_pos h, at_var_ok hg h]
    obtain ⟨m, hm, em⟩ := lit_lb (hg.1 j h)
    rw [em, bi_lb m hm]
    have hbm : bt (ms_of f z) m = true := (ms_bt hm hg.1).mpr ⟨j, h, em⟩
    have hl : nI (m % 16 + 1) = lb (m % 16) := (lb_lo (m % 16) (by omega)).symm
    rw [hl]
    rcases Nat.lt_or_ge m 16 with q | q
    · rw [show m % 16 = m by omega, if_neg]
      intro h0
      have := bt_0' h0 m
      rw [b_and, hbm, bt_lb hm m hm, decide_eq_true rfl] at this
      cases this
    · have ho := cons_other (ms_cons hg) hm hbm
      rw [show (m + 16) % 32 = m % 16 by omega] at ho
      rw [if_pos, lb_neg (m % 16) (by omega), show (m % 16 + 16) % 32 = m by omega]
      refine eq_0 fun k hk => ?_
      rw [b_and, bt_lb (by omega) k hk]
      by_cases e : k = m % 16
      · rw [e, ho]; rfl
      · rw [decide_eq_false e]; simp
  · rw [if_neg (nI_nlt (by omega) hj31), if_neg h]
theorem li_0r {fD : Nat → Int32} {k : Int32} : ∀ (a i : Nat), li_it fD k a i 0 = 0
  | 0, _ => rfl
  | a + 1, i => by rw [li_it, if_pos rfl]
theorem li_1r {fD : Nat → Int32} {k : Int32} : ∀ (a i : Nat), (li_it fD k a i 1 = 0 ∧ ∃ j, i ≤ j ∧ j < i + a ∧ (fD j = k ∨ fD j = -k)) ∨ (li_it fD k a i 1 = 1 ∧ ∀ j, i ≤ j → j < i + a → ¬ fD j = k ∧ ¬ fD j = -k)
  | 0, i => Or.inr ⟨rfl, fun j h1 h2 => by omega⟩
  | a + 1, i => by
    rw [li_it, if_neg (by decide)]
    by_cases h : fD i = k ∨ fD i = -k
    · rw [if_pos h, li_0r]
      exact Or.inl ⟨rfl, i, Nat.le_refl _, by omega, h⟩
    · rw [if_neg h]
      rcases li_1r (fD := fD) (k := k) a (i + 1) with ⟨h1, j, h2, h3, h4⟩ | ⟨h1, h2⟩
      · exact Or.inl ⟨h1, j, by omega, by omega, h4⟩
      · refine Or.inr ⟨h1, fun j h3 h4 => ?_⟩
        rcases Nat.lt_or_ge i j with q | q
        · exact h2 j q (by omega)
        · rw [show j = i by omega]
          exact ⟨fun e => h (Or.inl e), fun e => h (Or.inr e)⟩
/-- LITERAL -/
theorem lit_ok {fD : Nat → Int32} {d : Nat} {k : Int32} (hg : gs fD d) : (lt_bad (ms_of fD d) k ∧ li_it fD k d 0 (li_0 k) = 0) ∨ (¬ lt_bad (ms_of fD d) k ∧ ¬ li_it fD k d 0 (li_0 k) = 0 ∧ d < 16 ∧ gs (upd fD d k) (d + 1)) := by
  by_cases h0 : k = 0 ∨ k < -16 ∨ 16 < k
  · refine Or.inl ⟨?_, by rw [li_0, if_pos h0, li_0r]⟩
    rcases h0 with h | h | h
    · exact Or.inl h
    · exact Or.inr (Or.inl h)
    · exact Or.inr (Or.inr (Or.inl h))
  · have hlit : lit k := ⟨fun h => h0 (Or.inl h), fun h => h0 (Or.inr (Or.inl h)), fun h => h0 (Or.inr (Or.inr h))⟩
    obtain ⟨m, hm, em⟩ := lit_lb hlit
    rw [li_0, if_neg h0]
    have hbit : ∀ i, i < 32 → bt (ms_of fD d ||| mk_neg (ms_of fD d)) i = (bt (ms_of fD d) i || bt (ms_of fD d) ((i + 16) % 32)) := fun i hi => by rw [b_or, bt_neg _ hi]
    rcases li_1r (fD := fD) (k := k) d 0 with ⟨h1, j, _, h3, h4⟩ | ⟨h1, h2⟩
    · refine Or.inl ⟨Or.inr (Or.inr (Or.inr fun hz => ?_)), h1⟩
      have h5 := bt_0' hz m
      rw [b_and, em, bt_lb hm m hm, decide_eq_true rfl, hbit m hm] at h5
      rcases h4 with h4 | h4
      · rw [(ms_bt hm hg.1).mpr ⟨j, by omega, by rw [h4, em]⟩] at h5
        simp at h5
      · rw [(ms_bt (show (m + 16) % 32 < 32 by omega) hg.1).mpr ⟨j, by omega, by rw [h4, em, lb_neg m hm]⟩] at h5
        simp at h5
    · have hn1 : bt (ms_of fD d) m = false := by
        cases hb : bt (ms_of fD d) m with
        | false => rfl
        | true =>
          obtain ⟨j, hj, ej⟩ := (ms_bt hm hg.1).mp hb
          exact absurd (by rw [ej, em]) (h2 j (Nat.zero_le _) (by omega)).1
      have hn2 : bt (ms_of fD d) ((m + 16) % 32) = false := by
        cases hb : bt (ms_of fD d) ((m + 16) % 32) with
        | false => rfl
        | true =>
          obtain ⟨j, hj, ej⟩ := (ms_bt (show (m + 16) % 32 < 32 by omega) hg.1).mp hb
          exact absurd (by rw [ej, em, lb_neg m hm]) (h2 j (Nat.zero_le _) (by omega)).2
      have hgn : gs (upd fD d k) (d + 1) := by
        constructor
        · intro j hj
          rcases Nat.lt_or_ge j d with q | q
          · rw [pk_un (by omega)]; exact hg.1 j q
          · rw [show j = d by omega, pk_us]; exact hlit
        · intro i j hij hj
          rw [pk_un (show i ≠ d by omega)]
          rcases Nat.lt_or_ge j d with q | q
          · rw [pk_un (by omega)]; exact hg.2 i j hij q
          · rw [show j = d by omega, pk_us]; exact h2 i (Nat.zero_le _) (by omega)
      refine Or.inr ⟨?_, by rw [h1]; decide, by have := gs_16 hgn; omega, hgn⟩
      rintro (h | h | h | h)
      · exact hlit.1 h
      · exact hlit.2.1 h
      · exact hlit.2.2 h
      · refine h (eq_0 fun i hi => ?_)
        rw [b_and, hbit i hi, em, bt_lb hm i hi]
        by_cases e : i = m
        · rw [e, hn1, hn2]; rfl
        · rw [decide_eq_false e]; simp
theorem io_1 {fN : Nat → Int32} : ∀ (a i : Nat), io_it fN a i 1 = 1
  | 0, _ => rfl
  | a + 1, i => by rw [io_it, if_pos (Or.inl (by decide))]; exact io_1 a (i + 1)
/-- ISOVER -/
theorem over_ok {n : Nat} {zl : Nat → Nat} {fC fT fL fN : Nat → Int32} (hC : CR n zl fC fT fL fN) : ∀ (a i : Nat), i + a = n → ov_scan fC fT a i = io_it fN a i 0
  | 0, _, _ => rfl
  | a + 1, i, hk => by
    have e : (fT i ≠ 0 ∧ fC i = 0) ↔ (¬ (0 : Int32) = 0 ∨ fN i = 0) := by
      obtain ⟨hg, hm, hh⟩ := hC i (by omega)
      have hz := gs_16 hg
      rcases hh with ⟨h1, h2⟩ | ⟨h1, h2⟩
      · rw [h1, h2]
        exact ⟨fun h => absurd rfl h.1, fun h => h.elim (fun h => absurd rfl h) (fun h => absurd h (by decide))⟩
      · rw [h1, h2, hm]
        constructor
        · rintro ⟨_, h⟩
          have h3 := ms_sz hg
          rw [h, pb_sz_0] at h3
          exact Or.inr (by rw [← h3]; rfl)
        · rintro (h | h)
          · exact absurd rfl h
          · rw [← nI_0] at h
            have h3 := (nI_eq (by omega) (by omega)).mp h
            exact ⟨by decide, by rw [h3]; rfl⟩
    rw [ov_scan, io_it]
    by_cases h : fT i ≠ 0 ∧ fC i = 0
    · rw [if_pos h, if_pos (e.mp h), io_1]
    · rw [if_neg h, if_neg (fun z => h (e.mpr z))]
      exact over_ok hC a (i + 1) (by omega)
theorem ad_at {fD : Nat → Int32} {n : Nat} : ∀ (a i : Nat) (f : Nat → Int32) (j : Nat), ad_it fD n a i f j = if 16 * n + i ≤ j ∧ j < 16 * n + i + a then fD (j - 16 * n) else f j
  | 0, i, f, j => by rw [ad_it, if_neg (by omega)]
  | a + 1, i, f, j => by
    rw [ad_it, ad_at a (i + 1)]
    by_cases h : 16 * n + (i + 1) ≤ j ∧ j < 16 * n + (i + 1) + a
    · rw [if_pos h, if_pos (show 16 * n + i ≤ j ∧ j < 16 * n + i + (a + 1) by omega)]
    · rw [if_neg h]
      by_cases e : j = 16 * n + i
      · rw [e, pk_us, if_pos (show 16 * n + i ≤ 16 * n + i ∧ 16 * n + i < 16 * n + i + (a + 1) by omega), show 16 * n + i - 16 * n = i by omega]
      · rw [pk_un e, if_neg (show ¬ (16 * n + i ≤ j ∧ j < 16 * n + i + (a + 1)) by omega)]
end
section
/-! the class and the reference hold the same: what each call does to that -/
def RC (B n d q : Nat) (zl : Nat → Nat) (cc tc fc hc dr : Int32) (dO : Int64) (fC : Nat → Int32) (fO : Nat → Int64) (fT fH : Nat → Int32) (ct th fo sg sz hc2 : Int32) (fL fN fD fH2 : Nat → Int32) (fM fW : Nat → Int64) : Prop :=
  n ≤ B ∧ q ≤ 40 ∧ cc = nI n ∧ ct = nI n ∧ tc = th ∧ fc = fo ∧ hc = nI q ∧ hc2 = nI q ∧ sz = nI d ∧ sg = 0 ∧ gs fD d ∧ dr = ms_of fD d ∧ dO = or_of fD d ∧ (∀ j, j < q → fH j = fH2 j) ∧ CR n zl fC fT fL fN ∧ (∀ c, c < n → fO c = or_of (fun j => fL (16 * c + j)) (zl c)) ∧ MI n fC fM fW
def Rel (B : Nat) (u : XS) (m : MS) : Prop := match u, m with
  | (cc, tc, fc, hc, dr, dO, fC, fO, fT, fH), (_, ct, th, fo, sg, sz, hc2, fL, fN, fD, fH2, _, fM, fW) => ∃ (n d q : Nat) (zl : Nat → Nat), RC B n d q zl cc tc fc hc dr dO fC fO fT fH ct th fo sg sz hc2 fL fN fD fH2 fM fW
section RELS
variable {B n d q : Nat} {zl : Nat → Nat} {cc tc fc hc dr : Int32} {dO : Int64} {fC : Nat → Int32} {fO : Nat → Int64} {fT fH : Nat → Int32} {ct th fo sg sz hc2 : Int32} {fL fN fD fH2 : Nat → Int32} {fM fW : Nat → Int64}
theorem R_up (h : RC B n d q zl cc tc fc hc dr dO fC fO fT fH ct th fo sg sz hc2 fL fN fD fH2 fM fW) : RC (B + 1) n d q zl cc tc fc hc dr dO fC fO fT fH ct th fo sg sz hc2 fL fN fD fH2 fM fW := ⟨Nat.le_succ_of_le h.1, h.2⟩
theorem R_rng (hg : gs fD d) : ∀ j, j < d → rng (fD j) := fun j hj => (hg.1 j hj).2
theorem R_cl (hC : CR n zl fC fT fL fN) : cl_ok n fL fN := fun c hc => by
  obtain ⟨hg, _, hh⟩ := hC c hc
  rcases hh with ⟨_, h2⟩ | ⟨_, h2⟩
  · exact Or.inl (by rw [h2]; decide)
  · exact Or.inr ⟨zl c, gs_16 hg, h2, fun j hj => (hg.1 j hj).2⟩
theorem R_0 : RC 0 0 0 0 (fun _ => 0) 0 0 0 0 0 0 (fun _ => 0) (fun _ => 0) (fun _ => 0) (fun _ => 0) 0 0 0 0 0 0 (fun _ => 0) (fun _ => 0) (fun _ => 0) (fun _ => 0) fM fW :=
  ⟨Nat.le_refl _, Nat.zero_le _, rfl, rfl, rfl, rfl, rfl, rfl, rfl, rfl, ⟨fun j h => absurd h (Nat.not_lt_zero j), fun i j _ h => absurd h (Nat.not_lt_zero j)⟩, rfl, rfl, fun j h => absurd h (Nat.not_lt_zero j), fun c h => absurd h (Nat.not_lt_zero c), fun c h => absurd h (Nat.not_lt_zero c), fun w b _ _ _ c h => absurd h (Nat.not_lt_zero c)⟩
theorem R_lit (h : RC B n d q zl cc tc fc hc dr dO fC fO fT fH ct th fo sg sz hc2 fL fN fD fH2 fM fW) {k : Int32} (hd : d < 16) (hgn : gs (upd fD d k) (d + 1)) : nI (pb_sz (dr ||| mk_bit k)) = sz + 1 ∧ RC (B + 1) n (d + 1) q zl cc tc fc hc (dr ||| mk_bit k) (lt_ord dr dO k) fC fO fT fH ct th fo sg (sz + 1) hc2 fL fN (upd fD sz.toNatClampNeg k) fH2 fM fW := by
  obtain ⟨h1, h2, h3, h4, h5, h6, h7, h8, h9, h10, h11, h12, h13, h14, h15, h16, h17⟩ := h
  have cz : sz.toNatClampNeg = d := by rw [h9]; exact nI_clamp (by omega)
  have em : dr ||| mk_bit k = ms_of (upd fD d k) (d + 1) := by
    rw [ms_of, pk_us, h12, ms_eq (f := upd fD d k) (g := fD) (fun j hj => pk_un (by omega))]
  have eo : lt_ord dr dO k = or_of (upd fD d k) (d + 1) := by
    rw [or_of, pk_us, lt_ord, h12, h13, ms_sz h11, or_eq (f := upd fD d k) (g := fD) (fun j hj => pk_un (by omega))]
  rw [cz]
  exact ⟨by rw [em, ms_sz hgn, h9, nI_1], Nat.le_succ_of_le h1, h2, h3, h4, h5, h6, h7, h8, by rw [h9, nI_1], h10, hgn, em, eo, h14, h15, h16, h17⟩
theorem R_hint (h : RC B n d q zl cc tc fc hc dr dO fC fO fT fH ct th fo sg sz hc2 fL fN fD fH2 fM fW) {k : Int32} (hq : q < 40) : hc + 1 = hc2 + 1 ∧ RC (B + 1) n d (q + 1) zl cc tc fc (hc + 1) dr dO fC fO fT (upd fH hc.toNatClampNeg k) ct th fo sg sz (hc2 + 1) fL fN fD (upd fH2 hc2.toNatClampNeg k) fM fW := by
  obtain ⟨h1, h2, h3, h4, h5, h6, h7, h8, h9, h10, h11, h12, h13, h14, h15, h16, h17⟩ := h
  have c1 : hc.toNatClampNeg = q := by rw [h7]; exact nI_clamp (by omega)
  have c2 : hc2.toNatClampNeg = q := by rw [h8]; exact nI_clamp (by omega)
  rw [c1, c2]
  refine ⟨by rw [h7, h8], Nat.le_succ_of_le h1, by omega, h3, h4, h5, h6, by rw [h7, nI_1], by rw [h8, nI_1], h9, h10, h11, h12, h13, fun j hj => ?_, h15, h16, h17⟩
  by_cases e : j = q
  · rw [e, pk_us, pk_us]
  · rw [pk_un e, pk_un e]; exact h14 j (by omega)
theorem gs_nil (f : Nat → Int32) : gs f 0 := ⟨fun j h => absurd h (Nat.not_lt_zero j), fun i j _ h => absurd h (Nat.not_lt_zero j)⟩
theorem R_clear (h : RC B n d q zl cc tc fc hc dr dO fC fO fT fH ct th fo sg sz hc2 fL fN fD fH2 fM fW) : nI (pb_sz dr) + hc = sz + hc2 ∧ RC (B + 1) n 0 0 zl cc tc fc 0 0 0 fC fO fT fH ct th fo sg 0 0 fL fN fD fH2 fM fW := by
  obtain ⟨h1, h2, h3, h4, h5, h6, h7, h8, h9, h10, h11, h12, h13, h14, h15, h16, h17⟩ := h
  exact ⟨by rw [h12, ms_sz h11, h9, h7, h8], Nat.le_succ_of_le h1, Nat.zero_le _, h3, h4, h5, h6, rfl, rfl, rfl, h10, gs_nil fD, rfl, rfl, fun j h => absurd h (Nat.not_lt_zero j), h15, h16, h17⟩
/-- the draft becomes a clause -/
theorem R_add (h : RC B n d q zl cc tc fc hc dr dO fC fO fT fH ct th fo sg sz hc2 fL fN fD fH2 fM fW) (hn : n < 600) {fc1 fo1 hc1 hc3 sg1 : Int32} {fM1 : Nat → Int64} {q1 : Nat} (ef : fc1 = fo1) (e1 : hc1 = nI q1) (e2 : hc3 = nI q1) (hq1 : q1 ≤ q) (es : sg1 = 0) (hM : ∀ fC2 : Nat → Int32, (∀ c, c < n → fC2 c = fC c) → fC2 n = ms_of fD d → MI (n + 1) fC2 fM1 fW) :
    cc = ct + 1 - 1 ∧ RC (B + 1) (n + 1) 0 q1 (fun c => if c = n then d else zl c) (cc + 1) (tc + 1) fc1 hc1 0 0 (upd fC cc.toNatClampNeg dr) (vp_updL fO cc.toNatClampNeg dO) (upd fT cc.toNatClampNeg (vp_nar .boolean 1)) fH (ct + 1) (th + 1) fo1 sg1 0 hc3 (ad_it fD n d 0 fL) (upd fN n sz) fD fH2 fM1 fW := by
  obtain ⟨h1, h2, h3, h4, h5, h6, h7, h8, h9, h10, h11, h12, h13, h14, h15, h16, h17⟩ := h
  have c1 : cc.toNatClampNeg = n := by rw [h3]; exact nI_clamp (by omega)
  have hd := gs_16 h11
  rw [c1]
  have hrow : ∀ c j, c < n → j < 16 → ad_it fD n d 0 fL (16 * c + j) = fL (16 * c + j) := fun c j hc hj => by rw [ad_at, if_neg (by omega)]
  have hnew : ∀ j, j < d → ad_it fD n d 0 fL (16 * n + j) = fD j := fun j hj => by rw [ad_at, if_pos (by omega), show 16 * n + j - 16 * n = j by omega]
  refine ⟨by rw [h3, h4, nI_1, nI_pred], by omega, by omega, by rw [h3, nI_1], by rw [h4, nI_1], by rw [h5], ef, e1, e2, rfl, es, gs_nil fD, rfl, rfl, fun j hj => h14 j (by omega), fun c hc => ?_, fun c hc => ?_, hM _ (fun c hc => pk_un (by omega)) (by rw [pk_us, h12])⟩
  · by_cases e : c = n
    · subst e
      rw [pk_us, pk_us, pk_us, show (fun x => if x = c then d else zl x) c = d from if_pos rfl]
      exact ⟨gs_eq h11 (fun j hj => (hnew j hj).symm), by rw [h12]; exact ms_eq (fun j hj => (hnew j hj).symm), Or.inr ⟨by decide, h9⟩⟩
    · obtain ⟨g1, g2, g3⟩ := h15 c (by omega)
      have hz := gs_16 g1
      rw [pk_un e, pk_un e, pk_un e, show (fun x => if x = n then d else zl x) c = zl c from if_neg e]
      have hr : ∀ j, j < zl c → fL (16 * c + j) = ad_it fD n d 0 fL (16 * c + j) := fun j hj => (hrow c j (by omega) (by omega)).symm
      exact ⟨gs_eq g1 hr, by rw [g2]; exact ms_eq hr, g3⟩
  · by_cases e : c = n
    · subst e
      rw [pk_uLs, show (fun x => if x = c then d else zl x) c = d from if_pos rfl, h13]
      exact or_eq (fun j hj => (hnew j hj).symm)
    · have hz := gs_16 (h15 c (by omega)).1
      rw [pk_uLn e, show (fun x => if x = n then d else zl x) c = zl c from if_neg e, h16 c (by omega)]
      exact or_eq (fun j hj => (hrow c j (by omega) (by omega)).symm)
theorem R_drop (h : RC B n d q zl cc tc fc hc dr dO fC fO fT fH ct th fo sg sz hc2 fL fN fD fH2 fM fW) (hn : n < 600) {k : Int32} (hk : ¬ th_b cc fT k = 0) : nI (pb_sz (fC k.toNatClampNeg)) = fN k.toNatClampNeg ∧ RC (B + 1) n d q zl cc (tc - 1) fc hc dr dO fC fO (upd fT k.toNatClampNeg (vp_nar .boolean 0)) fH ct (th - 1) fo sg sz hc2 fL (upd fN k.toNatClampNeg (-1)) fD fH2 fM fW := by
  obtain ⟨h1, h2, h3, h4, h5, h6, h7, h8, h9, h10, h11, h12, h13, h14, h15, h16, h17⟩ := h
  obtain ⟨c, hc, ek, ck, ht⟩ := th_ix h3 (by omega) hk
  rw [ck]
  refine ⟨?_, Nat.le_succ_of_le h1, h2, h3, h4, by rw [h5], h6, h7, h8, h9, h10, h11, h12, h13, h14, fun c2 hc2 => ?_, h16, h17⟩
  · obtain ⟨g1, g2, g3⟩ := h15 c hc
    rcases g3 with ⟨g3, _⟩ | ⟨_, g4⟩
    · exact absurd g3 ht
    · rw [g2, ms_sz g1, g4]
  · obtain ⟨g1, g2, g3⟩ := h15 c2 hc2
    refine ⟨g1, g2, ?_⟩
    by_cases e : c2 = c
    · rw [e, pk_us, pk_us]; exact Or.inl ⟨by decide, rfl⟩
    · rw [pk_un e, pk_un e]; exact g3
/-- at(): both answer alike, and the place is in range -/
theorem R_at (h : RC B n d q zl cc tc fc hc dr dO fC fO fT fH ct th fo sg sz hc2 fL fN fD fH2 fM fW) (hn : n < 600) {k i : Int32} (hk : ¬ th_b cc fT k = 0) (hi : ¬ i < 0) : at_val (fC k.toNatClampNeg) (fO k.toNatClampNeg) i = (if i < fN k.toNatClampNeg then fL (16 * k + i).toNatClampNeg else 0) ∧ (i < fN k.toNatClampNeg → vp_in (16 * k + i) 9600) := by
  obtain ⟨h1, h2, h3, h4, h5, h6, h7, h8, h9, h10, h11, h12, h13, h14, h15, h16, h17⟩ := h
  obtain ⟨c, hc, ek, ck, ht⟩ := th_ix h3 (by omega) hk
  obtain ⟨g1, g2, g3⟩ := h15 c hc
  have hz := gs_16 g1
  have eN : fN c = nI (zl c) := by
    rcases g3 with ⟨g3, _⟩ | ⟨_, g4⟩
    · exact absurd g3 ht
    · exact g4
  obtain ⟨j, hj, ej⟩ := nI_of hi
  rw [ck, g2, h16 c hc, ej, at_ok g1 hj, eN]
  have e16 : 16 * k + nI j = nI (16 * c + j) := by rw [ek, show (16 : Int32) = nI 16 from rfl, pk_mul, nI_add]
  rw [e16]
  by_cases hjz : j < zl c
  · rw [if_pos hjz, if_pos (nI_lt hjz (by omega)), nI_clamp (by omega)]
    exact ⟨rfl, fun _ => vp_in_nI (by omega) (by decide)⟩
  · rw [if_neg hjz, if_neg (nI_nlt (by omega) hj)]
    exact ⟨rfl, fun h => absurd h (nI_nlt (by omega) hj)⟩
theorem R_count (h : RC B n d q zl cc tc fc hc dr dO fC fO fT fH ct th fo sg sz hc2 fL fN fD fH2 fM fW) (k : Int32) : cn_val cc tc fc hc dr k = if k = 0 then ct else if k = 1 then th else if k = 2 then fo else if k = 3 then sz else hc2 := by
  obtain ⟨h1, h2, h3, h4, h5, h6, h7, h8, h9, h10, h11, h12, h13, h14, h15, h16, h17⟩ := h
  rw [cn_val, h3, h4, h5, h6, h7, h8, h9, h12, ms_sz h11]
end RELS
end
