/-! the class's methods that don't throw -/
theorem in_c {c cc : Int32} {n N : Nat} (e : cc = nI n) (hn : n ≤ N) (hN : N < 2 ^ 31) (h0 : ¬ c < 0) (h1 : ¬ cc ≤ c) : vp_in c N := by
  rcases pk_ix c (n := n) (by omega) with h | h | ⟨j, hj, ej⟩
  · exact absurd h h0
  · exact absurd (by rw [e]; exact h) h1
  · rw [ej]; exact vp_in_nI (by omega) hN
/-- is clause c there -/
def th_b (cc : Int32) (fT : Nat → Int32) (c : Int32) : Int32 := if ¬ c < 0 ∧ ¬ cc ≤ c ∧ fT c.toNatClampNeg ≠ 0 then 1 else 0
/-- one round of telling: clauses i .. i + k - 1, f the false literals; none: a wrong one came -/
def tl_scan (fC fT : Nat → Int32) : Nat → Nat → Int32 → Option Int32
  | 0, _, f => some f
  | k + 1, i, f => if fT i = 0 then tl_scan fC fT k (i + 1) f else if mk_rest (fC i) f = 0 then none else tl_scan fC fT k (i + 1) (f ||| mk_neg (mk_told (fC i) f))
def tl_rounds (fC fT : Nat → Int32) (n : Nat) : Nat → Int32 → Option Int32
  | 0, f => some f
  | k + 1, f => match tl_scan fC fT n 0 f with
    | none => none
    | some g => if g = f then some g else tl_rounds fC fT n k g
def td_val (q : Option Int32) (dr : Int32) : Int32 := match q with
  | none => 17
  | some g => nI (pb_sz g) - nI (pb_sz dr)
/-- is a clause without literals there, among i .. i + k - 1 -/
def ov_scan (fC fT : Nat → Int32) : Nat → Nat → Int32
  | 0, _ => 0
  | k + 1, i => if fT i ≠ 0 ∧ fC i = 0 then 1 else ov_scan fC fT k (i + 1)
/-- the place of the first hint that isn't as it must be: hints i .. i + k - 1 -/
def bh_scan (cc : Int32) (fC fT fH : Nat → Int32) : Nat → Nat → Int32 → Int32
  | 0, i, _ => nI i
  | k + 1, i, f => if th_b cc fT (fH i) = 0 then nI i else if k = 0 ∧ mk_rest (fC (fH i).toNatClampNeg) f = 0 then -1 else if mk_told (fC (fH i).toNatClampNeg) f = 0 then nI i else bh_scan cc fC fT fH k (i + 1) (f ||| mk_neg (mk_told (fC (fH i).toNatClampNeg) f))
set_option maxHeartbeats 4000000 in
set_option maxRecDepth 100000 in
/-- isThere -/
theorem m_isThere (l : Launch) (dC : Nat → ClassId) (dI : Nat → Nat → Nat) (ax : Nat → Nat) (yx : Nat → ClassId) (cc tc fc hc dr : Int32) (dO : Int64) (fC : Nat → Int32) (fO : Nat → Int64) (fT fH : Nat → Int32) (k : Int32) (n : Nat) (hn : n ≤ 600) (ecc : cc = nI n) : Met l yX0_isThere wsX0_isThere (rmN 0 0 0) (va_Pc [.ref (ax 0), .int k] (rdX dC dI ax yx (cc, tc, fc, hc, dr, dO, fC, fO, fT, fH))) (vp_Si (fun r => r = th_b cc fT k)) 0 0 (fun _ => False) := by
  refine Met.ofW (cc := cX0_isThere) (maxL := 2) (ret := (some .boolean)) (by decide) rfl ?_
  intro p e s m args below meth c s₁ B hml hv
  obtain ⟨rfl, hP, hK⟩ := hv
  have hx := B.exec
  have hb := B.bytes
  have hrt := B.returns
  have hlocks := B.notSynchronized
  have hts := atoms_spec (ws := wsX0_isThere) B.pre
  have hw : ∀ w ∈ WB, w.before ([.ref (ax 0), .int k] : List Value).toArray s = true := fun w h => hts w (List.mem_cons_of_mem _ h)
  have hown : s.vm.findClass "ProofBench" = some m.cls := findClass_of_methodNamed B.named
  have hP : va_P (dC, dI) cls2 (XW ax yx (cc, tc, fc, hc, dr, dO, fC, fO, fT, fH)) s.heap := hP
  have hl := lv_entry ([.ref (ax 0), .int k]) (n := 2) (Nat.le_of_ble_eq_true rfl)
  rw [lg_entry_eq]
  generalize (lg_sl ([.ref (ax 0), .int k]) ++ List.replicate (2 - (lg_sl ([.ref (ax 0), .int k])).length) Slot.unset).toArray = ls at hl ⊢
  have hl : lv_has ls 2 [(0, .ref (ax 0)), (1, .int k)] := hl
  refine lv_iload_n hx hb dX0_isThere_0 rfl (lv_at hl 1 rfl) ?_
  refine lv_if_lt (tgt := 25) hx hb dX0_isThere_1 (by decide) (fun c1 => ?_) (fun c1 => ?_)
  · skip
    refine lv_iconst (v := 0) hx hb dX0_isThere_25 (by decide) ?_
    exact W.zret (v := 0) hx hb hrt (by decide) (fun t ht hW => ⟨_, rfl, by rw [th_b, if_neg (fun h => h.1 c1)], ht⟩) (fun q h => nomatch h) dX0_isThere_26
  · skip
    refine lv_iload_n hx hb dX0_isThere_4 rfl (lv_at hl 1 rfl) ?_
    refine lv_aload_n hx hb dX0_isThere_5 rfl (lv_at hl 0 rfl) ?_
    refine va_get (D := (dC, dI)) (ci := 0) (v := .int cc) (C := RX0) (T := TX0) (N := 10) hx hb hw inX0 hown hK hP 0 rfl rfl 4 (by decide) (hw _ wb_21) (fun _ h9 => h9) rfl dX0_isThere_6 ?_
    refine lv_icmp_ge (tgt := 25) hx hb dX0_isThere_9 (by decide) (fun c2 => ?_) (fun c2 => ?_)
    · skip
      refine lv_iconst (v := 0) hx hb dX0_isThere_25 (by decide) ?_
      exact W.zret (v := 0) hx hb hrt (by decide) (fun t ht hW => ⟨_, rfl, by rw [th_b, if_neg (fun h => h.2.1 c2)], ht⟩) (fun q h => nomatch h) dX0_isThere_26
    · skip
      refine lv_aload_n hx hb dX0_isThere_12 rfl (lv_at hl 0 rfl) ?_
      refine va_get (D := (dC, dI)) (ci := 0) (v := .ref (ax 3)) (C := RX0) (T := TX0) (N := 10) hx hb hw inX0 hown hK hP 0 rfl rfl 2 (by decide) (hw _ wb_19) (fun _ h9 => h9) rfl dX0_isThere_13 ?_
      refine lv_iload_n hx hb dX0_isThere_16 rfl (lv_at hl 1 rfl) ?_
      refine va_zald hx hb hK hP 3 2 rfl rfl (in_c ecc hn (by decide) c1 c2) dX0_isThere_17 ?_
      refine lv_if_eq (tgt := 25) hx hb dX0_isThere_18 (by decide) (fun c3 => ?_) (fun c3 => ?_)
      · skip
        refine lv_iconst (v := 0) hx hb dX0_isThere_25 (by decide) ?_
        exact W.zret (v := 0) hx hb hrt (by decide) (fun t ht hW => ⟨_, rfl, by rw [th_b, if_neg (fun h => h.2.2 c3)], ht⟩) (fun q h => nomatch h) dX0_isThere_26
      · skip
        refine lv_iconst (v := 1) hx hb dX0_isThere_21 (by decide) ?_
        refine lv_goto (tgt := 26) hx hb dX0_isThere_22 (by decide) ?_
        exact W.zret (v := 1) hx hb hrt (by decide) (fun t ht hW => ⟨_, rfl, by rw [th_b, if_pos ⟨c1, c2, c3⟩], ht⟩) (fun q h => nomatch h) dX0_isThere_26
set_option maxHeartbeats 4000000 in
set_option maxRecDepth 100000 in
/-- wrong -/
theorem m_wrong (l : Launch) (dC : Nat → ClassId) (dI : Nat → Nat → Nat) (ax : Nat → Nat) (yx : Nat → ClassId) (cc tc fc hc dr : Int32) (dO : Int64) (fC : Nat → Int32) (fO : Nat → Int64) (fT fH : Nat → Int32)  : Met l yX0_wrong wsX0_wrong (rmN 0 0 0) (va_Pc [.ref (ax 0)] (rdX dC dI ax yx (cc, tc, fc, hc, dr, dO, fC, fO, fT, fH))) (vp_Si (fun r => r = 0)) 0 0 (fun _ => False) := by
  refine Met.ofW (cc := cX0_wrong) (maxL := 1) (ret := (some .int)) (by decide) rfl ?_
  intro p e s m args below meth c s₁ B hml hv
  obtain ⟨rfl, hP, hK⟩ := hv
  have hx := B.exec
  have hb := B.bytes
  have hrt := B.returns
  have hlocks := B.notSynchronized
  have hts := atoms_spec (ws := wsX0_wrong) B.pre
  have hw : ∀ w ∈ WB, w.before ([.ref (ax 0)] : List Value).toArray s = true := fun w h => hts w (List.mem_cons_of_mem _ h)
  have hown : s.vm.findClass "ProofBench" = some m.cls := findClass_of_methodNamed B.named
  have hP : va_P (dC, dI) cls2 (XW ax yx (cc, tc, fc, hc, dr, dO, fC, fO, fT, fH)) s.heap := hP
  have hl := lv_entry ([.ref (ax 0)]) (n := 1) (Nat.le_of_ble_eq_true rfl)
  rw [lg_entry_eq]
  generalize (lg_sl ([.ref (ax 0)]) ++ List.replicate (1 - (lg_sl ([.ref (ax 0)])).length) Slot.unset).toArray = ls at hl ⊢
  have hl : lv_has ls 1 [(0, .ref (ax 0))] := hl
  refine lv_iconst (v := 0) hx hb dX0_wrong_0 (by decide) ?_
  exact W.iret (v := 0) hx hb hrt (fun t ht hW => ⟨_, rfl, rfl, ht⟩) (fun q h => nomatch h) dX0_wrong_1
set_option maxHeartbeats 4000000 in
set_option maxRecDepth 100000 in
/-- emptyDraft -/
theorem m_emptyDraft (l : Launch) (dC : Nat → ClassId) (dI : Nat → Nat → Nat) (ax : Nat → Nat) (yx : Nat → ClassId) (sz0 : Nat) (cc tc fc hc dr : Int32) (dO : Int64) (fC : Nat → Int32) (fO : Nat → Int64) (fT fH : Nat → Int32)  : Met l yX0_emptyDraft wsX0_emptyDraft (rmN 0 0 0) (va_Pc [.ref (ax 0)] (preX dC dI ax yx sz0 (cc, tc, fc, hc, dr, dO, fC, fO, fT, fH))) (va_Qv (fun (u : XS) => u = (cc, tc, fc, hc, 0, 0, fC, fO, fT, fH)) (atX dC dI (va_A (XW ax yx (cc, tc, fc, hc, dr, dO, fC, fO, fT, fH)) sz0) ax yx) (va_A (XW ax yx (cc, tc, fc, hc, dr, dO, fC, fO, fT, fH)) sz0)) 0 0 (va_A (XW ax yx (cc, tc, fc, hc, dr, dO, fC, fO, fT, fH)) sz0) := by
  refine Met.ofW (cc := cX0_emptyDraft) (maxL := 1) (ret := none) (by decide) rfl ?_
  intro p e s m args below meth c s₁ B hml hv
  obtain ⟨rfl, hsz, hP, hK, hD0⟩ := hv
  have hx := B.exec
  have hb := B.bytes
  have hrt := B.returns
  have hlocks := B.notSynchronized
  have hts := atoms_spec (ws := wsX0_emptyDraft) B.pre
  have hw : ∀ w ∈ WB, w.before ([.ref (ax 0)] : List Value).toArray s = true := fun w h => hts w (List.mem_cons_of_mem _ h)
  have hown : s.vm.findClass "ProofBench" = some m.cls := findClass_of_methodNamed B.named
  subst hsz
  have hD := hD0.self (sz := s.heap.size)
  generalize hAe : va_A (XW ax yx (cc, tc, fc, hc, dr, dO, fC, fO, fT, fH)) s.heap.size = A at hD ⊢
  have hA : ∀ q : Nat, s.heap.size ≤ q → A q := fun q h => by rw [← hAe]; exact Or.inr h
  have hS : va_S A s.heap s.heap [] := va_S.rf
  have hP : va_P (dC, dI) cls2 (XW ax yx (cc, tc, fc, hc, dr, dO, fC, fO, fT, fH)) s.heap := hP
  have hl := lv_entry ([.ref (ax 0)]) (n := 1) (Nat.le_of_ble_eq_true rfl)
  rw [lg_entry_eq]
  generalize (lg_sl ([.ref (ax 0)]) ++ List.replicate (1 - (lg_sl ([.ref (ax 0)])).length) Slot.unset).toArray = ls at hl ⊢
  have hl : lv_has ls 1 [(0, .ref (ax 0))] := hl
  refine lv_aload_n hx hb dX0_emptyDraft_0 rfl (lv_at hl 0 rfl) ?_
  refine lv_iconst (v := 0) hx hb dX0_emptyDraft_1 (by decide) ?_
  refine va_put (D := (dC, dI)) (ci := 0) (v := .int 0) (ty := .int) (C := RX0) (T := TX0) (N := 10) hx hb hw inX0 tyX0 tyX0_ok nmX0 hown hK hP hD hS 0 rfl rfl 8 (by decide) (hw _ wb_25) (fun _ h9 => h9) rfl (by decide +kernel) rfl rfl (Nat.le_of_ble_eq_true rfl) dX0_emptyDraft_2 (fun H locs hP hD hS => ?_)
  have hP : va_P (dC, dI) cls2 (XW ax yx (cc, tc, fc, hc, 0, dO, fC, fO, fT, fH)) H := hP
  have hD : va_D A (XW ax yx (cc, tc, fc, hc, 0, dO, fC, fO, fT, fH)) := hD
  refine lv_aload_n hx hb dX0_emptyDraft_5 rfl (lv_at hl 0 rfl) ?_
  refine lv_lconst (v := 0) hx hb dX0_emptyDraft_6 (by decide) ?_
  refine va_put (D := (dC, dI)) (ci := 0) (v := .long 0) (ty := .long) (C := RX0) (T := TX0) (N := 10) hx hb hw inX0 tyX0 tyX0_ok nmX0 hown hK hP hD hS 0 rfl rfl 9 (by decide) (hw _ wb_26) (fun _ h9 => h9) rfl (by decide +kernel) rfl rfl (Nat.le_of_ble_eq_true rfl) dX0_emptyDraft_7 (fun H locs hP hD hS => ?_)
  have hP : va_P (dC, dI) cls2 (XW ax yx (cc, tc, fc, hc, 0, 0, fC, fO, fT, fH)) H := hP
  have hD : va_D A (XW ax yx (cc, tc, fc, hc, 0, 0, fC, fO, fT, fH)) := hD
  exact W.vret hx hb hrt (fun t ht hW => ⟨⟨_, rfl, rfl, by rw [ht]; exact hP, va_K.moved hW.alike hK, hD⟩, hS.F ht⟩) hS.2.2 dX0_emptyDraft_10
set_option maxHeartbeats 4000000 in
set_option maxRecDepth 100000 in
/-- keepDraft -/
theorem m_keepDraft (l : Launch) (dC : Nat → ClassId) (dI : Nat → Nat → Nat) (ax : Nat → Nat) (yx : Nat → ClassId) (sz0 : Nat) (cc tc fc hc dr : Int32) (dO : Int64) (fC : Nat → Int32) (fO : Nat → Int64) (fT fH : Nat → Int32)  (n : Nat) (hn : n < 600) (ecc : cc = nI n) : Met l yX0_keepDraft wsX0_keepDraft (rmN 1 0 0) (va_Pc [.ref (ax 0)] (preX dC dI ax yx sz0 (cc, tc, fc, hc, dr, dO, fC, fO, fT, fH))) (va_Qi (fun (r : Int32) (u : XS) => r = cc ∧ u = (cc + 1, tc + 1, fc, hc, 0, 0, upd fC cc.toNatClampNeg dr, vp_updL fO cc.toNatClampNeg dO, upd fT cc.toNatClampNeg (vp_nar .boolean 1), fH)) (atX dC dI (va_A (XW ax yx (cc, tc, fc, hc, dr, dO, fC, fO, fT, fH)) sz0) ax yx) (va_A (XW ax yx (cc, tc, fc, hc, dr, dO, fC, fO, fT, fH)) sz0)) 0 0 (va_A (XW ax yx (cc, tc, fc, hc, dr, dO, fC, fO, fT, fH)) sz0) := by
  refine Met.ofW (cc := cX0_keepDraft) (maxL := 2) (ret := (some .int)) (by decide) rfl ?_
  intro p e s m args below meth c s₁ B hml hv
  obtain ⟨rfl, hsz, hP, hK, hD0⟩ := hv
  have hx := B.exec
  have hb := B.bytes
  have hrt := B.returns
  have hlocks := B.notSynchronized
  have hts := atoms_spec (ws := wsX0_keepDraft) B.pre
  have hw : ∀ w ∈ WB, w.before ([.ref (ax 0)] : List Value).toArray s = true := fun w h => hts w (List.mem_cons_of_mem _ h)
  have hown : s.vm.findClass "ProofBench" = some m.cls := findClass_of_methodNamed B.named
  subst hsz
  have hD := hD0.self (sz := s.heap.size)
  generalize hAe : va_A (XW ax yx (cc, tc, fc, hc, dr, dO, fC, fO, fT, fH)) s.heap.size = A at hD ⊢
  have hA : ∀ q : Nat, s.heap.size ≤ q → A q := fun q h => by rw [← hAe]; exact Or.inr h
  have hS : va_S A s.heap s.heap [] := va_S.rf
  have hP : va_P (dC, dI) cls2 (XW ax yx (cc, tc, fc, hc, dr, dO, fC, fO, fT, fH)) s.heap := hP
  have hl := lv_entry ([.ref (ax 0)]) (n := 2) (Nat.le_of_ble_eq_true rfl)
  rw [lg_entry_eq]
  generalize (lg_sl ([.ref (ax 0)]) ++ List.replicate (2 - (lg_sl ([.ref (ax 0)])).length) Slot.unset).toArray = ls at hl ⊢
  have hl : lv_has ls 2 [(0, .ref (ax 0))] := hl
  have hin : vp_in cc 600 := by rw [ecc]; exact vp_in_nI hn (by decide)
  refine lv_aload_n hx hb dX0_keepDraft_0 rfl (lv_at hl 0 rfl) ?_
  refine va_get (D := (dC, dI)) (ci := 0) (v := .int cc) (C := RX0) (T := TX0) (N := 10) hx hb hw inX0 hown hK hP 0 rfl rfl 4 (by decide) (hw _ wb_21) (fun _ h9 => h9) rfl dX0_keepDraft_1 ?_
  refine lv_istore_n (lv' := [(1, .int cc), (0, .ref (ax 0))]) hx hb dX0_keepDraft_4 rfl hl (by decide) rfl (fun ls hl => ?_)
  refine lv_aload_n hx hb dX0_keepDraft_5 rfl (lv_at hl 1 rfl) ?_
  refine va_get (D := (dC, dI)) (ci := 0) (v := .ref (ax 1)) (C := RX0) (T := TX0) (N := 10) hx hb hw inX0 hown hK hP 0 rfl rfl 0 (by decide) (hw _ wb_17) (fun _ h9 => h9) rfl dX0_keepDraft_6 ?_
  refine lv_iload_n hx hb dX0_keepDraft_9 rfl (lv_at hl 0 rfl) ?_
  refine lv_aload_n hx hb dX0_keepDraft_10 rfl (lv_at hl 1 rfl) ?_
  refine va_get (D := (dC, dI)) (ci := 0) (v := .int dr) (C := RX0) (T := TX0) (N := 10) hx hb hw inX0 hown hK hP 0 rfl rfl 8 (by decide) (hw _ wb_25) (fun _ h9 => h9) rfl dX0_keepDraft_11 ?_
  refine va_iast hx hb hK hP hD hS 1 0 rfl rfl hin dX0_keepDraft_14 (fun H locs hP hD hS => ?_)
  have hP : va_P (dC, dI) cls2 (XW ax yx (cc, tc, fc, hc, dr, dO, upd fC cc.toNatClampNeg dr, fO, fT, fH)) H := hP
  have hD : va_D A (XW ax yx (cc, tc, fc, hc, dr, dO, upd fC cc.toNatClampNeg dr, fO, fT, fH)) := hD
  refine lv_aload_n hx hb dX0_keepDraft_15 rfl (lv_at hl 1 rfl) ?_
  refine va_get (D := (dC, dI)) (ci := 0) (v := .ref (ax 2)) (C := RX0) (T := TX0) (N := 10) hx hb hw inX0 hown hK hP 0 rfl rfl 1 (by decide) (hw _ wb_18) (fun _ h9 => h9) rfl dX0_keepDraft_16 ?_
  refine lv_iload_n hx hb dX0_keepDraft_19 rfl (lv_at hl 0 rfl) ?_
  refine lv_aload_n hx hb dX0_keepDraft_20 rfl (lv_at hl 1 rfl) ?_
  refine va_get (D := (dC, dI)) (ci := 0) (v := .long dO) (C := RX0) (T := TX0) (N := 10) hx hb hw inX0 hown hK hP 0 rfl rfl 9 (by decide) (hw _ wb_26) (fun _ h9 => h9) rfl dX0_keepDraft_21 ?_
  refine va_last hx hb hK hP hD hS 2 1 rfl rfl hin dX0_keepDraft_24 (fun H locs hP hD hS => ?_)
  have hP : va_P (dC, dI) cls2 (XW ax yx (cc, tc, fc, hc, dr, dO, upd fC cc.toNatClampNeg dr, vp_updL fO cc.toNatClampNeg dO, fT, fH)) H := hP
  have hD : va_D A (XW ax yx (cc, tc, fc, hc, dr, dO, upd fC cc.toNatClampNeg dr, vp_updL fO cc.toNatClampNeg dO, fT, fH)) := hD
  refine lv_aload_n hx hb dX0_keepDraft_25 rfl (lv_at hl 1 rfl) ?_
  refine va_get (D := (dC, dI)) (ci := 0) (v := .ref (ax 3)) (C := RX0) (T := TX0) (N := 10) hx hb hw inX0 hown hK hP 0 rfl rfl 2 (by decide) (hw _ wb_19) (fun _ h9 => h9) rfl dX0_keepDraft_26 ?_
  refine lv_iload_n hx hb dX0_keepDraft_29 rfl (lv_at hl 0 rfl) ?_
  refine lv_iconst (v := 1) hx hb dX0_keepDraft_30 (by decide) ?_
  refine va_zast hx hb hK hP hD hS 3 2 rfl rfl hin dX0_keepDraft_31 (fun H locs hP hD hS => ?_)
  have hP : va_P (dC, dI) cls2 (XW ax yx (cc, tc, fc, hc, dr, dO, upd fC cc.toNatClampNeg dr, vp_updL fO cc.toNatClampNeg dO, upd fT cc.toNatClampNeg (vp_nar .boolean 1), fH)) H := hP
  have hD : va_D A (XW ax yx (cc, tc, fc, hc, dr, dO, upd fC cc.toNatClampNeg dr, vp_updL fO cc.toNatClampNeg dO, upd fT cc.toNatClampNeg (vp_nar .boolean 1), fH)) := hD
  refine lv_aload_n hx hb dX0_keepDraft_32 rfl (lv_at hl 1 rfl) ?_
  refine lv_dup hx hb dX0_keepDraft_33 rfl ?_
  refine va_get (D := (dC, dI)) (ci := 0) (v := .int cc) (C := RX0) (T := TX0) (N := 10) hx hb hw inX0 hown hK hP 0 rfl rfl 4 (by decide) (hw _ wb_21) (fun _ h9 => h9) rfl dX0_keepDraft_34 ?_
  refine lv_iconst (v := 1) hx hb dX0_keepDraft_37 (by decide) ?_
  refine lv_iadd hx hb dX0_keepDraft_38 ?_
  refine va_put (D := (dC, dI)) (ci := 0) (v := .int (cc + 1)) (ty := .int) (C := RX0) (T := TX0) (N := 10) hx hb hw inX0 tyX0 tyX0_ok nmX0 hown hK hP hD hS 0 rfl rfl 4 (by decide) (hw _ wb_21) (fun _ h9 => h9) rfl (by decide +kernel) rfl rfl (Nat.le_of_ble_eq_true rfl) dX0_keepDraft_39 (fun H locs hP hD hS => ?_)
  have hP : va_P (dC, dI) cls2 (XW ax yx (cc + 1, tc, fc, hc, dr, dO, upd fC cc.toNatClampNeg dr, vp_updL fO cc.toNatClampNeg dO, upd fT cc.toNatClampNeg (vp_nar .boolean 1), fH)) H := hP
  have hD : va_D A (XW ax yx (cc + 1, tc, fc, hc, dr, dO, upd fC cc.toNatClampNeg dr, vp_updL fO cc.toNatClampNeg dO, upd fT cc.toNatClampNeg (vp_nar .boolean 1), fH)) := hD
  refine lv_aload_n hx hb dX0_keepDraft_42 rfl (lv_at hl 1 rfl) ?_
  refine lv_dup hx hb dX0_keepDraft_43 rfl ?_
  refine va_get (D := (dC, dI)) (ci := 0) (v := .int tc) (C := RX0) (T := TX0) (N := 10) hx hb hw inX0 hown hK hP 0 rfl rfl 5 (by decide) (hw _ wb_22) (fun _ h9 => h9) rfl dX0_keepDraft_44 ?_
  refine lv_iconst (v := 1) hx hb dX0_keepDraft_47 (by decide) ?_
  refine lv_iadd hx hb dX0_keepDraft_48 ?_
  refine va_put (D := (dC, dI)) (ci := 0) (v := .int (tc + 1)) (ty := .int) (C := RX0) (T := TX0) (N := 10) hx hb hw inX0 tyX0 tyX0_ok nmX0 hown hK hP hD hS 0 rfl rfl 5 (by decide) (hw _ wb_22) (fun _ h9 => h9) rfl (by decide +kernel) rfl rfl (Nat.le_of_ble_eq_true rfl) dX0_keepDraft_49 (fun H locs hP hD hS => ?_)
  have hP : va_P (dC, dI) cls2 (XW ax yx (cc + 1, tc + 1, fc, hc, dr, dO, upd fC cc.toNatClampNeg dr, vp_updL fO cc.toNatClampNeg dO, upd fT cc.toNatClampNeg (vp_nar .boolean 1), fH)) H := hP
  have hD : va_D A (XW ax yx (cc + 1, tc + 1, fc, hc, dr, dO, upd fC cc.toNatClampNeg dr, vp_updL fO cc.toNatClampNeg dO, upd fT cc.toNatClampNeg (vp_nar .boolean 1), fH)) := hD
  refine lv_aload_n hx hb dX0_keepDraft_52 rfl (lv_at hl 1 rfl) ?_
  have hFc := va_free (wc := XW ax yx (cc + 1, tc + 1, fc, hc, dr, dO, upd fC cc.toNatClampNeg dr, vp_updL fO cc.toNatClampNeg dO, upd fT cc.toNatClampNeg (vp_nar .boolean 1), fH)) hD hS hA [0, 1, 2, 3, 4] rfl
  refine va_callv (va_runV (As := []) (rest := []) ⟨hx, hb, hml, hown, hw⟩ (m_emptyDraft l dC dI ax yx H.size (cc + 1) (tc + 1) fc hc dr dO (upd fC cc.toNatClampNeg dr) (vp_updL fO cc.toNatClampNeg dO) (upd fT cc.toNatClampNeg (vp_nar .boolean 1)) fH) (cwV 0 hw (gw_V wb_64 wb_66 wbs_0 wb_1 wb_67) rfl rfl rfl (by decide +kernel) ⟨Nat.le_of_ble_eq_true rfl, Nat.le_of_ble_eq_true rfl⟩) ⟨blind_preX, va_recv hK hP (ci := 0) (q0 := 0) rfl rfl, fun U hU hW => ⟨rfl, by rw [hU], by rw [hU]; exact hP, va_K.moved hW.alike hK, hD.weaken (fun _ _ _ _ => trivial)⟩⟩ rfl rfl hl.1 rfl (lv_room (Nat.le_of_ble_eq_true rfl)) dX0_keepDraft_53 ⟨Nat.le_refl _, Nat.le_refl _⟩) hS (fun q _ h => hFc q h) hFc (fun u t H1 locs ht hvm hq hB hz1 hk1 hS => ?_)
  obtain rfl := hq
  obtain ⟨hP1, hK1, hD1⟩ := hB
  rw [ht] at hP1
  have hP : va_P (dC, dI) cls2 (XW ax yx (cc + 1, tc + 1, fc, hc, 0, 0, upd fC cc.toNatClampNeg dr, vp_updL fO cc.toNatClampNeg dO, upd fT cc.toNatClampNeg (vp_nar .boolean 1), fH)) H1 := hP1
  have hD : va_D A (XW ax yx (cc + 1, tc + 1, fc, hc, 0, 0, upd fC cc.toNatClampNeg dr, vp_updL fO cc.toNatClampNeg dO, upd fT cc.toNatClampNeg (vp_nar .boolean 1), fH)) := hD1.weaken (fun k q h _ => hFc q.1 (hD1.2 k q h))
  generalize H1 = H at hP hS ⊢
  refine lv_iload_n hx hb dX0_keepDraft_56 rfl (lv_at hl 0 rfl) ?_
  exact W.iret (v := cc) hx hb hrt (fun t ht hW => ⟨⟨_, _, rfl, ⟨rfl, rfl⟩, by rw [ht]; exact hP, va_K.moved hW.alike hK, hD⟩, hS.F ht⟩) hS.2.2 dX0_keepDraft_57
set_option maxHeartbeats 4000000 in
set_option maxRecDepth 100000 in
/-- clear -/
theorem m_clear (l : Launch) (dC : Nat → ClassId) (dI : Nat → Nat → Nat) (ax : Nat → Nat) (yx : Nat → ClassId) (sz0 : Nat) (cc tc fc hc dr : Int32) (dO : Int64) (fC : Nat → Int32) (fO : Nat → Int64) (fT fH : Nat → Int32)  : Met l yX0_clear wsX0_clear (rmN 2 0 0) (va_Pc [.ref (ax 0)] (preX dC dI ax yx sz0 (cc, tc, fc, hc, dr, dO, fC, fO, fT, fH))) (va_Qi (fun (r : Int32) (u : XS) => r = nI (pb_sz dr) + hc ∧ u = (cc, tc, fc, 0, 0, 0, fC, fO, fT, fH)) (atX dC dI (va_A (XW ax yx (cc, tc, fc, hc, dr, dO, fC, fO, fT, fH)) sz0) ax yx) (va_A (XW ax yx (cc, tc, fc, hc, dr, dO, fC, fO, fT, fH)) sz0)) 0 0 (va_A (XW ax yx (cc, tc, fc, hc, dr, dO, fC, fO, fT, fH)) sz0) := by
  refine Met.ofW (cc := cX0_clear) (maxL := 2) (ret := (some .int)) (by decide) rfl ?_
  intro p e s m args below meth c s₁ B hml hv
  obtain ⟨rfl, hsz, hP, hK, hD0⟩ := hv
  have hx := B.exec
  have hb := B.bytes
  have hrt := B.returns
  have hlocks := B.notSynchronized
  have hts := atoms_spec (ws := wsX0_clear) B.pre
  have hw : ∀ w ∈ WB, w.before ([.ref (ax 0)] : List Value).toArray s = true := fun w h => hts w (List.mem_cons_of_mem _ h)
  have hown : s.vm.findClass "ProofBench" = some m.cls := findClass_of_methodNamed B.named
  subst hsz
  have hD := hD0.self (sz := s.heap.size)
  generalize hAe : va_A (XW ax yx (cc, tc, fc, hc, dr, dO, fC, fO, fT, fH)) s.heap.size = A at hD ⊢
  have hA : ∀ q : Nat, s.heap.size ≤ q → A q := fun q h => by rw [← hAe]; exact Or.inr h
  have hS : va_S A s.heap s.heap [] := va_S.rf
  have hP : va_P (dC, dI) cls2 (XW ax yx (cc, tc, fc, hc, dr, dO, fC, fO, fT, fH)) s.heap := hP
  have hl := lv_entry ([.ref (ax 0)]) (n := 2) (Nat.le_of_ble_eq_true rfl)
  rw [lg_entry_eq]
  generalize (lg_sl ([.ref (ax 0)]) ++ List.replicate (2 - (lg_sl ([.ref (ax 0)])).length) Slot.unset).toArray = ls at hl ⊢
  have hl : lv_has ls 2 [(0, .ref (ax 0))] := hl
  refine lv_aload_n hx hb dX0_clear_0 rfl (lv_at hl 0 rfl) ?_
  refine va_get (D := (dC, dI)) (ci := 0) (v := .int dr) (C := RX0) (T := TX0) (N := 10) hx hb hw inX0 hown hK hP 0 rfl rfl 8 (by decide) (hw _ wb_25) (fun _ h9 => h9) rfl dX0_clear_1 ?_
  refine vp_callSi (W.runS (As := [.int dr]) (rest := []) ⟨hx, hb, hml, hown, hw⟩ (m_sizeOf l dr) (va_cwS 1 hw (gw_S wb_55 wb_56 wb_1 wb_57) rfl rfl rfl (by decide +kernel) ⟨Nat.le_of_ble_eq_true rfl, Nat.le_of_ble_eq_true rfl⟩) preEq rfl rfl hl.1 rfl (lv_room (Nat.le_of_ble_eq_true rfl)) dX0_clear_4 ⟨Nat.le_refl _, Nat.le_refl _⟩) (fun r1 h1 => ?_)
  refine lv_aload_n hx hb dX0_clear_7 rfl (lv_at hl 0 rfl) ?_
  refine va_get (D := (dC, dI)) (ci := 0) (v := .int hc) (C := RX0) (T := TX0) (N := 10) hx hb hw inX0 hown hK hP 0 rfl rfl 7 (by decide) (hw _ wb_24) (fun _ h9 => h9) rfl dX0_clear_8 ?_
  refine lv_iadd hx hb dX0_clear_11 ?_
  refine lv_istore_n (lv' := [(1, .int (r1 + hc)), (0, .ref (ax 0))]) hx hb dX0_clear_12 rfl hl (by decide) rfl (fun ls hl => ?_)
  refine lv_aload_n hx hb dX0_clear_13 rfl (lv_at hl 1 rfl) ?_
  have hS0 := hS
  have hFc := va_free (wc := XW ax yx (cc, tc, fc, hc, dr, dO, fC, fO, fT, fH)) hD hS hA [0, 1, 2, 3, 4] rfl
  refine va_callv (va_runV (As := []) (rest := []) ⟨hx, hb, hml, hown, hw⟩ (m_emptyDraft l dC dI ax yx s.heap.size cc tc fc hc dr dO fC fO fT fH) (cwV 0 hw (gw_V wb_64 wb_66 wbs_0 wb_1 wb_67) rfl rfl rfl (by decide +kernel) ⟨Nat.le_of_ble_eq_true rfl, Nat.le_of_ble_eq_true rfl⟩) ⟨blind_preX, va_recv hK hP (ci := 0) (q0 := 0) rfl rfl, fun U hU hW => ⟨rfl, by rw [hU], by rw [hU]; exact hP, va_K.moved hW.alike hK, hD.weaken (fun _ _ _ _ => trivial)⟩⟩ rfl rfl hl.1 rfl (lv_room (Nat.le_of_ble_eq_true rfl)) dX0_clear_14 ⟨Nat.le_refl _, Nat.le_refl _⟩) hS (fun q _ h => hFc q h) hFc (fun u t H1 locs ht hvm hq hB hz1 hk1 hS => ?_)
  obtain rfl := hq
  obtain ⟨hP1, hK1, hD1⟩ := hB
  rw [ht] at hP1
  have hP : va_P (dC, dI) cls2 (XW ax yx (cc, tc, fc, hc, 0, 0, fC, fO, fT, fH)) H1 := hP1
  have hD : va_D A (XW ax yx (cc, tc, fc, hc, 0, 0, fC, fO, fT, fH)) := hD1.weaken (fun k q h _ => hFc q.1 (hD1.2 k q h))
  generalize H1 = H at hP hS ⊢
  refine lv_aload_n hx hb dX0_clear_17 rfl (lv_at hl 1 rfl) ?_
  refine lv_iconst (v := 0) hx hb dX0_clear_18 (by decide) ?_
  refine va_put (D := (dC, dI)) (ci := 0) (v := .int 0) (ty := .int) (C := RX0) (T := TX0) (N := 10) hx hb hw inX0 tyX0 tyX0_ok nmX0 hown hK hP hD hS 0 rfl rfl 7 (by decide) (hw _ wb_24) (fun _ h9 => h9) rfl (by decide +kernel) rfl rfl (Nat.le_of_ble_eq_true rfl) dX0_clear_19 (fun H locs hP hD hS => ?_)
  have hP : va_P (dC, dI) cls2 (XW ax yx (cc, tc, fc, 0, 0, 0, fC, fO, fT, fH)) H := hP
  have hD : va_D A (XW ax yx (cc, tc, fc, 0, 0, 0, fC, fO, fT, fH)) := hD
  refine lv_iload_n hx hb dX0_clear_22 rfl (lv_at hl 0 rfl) ?_
  exact W.iret (v := r1 + hc) hx hb hrt (fun t ht hW => ⟨⟨_, _, rfl, ⟨by rw [h1], rfl⟩, by rw [ht]; exact hP, va_K.moved hW.alike hK, hD⟩, hS.F ht⟩) hS.2.2 dX0_clear_23
set_option maxHeartbeats 4000000 in
set_option maxRecDepth 100000 in
/-- isOver -/
theorem m_isOver (l : Launch) (dC : Nat → ClassId) (dI : Nat → Nat → Nat) (ax : Nat → Nat) (yx : Nat → ClassId) (cc tc fc hc dr : Int32) (dO : Int64) (fC : Nat → Int32) (fO : Nat → Int64) (fT fH : Nat → Int32)  (n : Nat) (hn : n ≤ 600) (ecc : cc = nI n) : Met l yX0_isOver wsX0_isOver (rmN 0 0 0) (va_Pc [.ref (ax 0)] (rdX dC dI ax yx (cc, tc, fc, hc, dr, dO, fC, fO, fT, fH))) (vp_Si (fun r => r = ov_scan fC fT n 0)) 0 0 (fun _ => False) := by
  refine Met.ofW (cc := cX0_isOver) (maxL := 2) (ret := (some .boolean)) (by decide) rfl ?_
  intro p e s m args below meth c s₁ B hml hv
  obtain ⟨rfl, hP, hK⟩ := hv
  have hx := B.exec
  have hb := B.bytes
  have hrt := B.returns
  have hlocks := B.notSynchronized
  have hts := atoms_spec (ws := wsX0_isOver) B.pre
  have hw : ∀ w ∈ WB, w.before ([.ref (ax 0)] : List Value).toArray s = true := fun w h => hts w (List.mem_cons_of_mem _ h)
  have hown : s.vm.findClass "ProofBench" = some m.cls := findClass_of_methodNamed B.named
  have hP : va_P (dC, dI) cls2 (XW ax yx (cc, tc, fc, hc, dr, dO, fC, fO, fT, fH)) s.heap := hP
  have hl := lv_entry ([.ref (ax 0)]) (n := 2) (Nat.le_of_ble_eq_true rfl)
  rw [lg_entry_eq]
  generalize (lg_sl ([.ref (ax 0)]) ++ List.replicate (2 - (lg_sl ([.ref (ax 0)])).length) Slot.unset).toArray = ls at hl ⊢
  have hl : lv_has ls 2 [(0, .ref (ax 0))] := hl
  refine lv_iconst (v := 0) hx hb dX0_isOver_0 (by decide) ?_
  refine lv_istore_n (lv' := [(1, .int 0), (0, .ref (ax 0))]) hx hb dX0_isOver_1 rfl hl (by decide) rfl (fun ls hl => ?_)
  have loop : ∀ (k i : Nat), i + k = n → ov_scan fC fT n 0 = ov_scan fC fT k i → ∀ ls, lv_has ls 2 [(1, .int (nI i)), (0, .ref (ax 0))] → W p l e (headSpec wsX0_isOver (rmN 0 0 0)).room s m ([.ref (ax 0)] : List Value).toArray below meth c s.heap [] 0 0 (MQ below (vp_Si (fun r => r = ov_scan fC fT n 0)) ([.ref (ax 0)] : List Value).toArray s 0 0 (fun _ => False)) (F0 m 2 ls []) := by
    intro k
    induction k with
    | zero =>
      intro i hk hq ls hl
      have e0 : i = n := by omega
      refine lv_iload_n hx hb dX0_isOver_2 rfl (lv_at hl 0 rfl) ?_
      refine lv_aload_n hx hb dX0_isOver_3 rfl (lv_at hl 1 rfl) ?_
      refine va_get (D := (dC, dI)) (ci := 0) (v := .int cc) (C := RX0) (T := TX0) (N := 10) hx hb hw inX0 hown hK hP 0 rfl rfl 4 (by decide) (hw _ wb_21) (fun _ h9 => h9) rfl dX0_isOver_4 ?_
      refine lv_icmp_ge (tgt := 36) hx hb dX0_isOver_7 (by decide) (fun c1 => ?_) (fun c1 => ?_)
      · skip
        refine lv_iconst (v := 0) hx hb dX0_isOver_36 (by decide) ?_
        exact W.zret (v := 0) hx hb hrt (by decide) (fun t ht hW => ⟨_, rfl, by rw [hq]; rfl, ht⟩) (fun q h => nomatch h) dX0_isOver_37
      · skip
        exact absurd (by rw [ecc, e0]; exact Int32.le_refl _) c1
    | succ k ih =>
      intro i hk hq ls hl
      have ci : (nI i).toNatClampNeg = i := nI_clamp (by omega)
      have hin : vp_in (nI i) 600 := vp_in_nI (by omega) (by decide)
      refine lv_iload_n hx hb dX0_isOver_2 rfl (lv_at hl 0 rfl) ?_
      refine lv_aload_n hx hb dX0_isOver_3 rfl (lv_at hl 1 rfl) ?_
      refine va_get (D := (dC, dI)) (ci := 0) (v := .int cc) (C := RX0) (T := TX0) (N := 10) hx hb hw inX0 hown hK hP 0 rfl rfl 4 (by decide) (hw _ wb_21) (fun _ h9 => h9) rfl dX0_isOver_4 ?_
      refine lv_icmp_ge (tgt := 36) hx hb dX0_isOver_7 (by decide) (fun c1 => ?_) (fun c1 => ?_)
      · skip
        exact absurd (by rw [ecc] at c1; exact c1) (nI_ge (by omega) (by omega))
      · skip
        refine lv_aload_n hx hb dX0_isOver_10 rfl (lv_at hl 1 rfl) ?_
        refine va_get (D := (dC, dI)) (ci := 0) (v := .ref (ax 3)) (C := RX0) (T := TX0) (N := 10) hx hb hw inX0 hown hK hP 0 rfl rfl 2 (by decide) (hw _ wb_19) (fun _ h9 => h9) rfl dX0_isOver_11 ?_
        refine lv_iload_n hx hb dX0_isOver_14 rfl (lv_at hl 0 rfl) ?_
        refine va_zald hx hb hK hP 3 2 rfl rfl hin dX0_isOver_15 ?_
        rw [ci]
        refine lv_if_eq (tgt := 30) hx hb dX0_isOver_16 (by decide) (fun c2 => ?_) (fun c2 => ?_)
        · skip
          refine lv_iinc (v := (nI i) + 1) (lv' := [(1, .int ((nI i) + 1)), (0, .ref (ax 0))]) hx hb dX0_isOver_30 hl (k := 0) rfl rfl (by decide) rfl (fun ls hl => ?_)
          refine lv_goto (tgt := 2) hx hb dX0_isOver_33 (by decide) ?_
          rw [nI_1] at hl
          exact ih (i + 1) (by omega) (by rw [hq]; exact if_neg (fun h => h.1 c2)) ls hl
        · skip
          refine lv_aload_n hx hb dX0_isOver_19 rfl (lv_at hl 1 rfl) ?_
          refine va_get (D := (dC, dI)) (ci := 0) (v := .ref (ax 1)) (C := RX0) (T := TX0) (N := 10) hx hb hw inX0 hown hK hP 0 rfl rfl 0 (by decide) (hw _ wb_17) (fun _ h9 => h9) rfl dX0_isOver_20 ?_
          refine lv_iload_n hx hb dX0_isOver_23 rfl (lv_at hl 0 rfl) ?_
          refine va_iald hx hb hK hP 1 0 rfl rfl hin dX0_isOver_24 ?_
          rw [ci]
          refine lv_if_ne (tgt := 30) hx hb dX0_isOver_25 (by decide) (fun c3 => ?_) (fun c3 => ?_)
          · skip
            refine lv_iinc (v := (nI i) + 1) (lv' := [(1, .int ((nI i) + 1)), (0, .ref (ax 0))]) hx hb dX0_isOver_30 hl (k := 0) rfl rfl (by decide) rfl (fun ls hl => ?_)
            refine lv_goto (tgt := 2) hx hb dX0_isOver_33 (by decide) ?_
            rw [nI_1] at hl
            exact ih (i + 1) (by omega) (by rw [hq]; exact if_neg (fun h => c3 h.2)) ls hl
          · skip
            refine lv_iconst (v := 1) hx hb dX0_isOver_28 (by decide) ?_
            exact W.zret (v := 1) hx hb hrt (by decide) (fun t ht hW => ⟨_, rfl, by rw [hq]; exact (if_pos ⟨c2, c3⟩).symm, ht⟩) (fun q h => nomatch h) dX0_isOver_29
  exact loop n 0 (by omega) rfl ls hl
set_option maxHeartbeats 4000000 in
set_option maxRecDepth 100000 in
/-- told -/
theorem m_told (l : Launch) (dC : Nat → ClassId) (dI : Nat → Nat → Nat) (ax : Nat → Nat) (yx : Nat → ClassId) (cc tc fc hc dr : Int32) (dO : Int64) (fC : Nat → Int32) (fO : Nat → Int64) (fT fH : Nat → Int32)  (n : Nat) (hn : n ≤ 600) (ecc : cc = nI n) : Met l yX0_told wsX0_told (rmN 3 0 0) (va_Pc [.ref (ax 0)] (rdX dC dI ax yx (cc, tc, fc, hc, dr, dO, fC, fO, fT, fH))) (vp_Si (fun r => r = td_val (tl_rounds fC fT n 17 dr) dr)) 0 0 (fun _ => False) := by
  refine Met.ofW (cc := cX0_told) (maxL := 5) (ret := (some .int)) (by decide) rfl ?_
  intro p e s m args below meth c s₁ B hml hv
  obtain ⟨rfl, hP, hK⟩ := hv
  have hx := B.exec
  have hb := B.bytes
  have hrt := B.returns
  have hlocks := B.notSynchronized
  have hts := atoms_spec (ws := wsX0_told) B.pre
  have hw : ∀ w ∈ WB, w.before ([.ref (ax 0)] : List Value).toArray s = true := fun w h => hts w (List.mem_cons_of_mem _ h)
  have hown : s.vm.findClass "ProofBench" = some m.cls := findClass_of_methodNamed B.named
  have hP : va_P (dC, dI) cls2 (XW ax yx (cc, tc, fc, hc, dr, dO, fC, fO, fT, fH)) s.heap := hP
  have hl := lv_entry ([.ref (ax 0)]) (n := 5) (Nat.le_of_ble_eq_true rfl)
  rw [lg_entry_eq]
  generalize (lg_sl ([.ref (ax 0)]) ++ List.replicate (5 - (lg_sl ([.ref (ax 0)])).length) Slot.unset).toArray = ls at hl ⊢
  have hl : lv_has ls 5 [(0, .ref (ax 0))] := hl
  refine lv_aload_n hx hb dX0_told_0 rfl (lv_at hl 0 rfl) ?_
  refine va_get (D := (dC, dI)) (ci := 0) (v := .int dr) (C := RX0) (T := TX0) (N := 10) hx hb hw inX0 hown hK hP 0 rfl rfl 8 (by decide) (hw _ wb_25) (fun _ h9 => h9) rfl dX0_told_1 ?_
  refine lv_istore_n (lv' := [(1, .int dr), (0, .ref (ax 0))]) hx hb dX0_told_4 rfl hl (by decide) rfl (fun ls hl => ?_)
  refine lv_iconst (v := 0) hx hb dX0_told_5 (by decide) ?_
  refine lv_istore_n (lv' := [(2, .int 0), (1, .int dr), (0, .ref (ax 0))]) hx hb dX0_told_6 rfl hl (by decide) rfl (fun ls hl => ?_)
  have inner : ∀ (k i : Nat) (f v2 v3 : Int32), i + k = n → (∀ g, tl_scan fC fT k i f = some g → ∀ ls, lv_has ls 5 [(1, .int g), (2, .int v2), (3, .int v3), (0, .ref (ax 0))] → W p l e (headSpec wsX0_told (rmN 3 0 0)).room s m ([.ref (ax 0)] : List Value).toArray below meth c s.heap [] 0 0 (MQ below (vp_Si (fun r => r = td_val (tl_rounds fC fT n 17 dr) dr)) ([.ref (ax 0)] : List Value).toArray s 0 0 (fun _ => False)) (F0 m 77 ls [])) → (tl_scan fC fT k i f = none → tl_rounds fC fT n 17 dr = none) → ∀ ls, lv_has ls 5 [(4, .int (nI i)), (1, .int f), (2, .int v2), (3, .int v3), (0, .ref (ax 0))] → W p l e (headSpec wsX0_told (rmN 3 0 0)).room s m ([.ref (ax 0)] : List Value).toArray below meth c s.heap [] 0 0 (MQ below (vp_Si (fun r => r = td_val (tl_rounds fC fT n 17 dr) dr)) ([.ref (ax 0)] : List Value).toArray s 0 0 (fun _ => False)) (F0 m 18 ls []) := by
    intro k
    induction k with
    | zero =>
      intro i f v2 v3 hk h1 h2 ls hl
      have e0 : i = n := by omega
      refine lv_iload hx hb dX0_told_18 (lv_at hl 0 rfl) ?_
      refine lv_aload_n hx hb dX0_told_20 rfl (lv_at hl 4 rfl) ?_
      refine va_get (D := (dC, dI)) (ci := 0) (v := .int cc) (C := RX0) (T := TX0) (N := 10) hx hb hw inX0 hown hK hP 0 rfl rfl 4 (by decide) (hw _ wb_21) (fun _ h9 => h9) rfl dX0_told_21 ?_
      refine lv_icmp_ge (tgt := 77) hx hb dX0_told_24 (by decide) (fun c1 => ?_) (fun c1 => ?_)
      · skip
        exact h1 f rfl ls (lv_sub hl [1, 2, 3, 4] rfl)
      · skip
        exact absurd (by rw [ecc, e0]; exact Int32.le_refl _) c1
    | succ k ih =>
      intro i f v2 v3 hk h1 h2 ls hl
      have ci : (nI i).toNatClampNeg = i := nI_clamp (by omega)
      have hin : vp_in (nI i) 600 := vp_in_nI (by omega) (by decide)
      refine lv_iload hx hb dX0_told_18 (lv_at hl 0 rfl) ?_
      refine lv_aload_n hx hb dX0_told_20 rfl (lv_at hl 4 rfl) ?_
      refine va_get (D := (dC, dI)) (ci := 0) (v := .int cc) (C := RX0) (T := TX0) (N := 10) hx hb hw inX0 hown hK hP 0 rfl rfl 4 (by decide) (hw _ wb_21) (fun _ h9 => h9) rfl dX0_told_21 ?_
      refine lv_icmp_ge (tgt := 77) hx hb dX0_told_24 (by decide) (fun c1 => ?_) (fun c1 => ?_)
      · skip
        exact absurd (by rw [ecc] at c1; exact c1) (nI_ge (by omega) (by omega))
      · skip
        refine lv_aload_n hx hb dX0_told_27 rfl (lv_at hl 4 rfl) ?_
        refine va_get (D := (dC, dI)) (ci := 0) (v := .ref (ax 3)) (C := RX0) (T := TX0) (N := 10) hx hb hw inX0 hown hK hP 0 rfl rfl 2 (by decide) (hw _ wb_19) (fun _ h9 => h9) rfl dX0_told_28 ?_
        refine lv_iload hx hb dX0_told_31 (lv_at hl 0 rfl) ?_
        refine va_zald hx hb hK hP 3 2 rfl rfl hin dX0_told_33 ?_
        rw [ci]
        refine lv_if_eq (tgt := 71) hx hb dX0_told_34 (by decide) (fun c2 => ?_) (fun c2 => ?_)
        · skip
          have es : tl_scan fC fT (k + 1) i f = tl_scan fC fT k (i + 1) f := if_pos c2
          refine lv_iinc (v := (nI i) + 1) (lv' := [(4, .int ((nI i) + 1)), (1, .int f), (2, .int v2), (3, .int v3), (0, .ref (ax 0))]) hx hb dX0_told_71 hl (k := 0) rfl rfl (by decide) rfl (fun ls hl => ?_)
          refine lv_goto (tgt := 18) hx hb dX0_told_74 (by decide) ?_
          rw [nI_1] at hl
          exact ih (i + 1) f v2 v3 (by omega) (fun g hg => h1 g (es.trans hg)) (fun hg => h2 (es.trans hg)) ls (lv_sub hl [0, 1, 2, 3, 4] rfl)
        · skip
          refine lv_aload_n hx hb dX0_told_37 rfl (lv_at hl 4 rfl) ?_
          refine va_get (D := (dC, dI)) (ci := 0) (v := .ref (ax 1)) (C := RX0) (T := TX0) (N := 10) hx hb hw inX0 hown hK hP 0 rfl rfl 0 (by decide) (hw _ wb_17) (fun _ h9 => h9) rfl dX0_told_38 ?_
          refine lv_iload hx hb dX0_told_41 (lv_at hl 0 rfl) ?_
          refine va_iald hx hb hK hP 1 0 rfl rfl hin dX0_told_43 ?_
          rw [ci]
          refine lv_iload_n hx hb dX0_told_44 rfl (lv_at hl 1 rfl) ?_
          refine vp_callSi (W.runS (As := [.int (fC i), .int f]) (rest := []) ⟨hx, hb, hml, hown, hw⟩ (m_isWrong l (fC i) f) (va_cwS 2 hw (gw_S wb_72 wb_73 wb_1 wb_74) rfl rfl rfl (by decide +kernel) ⟨Nat.le_of_ble_eq_true rfl, Nat.le_of_ble_eq_true rfl⟩) preEq rfl rfl hl.1 rfl (lv_room (Nat.le_of_ble_eq_true rfl)) dX0_told_45 ⟨Nat.le_refl _, Nat.le_refl _⟩) (fun r1 hr1 => ?_)
          refine lv_if_eq (tgt := 54) hx hb dX0_told_48 (by decide) (fun c3 => ?_) (fun c3 => ?_)
          · skip
            have n0 : ¬ mk_rest (fC i) f = 0 := fun h => by rw [hr1, if_pos h] at c3; exact absurd c3 (by decide)
            have es : tl_scan fC fT (k + 1) i f = tl_scan fC fT k (i + 1) (f ||| mk_neg (mk_told (fC i) f)) := (if_neg c2).trans (if_neg n0)
            refine lv_iload_n hx hb dX0_told_54 rfl (lv_at hl 1 rfl) ?_
            refine lv_aload_n hx hb dX0_told_55 rfl (lv_at hl 4 rfl) ?_
            refine va_get (D := (dC, dI)) (ci := 0) (v := .ref (ax 1)) (C := RX0) (T := TX0) (N := 10) hx hb hw inX0 hown hK hP 0 rfl rfl 0 (by decide) (hw _ wb_17) (fun _ h9 => h9) rfl dX0_told_56 ?_
            refine lv_iload hx hb dX0_told_59 (lv_at hl 0 rfl) ?_
            refine va_iald hx hb hK hP 1 0 rfl rfl hin dX0_told_61 ?_
            rw [ci]
            refine lv_iload_n hx hb dX0_told_62 rfl (lv_at hl 1 rfl) ?_
            refine vp_callSi (W.runS (As := [.int (fC i), .int f]) (rest := [.int f]) ⟨hx, hb, hml, hown, hw⟩ (m_toldBy l (fC i) f) (va_cwS 2 hw (gw_S wb_75 wb_76 wb_1 wb_77) rfl rfl rfl (by decide +kernel) ⟨Nat.le_of_ble_eq_true rfl, Nat.le_of_ble_eq_true rfl⟩) preEq rfl rfl hl.1 rfl (lv_room (Nat.le_of_ble_eq_true rfl)) dX0_told_63 ⟨Nat.le_refl _, Nat.le_refl _⟩) (fun r2 hr2 => ?_)
            subst hr2
            refine vp_callSi (W.runS (As := [.int (mk_told (fC i) f)]) (rest := [.int f]) ⟨hx, hb, hml, hown, hw⟩ (m_negated l (mk_told (fC i) f)) (va_cwS 1 hw (gw_S wb_78 wb_79 wb_1 wb_80) rfl rfl rfl (by decide +kernel) ⟨Nat.le_of_ble_eq_true rfl, Nat.le_of_ble_eq_true rfl⟩) preEq rfl rfl hl.1 rfl (lv_room (Nat.le_of_ble_eq_true rfl)) dX0_told_66 ⟨Nat.le_refl _, Nat.le_refl _⟩) (fun r3 hr3 => ?_)
            subst hr3
            refine lv_ior hx hb dX0_told_69 ?_
            refine lv_istore_n (lv' := [(1, .int (f ||| (mk_neg (mk_told (fC i) f)))), (4, .int (nI i)), (2, .int v2), (3, .int v3), (0, .ref (ax 0))]) hx hb dX0_told_70 rfl hl (by decide) rfl (fun ls hl => ?_)
            refine lv_iinc (v := (nI i) + 1) (lv' := [(4, .int ((nI i) + 1)), (1, .int (f ||| (mk_neg (mk_told (fC i) f)))), (2, .int v2), (3, .int v3), (0, .ref (ax 0))]) hx hb dX0_told_71 hl (k := 1) rfl rfl (by decide) rfl (fun ls hl => ?_)
            refine lv_goto (tgt := 18) hx hb dX0_told_74 (by decide) ?_
            rw [nI_1] at hl
            exact ih (i + 1) _ v2 v3 (by omega) (fun g hg => h1 g (es.trans hg)) (fun hg => h2 (es.trans hg)) ls (lv_sub hl [0, 1, 2, 3, 4] rfl)
          · skip
            have y0 : mk_rest (fC i) f = 0 := Classical.byContradiction fun h => c3 (by rw [hr1, if_neg h])
            have es : tl_scan fC fT (k + 1) i f = none := (if_neg c2).trans (if_pos y0)
            refine lv_bipush (v := 17) hx hb dX0_told_51 (by decide) ?_
            exact W.iret (v := 17) hx hb hrt (fun t ht hW => ⟨_, rfl, by rw [h2 es]; rfl, ht⟩) (fun q h => nomatch h) dX0_told_53
  have outer : ∀ (k j : Nat) (f : Int32), j + k = 17 → tl_rounds fC fT n 17 dr = tl_rounds fC fT n k f → ∀ ls, lv_has ls 5 [(2, .int (nI j)), (1, .int f), (0, .ref (ax 0))] → W p l e (headSpec wsX0_told (rmN 3 0 0)).room s m ([.ref (ax 0)] : List Value).toArray below meth c s.heap [] 0 0 (MQ below (vp_Si (fun r => r = td_val (tl_rounds fC fT n 17 dr) dr)) ([.ref (ax 0)] : List Value).toArray s 0 0 (fun _ => False)) (F0 m 7 ls []) := by
    have fin : ∀ (f : Int32), tl_rounds fC fT n 17 dr = some f → ∀ ls, lv_has ls 5 [(1, .int f), (0, .ref (ax 0))] → W p l e (headSpec wsX0_told (rmN 3 0 0)).room s m ([.ref (ax 0)] : List Value).toArray below meth c s.heap [] 0 0 (MQ below (vp_Si (fun r => r = td_val (tl_rounds fC fT n 17 dr) dr)) ([.ref (ax 0)] : List Value).toArray s 0 0 (fun _ => False)) (F0 m 91 ls []) := by
      intro f hq ls hl
      refine lv_iload_n hx hb dX0_told_91 rfl (lv_at hl 0 rfl) ?_
      refine vp_callSi (W.runS (As := [.int f]) (rest := []) ⟨hx, hb, hml, hown, hw⟩ (m_sizeOf l f) (va_cwS 1 hw (gw_S wb_55 wb_56 wb_1 wb_57) rfl rfl rfl (by decide +kernel) ⟨Nat.le_of_ble_eq_true rfl, Nat.le_of_ble_eq_true rfl⟩) preEq rfl rfl hl.1 rfl (lv_room (Nat.le_of_ble_eq_true rfl)) dX0_told_92 ⟨Nat.le_refl _, Nat.le_refl _⟩) (fun r1 hr1 => ?_)
      refine lv_aload_n hx hb dX0_told_95 rfl (lv_at hl 1 rfl) ?_
      refine va_get (D := (dC, dI)) (ci := 0) (v := .int dr) (C := RX0) (T := TX0) (N := 10) hx hb hw inX0 hown hK hP 0 rfl rfl 8 (by decide) (hw _ wb_25) (fun _ h9 => h9) rfl dX0_told_96 ?_
      refine vp_callSi (W.runS (As := [.int dr]) (rest := [.int r1]) ⟨hx, hb, hml, hown, hw⟩ (m_sizeOf l dr) (va_cwS 1 hw (gw_S wb_55 wb_56 wb_1 wb_57) rfl rfl rfl (by decide +kernel) ⟨Nat.le_of_ble_eq_true rfl, Nat.le_of_ble_eq_true rfl⟩) preEq rfl rfl hl.1 rfl (lv_room (Nat.le_of_ble_eq_true rfl)) dX0_told_99 ⟨Nat.le_refl _, Nat.le_refl _⟩) (fun r2 hr2 => ?_)
      refine lv_isub hx hb dX0_told_102 ?_
      exact W.iret (v := r1 - r2) hx hb hrt (fun t ht hW => ⟨_, rfl, by rw [hq, hr1, hr2]; rfl, ht⟩) (fun q h => nomatch h) dX0_told_103
    intro k
    induction k with
    | zero =>
      intro j f hk hq ls hl
      have e0 : j = 17 := by omega
      subst e0
      refine lv_iload_n hx hb dX0_told_7 rfl (lv_at hl 0 rfl) ?_
      refine lv_bipush (v := 16) hx hb dX0_told_8 (by decide) ?_
      refine lv_icmp_gt (tgt := 91) hx hb dX0_told_10 (by decide) (fun c1 => ?_) (fun c1 => ?_)
      · skip
        exact fin f hq ls (lv_sub hl [1, 2] rfl)
      · skip
        exact absurd (by decide) c1
    | succ k ih =>
      intro j f hk hq ls hl
      refine lv_iload_n hx hb dX0_told_7 rfl (lv_at hl 0 rfl) ?_
      refine lv_bipush (v := 16) hx hb dX0_told_8 (by decide) ?_
      refine lv_icmp_gt (tgt := 91) hx hb dX0_told_10 (by decide) (fun c1 => ?_) (fun c1 => ?_)
      · skip
        exact absurd (show nI 16 < nI j from c1) (nI_nlt (by omega) (by omega))
      · skip
        refine lv_iload_n hx hb dX0_told_13 rfl (lv_at hl 1 rfl) ?_
        refine lv_istore_n (lv' := [(3, .int f), (2, .int (nI j)), (1, .int f), (0, .ref (ax 0))]) hx hb dX0_told_14 rfl hl (by decide) rfl (fun ls hl => ?_)
        refine lv_iconst (v := 0) hx hb dX0_told_15 (by decide) ?_
        refine lv_istore (lv' := [(4, .int 0), (3, .int f), (2, .int (nI j)), (1, .int f), (0, .ref (ax 0))]) hx hb dX0_told_16 hl (by decide) rfl (fun ls hl => ?_)
        refine inner n 0 f (nI j) f (by omega) ?_ (fun hg => by rw [hq]; show (match tl_scan fC fT n 0 f with | none => none | some g => if g = f then some g else tl_rounds fC fT n k g) = none; rw [hg]) ls (lv_sub hl [0, 3, 2, 1, 4] rfl)
        intro g hg ls hl
        have e2 : tl_rounds fC fT n 17 dr = if g = f then some g else tl_rounds fC fT n k g := by rw [hq]; show (match tl_scan fC fT n 0 f with | none => none | some g => if g = f then some g else tl_rounds fC fT n k g) = _; rw [hg]
        refine lv_iload_n hx hb dX0_told_77 rfl (lv_at hl 0 rfl) ?_
        refine lv_iload_n hx hb dX0_told_78 rfl (lv_at hl 2 rfl) ?_
        refine lv_icmp_ne (tgt := 85) hx hb dX0_told_79 (by decide) (fun c2 => ?_) (fun c2 => ?_)
        · skip
          rw [if_neg c2] at e2
          refine lv_iinc (v := (nI j) + 1) (lv' := [(2, .int ((nI j) + 1)), (1, .int g), (3, .int f), (0, .ref (ax 0))]) hx hb dX0_told_85 hl (k := 1) rfl rfl (by decide) rfl (fun ls hl => ?_)
          refine lv_goto (tgt := 7) hx hb dX0_told_88 (by decide) ?_
          rw [nI_1] at hl
          exact ih (j + 1) g (by omega) e2 ls (lv_sub hl [0, 1, 3] rfl)
        · skip
          rw [if_pos c2] at e2
          refine lv_goto (tgt := 91) hx hb dX0_told_82 (by decide) ?_
          exact fin g e2 ls (lv_sub hl [0, 3] rfl)
  exact outer 17 0 dr rfl rfl ls (lv_sub hl [0, 1, 2] rfl)
set_option maxHeartbeats 4000000 in
set_option maxRecDepth 100000 in
/-- firstBadHint -/
theorem m_firstBadHint (l : Launch) (dC : Nat → ClassId) (dI : Nat → Nat → Nat) (ax : Nat → Nat) (yx : Nat → ClassId) (cc tc fc hc dr : Int32) (dO : Int64) (fC : Nat → Int32) (fO : Nat → Int64) (fT fH : Nat → Int32)  (n : Nat) (hn : n ≤ 600) (ecc : cc = nI n) (q : Nat) (hq40 : q ≤ 40) (ehc : hc = nI q) : Met l yX0_firstBadHint wsX0_firstBadHint (rmN 3 0 0) (va_Pc [.ref (ax 0)] (rdX dC dI ax yx (cc, tc, fc, hc, dr, dO, fC, fO, fT, fH))) (vp_Si (fun r => r = bh_scan cc fC fT fH q 0 dr)) 0 0 (fun _ => False) := by
  refine Met.ofW (cc := cX0_firstBadHint) (maxL := 5) (ret := (some .int)) (by decide) rfl ?_
  intro p e s m args below meth c s₁ B hml hv
  obtain ⟨rfl, hP, hK⟩ := hv
  have hx := B.exec
  have hb := B.bytes
  have hrt := B.returns
  have hlocks := B.notSynchronized
  have hts := atoms_spec (ws := wsX0_firstBadHint) B.pre
  have hw : ∀ w ∈ WB, w.before ([.ref (ax 0)] : List Value).toArray s = true := fun w h => hts w (List.mem_cons_of_mem _ h)
  have hown : s.vm.findClass "ProofBench" = some m.cls := findClass_of_methodNamed B.named
  have hP : va_P (dC, dI) cls2 (XW ax yx (cc, tc, fc, hc, dr, dO, fC, fO, fT, fH)) s.heap := hP
  have hl := lv_entry ([.ref (ax 0)]) (n := 5) (Nat.le_of_ble_eq_true rfl)
  rw [lg_entry_eq]
  generalize (lg_sl ([.ref (ax 0)]) ++ List.replicate (5 - (lg_sl ([.ref (ax 0)])).length) Slot.unset).toArray = ls at hl ⊢
  have hl : lv_has ls 5 [(0, .ref (ax 0))] := hl
  refine lv_aload_n hx hb dX0_firstBadHint_0 rfl (lv_at hl 0 rfl) ?_
  refine va_get (D := (dC, dI)) (ci := 0) (v := .int dr) (C := RX0) (T := TX0) (N := 10) hx hb hw inX0 hown hK hP 0 rfl rfl 8 (by decide) (hw _ wb_25) (fun _ h9 => h9) rfl dX0_firstBadHint_1 ?_
  refine lv_istore_n (lv' := [(1, .int dr), (0, .ref (ax 0))]) hx hb dX0_firstBadHint_4 rfl hl (by decide) rfl (fun ls hl => ?_)
  refine lv_iconst (v := 0) hx hb dX0_firstBadHint_5 (by decide) ?_
  refine lv_istore_n (lv' := [(2, .int 0), (1, .int dr), (0, .ref (ax 0))]) hx hb dX0_firstBadHint_6 rfl hl (by decide) rfl (fun ls hl => ?_)
  have loop : ∀ (k i : Nat) (f : Int32), i + k = q → bh_scan cc fC fT fH q 0 dr = bh_scan cc fC fT fH k i f → ∀ ls, lv_has ls 5 [(2, .int (nI i)), (1, .int f), (0, .ref (ax 0))] → W p l e (headSpec wsX0_firstBadHint (rmN 3 0 0)).room s m ([.ref (ax 0)] : List Value).toArray below meth c s.heap [] 0 0 (MQ below (vp_Si (fun r => r = bh_scan cc fC fT fH q 0 dr)) ([.ref (ax 0)] : List Value).toArray s 0 0 (fun _ => False)) (F0 m 7 ls []) := by
    intro k
    induction k with
    | zero =>
      intro i f hk hq ls hl
      have e0 : i = q := by omega
      refine lv_iload_n hx hb dX0_firstBadHint_7 rfl (lv_at hl 0 rfl) ?_
      refine lv_aload_n hx hb dX0_firstBadHint_8 rfl (lv_at hl 2 rfl) ?_
      refine va_get (D := (dC, dI)) (ci := 0) (v := .int hc) (C := RX0) (T := TX0) (N := 10) hx hb hw inX0 hown hK hP 0 rfl rfl 7 (by decide) (hw _ wb_24) (fun _ h9 => h9) rfl dX0_firstBadHint_9 ?_
      refine lv_icmp_ge (tgt := 90) hx hb dX0_firstBadHint_12 (by decide) (fun c1 => ?_) (fun c1 => ?_)
      · skip
        refine lv_aload_n hx hb dX0_firstBadHint_90 rfl (lv_at hl 2 rfl) ?_
        refine va_get (D := (dC, dI)) (ci := 0) (v := .int hc) (C := RX0) (T := TX0) (N := 10) hx hb hw inX0 hown hK hP 0 rfl rfl 7 (by decide) (hw _ wb_24) (fun _ h9 => h9) rfl dX0_firstBadHint_91 ?_
        exact W.iret (v := hc) hx hb hrt (fun t ht hW => ⟨_, rfl, by rw [hq, ehc, e0]; rfl, ht⟩) (fun q h => nomatch h) dX0_firstBadHint_94
      · skip
        exact absurd (by rw [ehc, e0]; exact Int32.le_refl _) c1
    | succ k ih =>
      intro i f hk hq ls hl
      have ci : (nI i).toNatClampNeg = i := nI_clamp (by omega)
      have hin : vp_in (nI i) 40 := vp_in_nI (by omega) (by decide)
      have es : bh_scan cc fC fT fH (k + 1) i f = if th_b cc fT (fH i) = 0 then nI i else if k = 0 ∧ mk_rest (fC (fH i).toNatClampNeg) f = 0 then -1 else if mk_told (fC (fH i).toNatClampNeg) f = 0 then nI i else bh_scan cc fC fT fH k (i + 1) (f ||| mk_neg (mk_told (fC (fH i).toNatClampNeg) f)) := rfl
      rw [es] at hq
      refine lv_iload_n hx hb dX0_firstBadHint_7 rfl (lv_at hl 0 rfl) ?_
      refine lv_aload_n hx hb dX0_firstBadHint_8 rfl (lv_at hl 2 rfl) ?_
      refine va_get (D := (dC, dI)) (ci := 0) (v := .int hc) (C := RX0) (T := TX0) (N := 10) hx hb hw inX0 hown hK hP 0 rfl rfl 7 (by decide) (hw _ wb_24) (fun _ h9 => h9) rfl dX0_firstBadHint_9 ?_
      refine lv_icmp_ge (tgt := 90) hx hb dX0_firstBadHint_12 (by decide) (fun c1 => ?_) (fun c1 => ?_)
      · skip
        exact absurd (by rw [ehc] at c1; exact c1) (nI_ge (by omega) (by omega))
      · skip
        refine lv_aload_n hx hb dX0_firstBadHint_15 rfl (lv_at hl 2 rfl) ?_
        refine va_get (D := (dC, dI)) (ci := 0) (v := .ref (ax 4)) (C := RX0) (T := TX0) (N := 10) hx hb hw inX0 hown hK hP 0 rfl rfl 3 (by decide) (hw _ wb_20) (fun _ h9 => h9) rfl dX0_firstBadHint_16 ?_
        refine lv_iload_n hx hb dX0_firstBadHint_19 rfl (lv_at hl 0 rfl) ?_
        refine va_iald hx hb hK hP 4 3 rfl rfl hin dX0_firstBadHint_20 ?_
        rw [ci]
        refine lv_istore_n (lv' := [(3, .int (fH i)), (2, .int (nI i)), (1, .int f), (0, .ref (ax 0))]) hx hb dX0_firstBadHint_21 rfl hl (by decide) rfl (fun ls hl => ?_)
        refine lv_aload_n hx hb dX0_firstBadHint_22 rfl (lv_at hl 3 rfl) ?_
        refine lv_iload_n hx hb dX0_firstBadHint_23 rfl (lv_at hl 0 rfl) ?_
        refine vp_callSi (W.runV (As := [.int (fH i)]) (rest := []) ⟨hx, hb, hml, hown, hw⟩ (m_isThere l dC dI ax yx cc tc fc hc dr dO fC fO fT fH (fH i) n hn ecc) (cwV 1 hw (gw_V wb_228 wb_230 wbs_5 wb_1 wb_231) rfl rfl rfl (by decide +kernel) ⟨Nat.le_of_ble_eq_true rfl, Nat.le_of_ble_eq_true rfl⟩) ⟨blind_rdX, va_recv hK hP (ci := 0) (q0 := 0) rfl rfl, fun U hU hW => ⟨rfl, by rw [hU]; exact hP, va_K.moved hW.alike hK⟩⟩ rfl rfl hl.1 rfl (lv_room (Nat.le_of_ble_eq_true rfl)) dX0_firstBadHint_24 ⟨Nat.le_refl _, Nat.le_refl _⟩) (fun r1 hr1 => ?_)
        refine lv_if_ne (tgt := 32) hx hb dX0_firstBadHint_27 (by decide) (fun c2 => ?_) (fun c2 => ?_)
        · skip
          rw [hr1] at c2
          rw [if_neg c2] at hq
          have hin2 : vp_in (fH i) 600 := by
            have h9 := c2
            rw [th_b] at h9
            by_cases z : ¬ fH i < 0 ∧ ¬ cc ≤ fH i ∧ fT (fH i).toNatClampNeg ≠ 0
            · exact in_c ecc hn (by decide) z.1 z.2.1
            · rw [if_neg z] at h9; exact absurd rfl h9
          refine lv_iload_n hx hb dX0_firstBadHint_32 rfl (lv_at hl 1 rfl) ?_
          refine lv_aload_n hx hb dX0_firstBadHint_33 rfl (lv_at hl 3 rfl) ?_
          refine va_get (D := (dC, dI)) (ci := 0) (v := .int hc) (C := RX0) (T := TX0) (N := 10) hx hb hw inX0 hown hK hP 0 rfl rfl 7 (by decide) (hw _ wb_24) (fun _ h9 => h9) rfl dX0_firstBadHint_34 ?_
          refine lv_iconst (v := 1) hx hb dX0_firstBadHint_37 (by decide) ?_
          refine lv_isub hx hb dX0_firstBadHint_38 ?_
          refine lv_icmp_ne (tgt := 57) hx hb dX0_firstBadHint_39 (by decide) (fun c3 => ?_) (fun c3 => ?_)
          · skip
            have k0 : ¬ k = 0 := fun h => c3 (by rw [ehc, show q = i + 1 by omega]; exact (nI_pred i).symm)
            rw [if_neg (fun h => k0 h.1)] at hq
            refine lv_aload_n hx hb dX0_firstBadHint_57 rfl (lv_at hl 3 rfl) ?_
            refine va_get (D := (dC, dI)) (ci := 0) (v := .ref (ax 1)) (C := RX0) (T := TX0) (N := 10) hx hb hw inX0 hown hK hP 0 rfl rfl 0 (by decide) (hw _ wb_17) (fun _ h9 => h9) rfl dX0_firstBadHint_58 ?_
            refine lv_iload_n hx hb dX0_firstBadHint_61 rfl (lv_at hl 0 rfl) ?_
            refine va_iald hx hb hK hP 1 0 rfl rfl hin2 dX0_firstBadHint_62 ?_
            refine lv_iload_n hx hb dX0_firstBadHint_63 rfl (lv_at hl 2 rfl) ?_
            refine vp_callSi (W.runS (As := [.int (fC (fH i).toNatClampNeg), .int f]) (rest := []) ⟨hx, hb, hml, hown, hw⟩ (m_toldBy l (fC (fH i).toNatClampNeg) f) (va_cwS 2 hw (gw_S wb_75 wb_76 wb_1 wb_77) rfl rfl rfl (by decide +kernel) ⟨Nat.le_of_ble_eq_true rfl, Nat.le_of_ble_eq_true rfl⟩) preEq rfl rfl hl.1 rfl (lv_room (Nat.le_of_ble_eq_true rfl)) dX0_firstBadHint_64 ⟨Nat.le_refl _, Nat.le_refl _⟩) (fun r3 hr3 => ?_)
            subst hr3
            refine lv_istore (lv' := [(4, .int (mk_told (fC (fH i).toNatClampNeg) f)), (3, .int (fH i)), (2, .int (nI i)), (1, .int f), (0, .ref (ax 0))]) hx hb dX0_firstBadHint_67 hl (by decide) rfl (fun ls hl => ?_)
            refine lv_iload hx hb dX0_firstBadHint_69 (lv_at hl 0 rfl) ?_
            refine lv_if_ne (tgt := 76) hx hb dX0_firstBadHint_71 (by decide) (fun c5 => ?_) (fun c5 => ?_)
            · skip
              rw [if_neg c5] at hq
              refine lv_iload_n hx hb dX0_firstBadHint_76 rfl (lv_at hl 3 rfl) ?_
              refine lv_iload hx hb dX0_firstBadHint_77 (lv_at hl 0 rfl) ?_
              refine vp_callSi (W.runS (As := [.int (mk_told (fC (fH i).toNatClampNeg) f)]) (rest := [.int f]) ⟨hx, hb, hml, hown, hw⟩ (m_negated l (mk_told (fC (fH i).toNatClampNeg) f)) (va_cwS 1 hw (gw_S wb_78 wb_79 wb_1 wb_80) rfl rfl rfl (by decide +kernel) ⟨Nat.le_of_ble_eq_true rfl, Nat.le_of_ble_eq_true rfl⟩) preEq rfl rfl hl.1 rfl (lv_room (Nat.le_of_ble_eq_true rfl)) dX0_firstBadHint_79 ⟨Nat.le_refl _, Nat.le_refl _⟩) (fun r4 hr4 => ?_)
              subst hr4
              refine lv_ior hx hb dX0_firstBadHint_82 ?_
              refine lv_istore_n (lv' := [(1, .int (f ||| (mk_neg (mk_told (fC (fH i).toNatClampNeg) f)))), (4, .int (mk_told (fC (fH i).toNatClampNeg) f)), (3, .int (fH i)), (2, .int (nI i)), (0, .ref (ax 0))]) hx hb dX0_firstBadHint_83 rfl hl (by decide) rfl (fun ls hl => ?_)
              refine lv_iinc (v := (nI i) + 1) (lv' := [(2, .int ((nI i) + 1)), (1, .int (f ||| (mk_neg (mk_told (fC (fH i).toNatClampNeg) f)))), (4, .int (mk_told (fC (fH i).toNatClampNeg) f)), (3, .int (fH i)), (0, .ref (ax 0))]) hx hb dX0_firstBadHint_84 hl (k := 3) rfl rfl (by decide) rfl (fun ls hl => ?_)
              refine lv_goto (tgt := 7) hx hb dX0_firstBadHint_87 (by decide) ?_
              rw [nI_1] at hl
              exact ih (i + 1) _ (by omega) hq ls (lv_sub hl [0, 1, 4] rfl)
            · skip
              rw [if_pos c5] at hq
              refine lv_iload_n hx hb dX0_firstBadHint_74 rfl (lv_at hl 2 rfl) ?_
              exact W.iret (v := nI i) hx hb hrt (fun t ht hW => ⟨_, rfl, hq.symm, ht⟩) (fun q h => nomatch h) dX0_firstBadHint_75
          · skip
            have k0 : k = 0 := by
              have h9 : nI i = nI (q - 1) := by rw [c3, ehc]; exact (by rw [show q = (q - 1) + 1 by omega]; exact nI_pred _)
              have h8 := (nI_eq (by omega) (by omega)).mp h9
              omega
            refine lv_aload_n hx hb dX0_firstBadHint_42 rfl (lv_at hl 3 rfl) ?_
            refine va_get (D := (dC, dI)) (ci := 0) (v := .ref (ax 1)) (C := RX0) (T := TX0) (N := 10) hx hb hw inX0 hown hK hP 0 rfl rfl 0 (by decide) (hw _ wb_17) (fun _ h9 => h9) rfl dX0_firstBadHint_43 ?_
            refine lv_iload_n hx hb dX0_firstBadHint_46 rfl (lv_at hl 0 rfl) ?_
            refine va_iald hx hb hK hP 1 0 rfl rfl hin2 dX0_firstBadHint_47 ?_
            refine lv_iload_n hx hb dX0_firstBadHint_48 rfl (lv_at hl 2 rfl) ?_
            refine vp_callSi (W.runS (As := [.int (fC (fH i).toNatClampNeg), .int f]) (rest := []) ⟨hx, hb, hml, hown, hw⟩ (m_isWrong l (fC (fH i).toNatClampNeg) f) (va_cwS 2 hw (gw_S wb_72 wb_73 wb_1 wb_74) rfl rfl rfl (by decide +kernel) ⟨Nat.le_of_ble_eq_true rfl, Nat.le_of_ble_eq_true rfl⟩) preEq rfl rfl hl.1 rfl (lv_room (Nat.le_of_ble_eq_true rfl)) dX0_firstBadHint_49 ⟨Nat.le_refl _, Nat.le_refl _⟩) (fun r2 hr2 => ?_)
            refine lv_if_eq (tgt := 57) hx hb dX0_firstBadHint_52 (by decide) (fun c4 => ?_) (fun c4 => ?_)
            · skip
              have n0 : ¬ mk_rest (fC (fH i).toNatClampNeg) f = 0 := fun h => by rw [hr2, if_pos h] at c4; exact absurd c4 (by decide)
              rw [if_neg (fun h => n0 h.2)] at hq
              refine lv_aload_n hx hb dX0_firstBadHint_57 rfl (lv_at hl 3 rfl) ?_
              refine va_get (D := (dC, dI)) (ci := 0) (v := .ref (ax 1)) (C := RX0) (T := TX0) (N := 10) hx hb hw inX0 hown hK hP 0 rfl rfl 0 (by decide) (hw _ wb_17) (fun _ h9 => h9) rfl dX0_firstBadHint_58 ?_
              refine lv_iload_n hx hb dX0_firstBadHint_61 rfl (lv_at hl 0 rfl) ?_
              refine va_iald hx hb hK hP 1 0 rfl rfl hin2 dX0_firstBadHint_62 ?_
              refine lv_iload_n hx hb dX0_firstBadHint_63 rfl (lv_at hl 2 rfl) ?_
              refine vp_callSi (W.runS (As := [.int (fC (fH i).toNatClampNeg), .int f]) (rest := []) ⟨hx, hb, hml, hown, hw⟩ (m_toldBy l (fC (fH i).toNatClampNeg) f) (va_cwS 2 hw (gw_S wb_75 wb_76 wb_1 wb_77) rfl rfl rfl (by decide +kernel) ⟨Nat.le_of_ble_eq_true rfl, Nat.le_of_ble_eq_true rfl⟩) preEq rfl rfl hl.1 rfl (lv_room (Nat.le_of_ble_eq_true rfl)) dX0_firstBadHint_64 ⟨Nat.le_refl _, Nat.le_refl _⟩) (fun r3 hr3 => ?_)
              subst hr3
              refine lv_istore (lv' := [(4, .int (mk_told (fC (fH i).toNatClampNeg) f)), (3, .int (fH i)), (2, .int (nI i)), (1, .int f), (0, .ref (ax 0))]) hx hb dX0_firstBadHint_67 hl (by decide) rfl (fun ls hl => ?_)
              refine lv_iload hx hb dX0_firstBadHint_69 (lv_at hl 0 rfl) ?_
              refine lv_if_ne (tgt := 76) hx hb dX0_firstBadHint_71 (by decide) (fun c5 => ?_) (fun c5 => ?_)
              · skip
                rw [if_neg c5] at hq
                refine lv_iload_n hx hb dX0_firstBadHint_76 rfl (lv_at hl 3 rfl) ?_
                refine lv_iload hx hb dX0_firstBadHint_77 (lv_at hl 0 rfl) ?_
                refine vp_callSi (W.runS (As := [.int (mk_told (fC (fH i).toNatClampNeg) f)]) (rest := [.int f]) ⟨hx, hb, hml, hown, hw⟩ (m_negated l (mk_told (fC (fH i).toNatClampNeg) f)) (va_cwS 1 hw (gw_S wb_78 wb_79 wb_1 wb_80) rfl rfl rfl (by decide +kernel) ⟨Nat.le_of_ble_eq_true rfl, Nat.le_of_ble_eq_true rfl⟩) preEq rfl rfl hl.1 rfl (lv_room (Nat.le_of_ble_eq_true rfl)) dX0_firstBadHint_79 ⟨Nat.le_refl _, Nat.le_refl _⟩) (fun r4 hr4 => ?_)
                subst hr4
                refine lv_ior hx hb dX0_firstBadHint_82 ?_
                refine lv_istore_n (lv' := [(1, .int (f ||| (mk_neg (mk_told (fC (fH i).toNatClampNeg) f)))), (4, .int (mk_told (fC (fH i).toNatClampNeg) f)), (3, .int (fH i)), (2, .int (nI i)), (0, .ref (ax 0))]) hx hb dX0_firstBadHint_83 rfl hl (by decide) rfl (fun ls hl => ?_)
                refine lv_iinc (v := (nI i) + 1) (lv' := [(2, .int ((nI i) + 1)), (1, .int (f ||| (mk_neg (mk_told (fC (fH i).toNatClampNeg) f)))), (4, .int (mk_told (fC (fH i).toNatClampNeg) f)), (3, .int (fH i)), (0, .ref (ax 0))]) hx hb dX0_firstBadHint_84 hl (k := 3) rfl rfl (by decide) rfl (fun ls hl => ?_)
                refine lv_goto (tgt := 7) hx hb dX0_firstBadHint_87 (by decide) ?_
                rw [nI_1] at hl
                exact ih (i + 1) _ (by omega) hq ls (lv_sub hl [0, 1, 4] rfl)
              · skip
                rw [if_pos c5] at hq
                refine lv_iload_n hx hb dX0_firstBadHint_74 rfl (lv_at hl 2 rfl) ?_
                exact W.iret (v := nI i) hx hb hrt (fun t ht hW => ⟨_, rfl, hq.symm, ht⟩) (fun q h => nomatch h) dX0_firstBadHint_75
            · skip
              have y0 : mk_rest (fC (fH i).toNatClampNeg) f = 0 := Classical.byContradiction fun h => c4 (by rw [hr2, if_neg h])
              rw [if_pos ⟨k0, y0⟩] at hq
              refine lv_iconst (v := (-1)) hx hb dX0_firstBadHint_55 (by decide) ?_
              exact W.iret (v := (-1)) hx hb hrt (fun t ht hW => ⟨_, rfl, hq.symm, ht⟩) (fun q h => nomatch h) dX0_firstBadHint_56
        · skip
          rw [hr1] at c2
          rw [if_pos c2] at hq
          refine lv_iload_n hx hb dX0_firstBadHint_30 rfl (lv_at hl 1 rfl) ?_
          exact W.iret (v := nI i) hx hb hrt (fun t ht hW => ⟨_, rfl, hq.symm, ht⟩) (fun q h => nomatch h) dX0_firstBadHint_31
  exact loop q 0 dr (by omega) rfl ls (lv_sub hl [0, 1, 2] rfl)
