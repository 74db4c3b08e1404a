/-! the reference's methods without loops -/
theorem lit33 {k : Int32} (h1 : ¬ k < -16) (h2 : ¬ 16 < k) : ∃ j : Nat, j < 33 ∧ k = nI j - 16 := by
  have a1 : -16 ≤ k.toInt := Int32.le_iff_toInt_le.mp (Int32.not_lt.mp h1)
  have a2 : k.toInt ≤ 16 := Int32.le_iff_toInt_le.mp (Int32.not_lt.mp h2)
  refine ⟨(k.toInt + 16).toNat, by omega, ?_⟩
  have e : nI (k.toInt + 16).toNat = k + 16 := by
    apply Int32.toInt_inj.mp
    rw [nI_toInt (by omega), Int32.toInt_add]
    have e16 : (16 : Int32).toInt = 16 := by decide
    rw [e16, Int.bmod_eq_of_le (by omega) (by omega)]
    omega
  rw [e]
  apply Int32.toBitVec_inj.mp
  simp
theorem ab33 : ∀ j, j < 33 → vp_in (lt_abs (nI j - 16)) 17 := by
  intro j hj
  exact (by decide +kernel : ∀ j, j < 33 → ¬ (lt_abs (nI j - 16) < 0 ∨ 17 ≤ (lt_abs (nI j - 16)).toNatClampNeg)) j hj
theorem ab_in {k : Int32} (h1 : ¬ k < -16) (h2 : ¬ 16 < k) : vp_in (lt_abs k) 17 := by
  obtain ⟨j, hj, e⟩ := lit33 h1 h2
  rw [e]
  exact ab33 j hj
/-- of(l): what a literal is under the values -/
def of_v (fV : Nat → Int32) (k : Int32) : Int32 := if fV (lt_abs k).toNatClampNeg = 0 then 0 else if 0 < k then fV (lt_abs k).toNatClampNeg else 3 - fV (lt_abs k).toNatClampNeg
def tell_v (fV : Nat → Int32) (k : Int32) : Nat → Int32 := upd fV (lt_abs k).toNatClampNeg (if 0 < k then 1 else 2)
def mt_b (ct : Int32) (fN : Nat → Int32) (k : Int32) : Int32 := if ¬ k < 0 ∧ ¬ ct ≤ k ∧ ¬ fN k.toNatClampNeg < 0 then 1 else 0
def tr_v (fW : Nat → Int64) (v c : Int32) : Int64 := if 7 ≤ v then (if (c >>> ((v - 7) &&& 31)) &&& 1 = 1 then -1 else 0) else fW v.toNatClampNeg
theorem mt_in {ct k : Int32} {fN : Nat → Int32} {n : Nat} (e : ct = nI n) (hn : n ≤ 600) (h : mt_b ct fN k ≠ 0) : vp_in k 600 := by
  by_cases z : ¬ k < 0 ∧ ¬ ct ≤ k ∧ ¬ fN k.toNatClampNeg < 0
  · exact in_c e hn (by decide) z.1 z.2.1
  · rw [mt_b, if_neg z] at h
    exact absurd rfl h
set_option maxHeartbeats 4000000 in
set_option maxRecDepth 100000 in
/-- thrown -/
theorem n_thrown (l : Launch) (dC : Nat → ClassId) (dI : Nat → Nat → Nat) (am : Nat → Nat) (ym : Nat → ClassId) (co ct th fo sg sz hc : Int32) (fL fN fD fH fV : Nat → Int32) (fM fW : Nat → Int64)  : Met l yX1_thrown wsX1_thrown (rmN 0 0 0) (va_Pc [.ref (am 0)] (rdM dC dI am ym (co, ct, th, fo, sg, sz, hc, fL, fN, fD, fH, fV, fM, fW))) (vp_Si (fun r => r = co)) 0 0 (fun _ => False) := by
  refine Met.ofW (cc := cX1_thrown) (maxL := 1) (ret := (some .int)) (by decide) rfl ?_
  intro p e s m args below meth c s₁ B hml hv
  obtain ⟨rfl, hP, hK⟩ := hv
  have hx := B.exec
  have hb := B.bytes
  have hrt := B.returns
  have hlocks := B.notSynchronized
  have hts := atoms_spec (ws := wsX1_thrown) B.pre
  have hw : ∀ w ∈ WB, w.before ([.ref (am 0)] : List Value).toArray s = true := fun w h => hts w (List.mem_cons_of_mem _ h)
  have hown : s.vm.findClass "ProofBenchModel" = some m.cls := findClass_of_methodNamed B.named
  have hP : va_P (dC, dI) cls2 (MW am ym (co, ct, th, fo, sg, sz, hc, fL, fN, fD, fH, fV, fM, fW)) s.heap := hP
  have hl := lv_entry ([.ref (am 0)]) (n := 1) (Nat.le_of_ble_eq_true rfl)
  rw [lg_entry_eq]
  generalize (lg_sl ([.ref (am 0)]) ++ List.replicate (1 - (lg_sl ([.ref (am 0)])).length) Slot.unset).toArray = ls at hl ⊢
  have hl : lv_has ls 1 [(0, .ref (am 0))] := hl
  refine lv_aload_n hx hb dX1_thrown_0 rfl (lv_at hl 0 rfl) ?_
  refine va_get (D := (dC, dI)) (ci := 1) (v := .int co) (C := RX1) (T := TX1) (N := 14) hx hb hw inX1 hown hK hP 0 rfl rfl 0 (by decide) (hw _ wb_268) (fun _ h9 => h9) rfl dX1_thrown_1 ?_
  exact W.iret (v := co) hx hb hrt (fun t ht hW => ⟨_, rfl, rfl, ht⟩) (fun q h => nomatch h) dX1_thrown_4
set_option maxHeartbeats 4000000 in
set_option maxRecDepth 100000 in
/-- wrong -/
theorem n_wrong (l : Launch) (dC : Nat → ClassId) (dI : Nat → Nat → Nat) (am : Nat → Nat) (ym : Nat → ClassId) (sz0 : Nat) (co ct th fo sg sz hc : Int32) (fL fN fD fH fV : Nat → Int32) (fM fW : Nat → Int64)  : Met l yX1_wrong wsX1_wrong (rmN 0 0 0) (va_Pc [.ref (am 0)] (preM dC dI am ym sz0 (co, ct, th, fo, sg, sz, hc, fL, fN, fD, fH, fV, fM, fW))) (va_Qi (fun (r : Int32) (u : MS) => r = sg ∧ u = (0, ct, th, fo, sg, sz, hc, fL, fN, fD, fH, fV, fM, fW)) (atM dC dI (va_A (MW am ym (co, ct, th, fo, sg, sz, hc, fL, fN, fD, fH, fV, fM, fW)) sz0) am ym) (va_A (MW am ym (co, ct, th, fo, sg, sz, hc, fL, fN, fD, fH, fV, fM, fW)) sz0)) 0 0 (va_A (MW am ym (co, ct, th, fo, sg, sz, hc, fL, fN, fD, fH, fV, fM, fW)) sz0) := by
  refine Met.ofW (cc := cX1_wrong) (maxL := 1) (ret := (some .int)) (by decide) rfl ?_
  intro p e s m args below meth c s₁ B hml hv
  obtain ⟨rfl, hsz, hP, hK, hD0⟩ := hv
  have hx := B.exec
  have hb := B.bytes
  have hrt := B.returns
  have hlocks := B.notSynchronized
  have hts := atoms_spec (ws := wsX1_wrong) B.pre
  have hw : ∀ w ∈ WB, w.before ([.ref (am 0)] : List Value).toArray s = true := fun w h => hts w (List.mem_cons_of_mem _ h)
  have hown : s.vm.findClass "ProofBenchModel" = some m.cls := findClass_of_methodNamed B.named
  subst hsz
  have hD := hD0.self (sz := s.heap.size)
  generalize hAe : va_A (MW am ym (co, ct, th, fo, sg, sz, hc, fL, fN, fD, fH, fV, fM, fW)) s.heap.size = A at hD ⊢
  have hA : ∀ q : Nat, s.heap.size ≤ q → A q := fun q h => by rw [← hAe]; exact Or.inr h
  have hS : va_S A s.heap s.heap [] := va_S.rf
  have hP : va_P (dC, dI) cls2 (MW am ym (co, ct, th, fo, sg, sz, hc, fL, fN, fD, fH, fV, fM, fW)) s.heap := hP
  have hl := lv_entry ([.ref (am 0)]) (n := 1) (Nat.le_of_ble_eq_true rfl)
  rw [lg_entry_eq]
  generalize (lg_sl ([.ref (am 0)]) ++ List.replicate (1 - (lg_sl ([.ref (am 0)])).length) Slot.unset).toArray = ls at hl ⊢
  have hl : lv_has ls 1 [(0, .ref (am 0))] := hl
  refine lv_aload_n hx hb dX1_wrong_0 rfl (lv_at hl 0 rfl) ?_
  refine lv_iconst (v := 0) hx hb dX1_wrong_1 (by decide) ?_
  refine va_put (D := (dC, dI)) (ci := 1) (v := .int 0) (ty := .int) (C := RX1) (T := TX1) (N := 14) hx hb hw inX1 tyX1 tyX1_ok nmX1 hown hK hP hD hS 0 rfl rfl 0 (by decide) (hw _ wb_268) (fun _ h9 => h9) rfl (by decide +kernel) rfl rfl (Nat.le_of_ble_eq_true rfl) dX1_wrong_2 (fun H locs hP hD hS => ?_)
  have hP : va_P (dC, dI) cls2 (MW am ym (0, ct, th, fo, sg, sz, hc, fL, fN, fD, fH, fV, fM, fW)) H := hP
  have hD : va_D A (MW am ym (0, ct, th, fo, sg, sz, hc, fL, fN, fD, fH, fV, fM, fW)) := hD
  refine lv_aload_n hx hb dX1_wrong_5 rfl (lv_at hl 0 rfl) ?_
  refine va_get (D := (dC, dI)) (ci := 1) (v := .int sg) (C := RX1) (T := TX1) (N := 14) hx hb hw inX1 hown hK hP 0 rfl rfl 4 (by decide) (hw _ wb_272) (fun _ h9 => h9) rfl dX1_wrong_6 ?_
  exact W.iret (v := sg) hx hb hrt (fun t ht hW => ⟨⟨_, _, rfl, ⟨rfl, rfl⟩, by rw [ht]; exact hP, va_K.moved hW.alike hK, hD⟩, hS.F ht⟩) hS.2.2 dX1_wrong_9
set_option maxHeartbeats 4000000 in
set_option maxRecDepth 100000 in
/-- clear -/
theorem n_clear (l : Launch) (dC : Nat → ClassId) (dI : Nat → Nat → Nat) (am : Nat → Nat) (ym : Nat → ClassId) (sz0 : Nat) (co ct th fo sg sz hc : Int32) (fL fN fD fH fV : Nat → Int32) (fM fW : Nat → Int64)  : Met l yX1_clear wsX1_clear (rmN 0 0 0) (va_Pc [.ref (am 0)] (preM dC dI am ym sz0 (co, ct, th, fo, sg, sz, hc, fL, fN, fD, fH, fV, fM, fW))) (va_Qi (fun (r : Int32) (u : MS) => r = sz + hc ∧ u = (0, ct, th, fo, sg, 0, 0, fL, fN, fD, fH, fV, fM, fW)) (atM dC dI (va_A (MW am ym (co, ct, th, fo, sg, sz, hc, fL, fN, fD, fH, fV, fM, fW)) sz0) am ym) (va_A (MW am ym (co, ct, th, fo, sg, sz, hc, fL, fN, fD, fH, fV, fM, fW)) sz0)) 0 0 (va_A (MW am ym (co, ct, th, fo, sg, sz, hc, fL, fN, fD, fH, fV, fM, fW)) sz0) := by
  refine Met.ofW (cc := cX1_clear) (maxL := 2) (ret := (some .int)) (by decide) rfl ?_
  intro p e s m args below meth c s₁ B hml hv
  obtain ⟨rfl, hsz, hP, hK, hD0⟩ := hv
  have hx := B.exec
  have hb := B.bytes
  have hrt := B.returns
  have hlocks := B.notSynchronized
  have hts := atoms_spec (ws := wsX1_clear) B.pre
  have hw : ∀ w ∈ WB, w.before ([.ref (am 0)] : List Value).toArray s = true := fun w h => hts w (List.mem_cons_of_mem _ h)
  have hown : s.vm.findClass "ProofBenchModel" = some m.cls := findClass_of_methodNamed B.named
  subst hsz
  have hD := hD0.self (sz := s.heap.size)
  generalize hAe : va_A (MW am ym (co, ct, th, fo, sg, sz, hc, fL, fN, fD, fH, fV, fM, fW)) s.heap.size = A at hD ⊢
  have hA : ∀ q : Nat, s.heap.size ≤ q → A q := fun q h => by rw [← hAe]; exact Or.inr h
  have hS : va_S A s.heap s.heap [] := va_S.rf
  have hP : va_P (dC, dI) cls2 (MW am ym (co, ct, th, fo, sg, sz, hc, fL, fN, fD, fH, fV, fM, fW)) s.heap := hP
  have hl := lv_entry ([.ref (am 0)]) (n := 2) (Nat.le_of_ble_eq_true rfl)
  rw [lg_entry_eq]
  generalize (lg_sl ([.ref (am 0)]) ++ List.replicate (2 - (lg_sl ([.ref (am 0)])).length) Slot.unset).toArray = ls at hl ⊢
  have hl : lv_has ls 2 [(0, .ref (am 0))] := hl
  refine lv_aload_n hx hb dX1_clear_0 rfl (lv_at hl 0 rfl) ?_
  refine lv_iconst (v := 0) hx hb dX1_clear_1 (by decide) ?_
  refine va_put (D := (dC, dI)) (ci := 1) (v := .int 0) (ty := .int) (C := RX1) (T := TX1) (N := 14) hx hb hw inX1 tyX1 tyX1_ok nmX1 hown hK hP hD hS 0 rfl rfl 0 (by decide) (hw _ wb_268) (fun _ h9 => h9) rfl (by decide +kernel) rfl rfl (Nat.le_of_ble_eq_true rfl) dX1_clear_2 (fun H locs hP hD hS => ?_)
  have hP : va_P (dC, dI) cls2 (MW am ym (0, ct, th, fo, sg, sz, hc, fL, fN, fD, fH, fV, fM, fW)) H := hP
  have hD : va_D A (MW am ym (0, ct, th, fo, sg, sz, hc, fL, fN, fD, fH, fV, fM, fW)) := hD
  refine lv_aload_n hx hb dX1_clear_5 rfl (lv_at hl 0 rfl) ?_
  refine va_get (D := (dC, dI)) (ci := 1) (v := .int sz) (C := RX1) (T := TX1) (N := 14) hx hb hw inX1 hown hK hP 0 rfl rfl 7 (by decide) (hw _ wb_275) (fun _ h9 => h9) rfl dX1_clear_6 ?_
  refine lv_aload_n hx hb dX1_clear_9 rfl (lv_at hl 0 rfl) ?_
  refine va_get (D := (dC, dI)) (ci := 1) (v := .int hc) (C := RX1) (T := TX1) (N := 14) hx hb hw inX1 hown hK hP 0 rfl rfl 9 (by decide) (hw _ wb_277) (fun _ h9 => h9) rfl dX1_clear_10 ?_
  refine lv_iadd hx hb dX1_clear_13 ?_
  refine lv_istore_n (lv' := [(1, .int (sz + hc)), (0, .ref (am 0))]) hx hb dX1_clear_14 rfl hl (by decide) rfl (fun ls hl => ?_)
  refine lv_aload_n hx hb dX1_clear_15 rfl (lv_at hl 1 rfl) ?_
  refine lv_iconst (v := 0) hx hb dX1_clear_16 (by decide) ?_
  refine va_put (D := (dC, dI)) (ci := 1) (v := .int 0) (ty := .int) (C := RX1) (T := TX1) (N := 14) hx hb hw inX1 tyX1 tyX1_ok nmX1 hown hK hP hD hS 0 rfl rfl 7 (by decide) (hw _ wb_275) (fun _ h9 => h9) rfl (by decide +kernel) rfl rfl (Nat.le_of_ble_eq_true rfl) dX1_clear_17 (fun H locs hP hD hS => ?_)
  have hP : va_P (dC, dI) cls2 (MW am ym (0, ct, th, fo, sg, 0, hc, fL, fN, fD, fH, fV, fM, fW)) H := hP
  have hD : va_D A (MW am ym (0, ct, th, fo, sg, 0, hc, fL, fN, fD, fH, fV, fM, fW)) := hD
  refine lv_aload_n hx hb dX1_clear_20 rfl (lv_at hl 1 rfl) ?_
  refine lv_iconst (v := 0) hx hb dX1_clear_21 (by decide) ?_
  refine va_put (D := (dC, dI)) (ci := 1) (v := .int 0) (ty := .int) (C := RX1) (T := TX1) (N := 14) hx hb hw inX1 tyX1 tyX1_ok nmX1 hown hK hP hD hS 0 rfl rfl 9 (by decide) (hw _ wb_277) (fun _ h9 => h9) rfl (by decide +kernel) rfl rfl (Nat.le_of_ble_eq_true rfl) dX1_clear_22 (fun H locs hP hD hS => ?_)
  have hP : va_P (dC, dI) cls2 (MW am ym (0, ct, th, fo, sg, 0, 0, fL, fN, fD, fH, fV, fM, fW)) H := hP
  have hD : va_D A (MW am ym (0, ct, th, fo, sg, 0, 0, fL, fN, fD, fH, fV, fM, fW)) := hD
  refine lv_iload_n hx hb dX1_clear_25 rfl (lv_at hl 0 rfl) ?_
  exact W.iret (v := sz + hc) hx hb hrt (fun t ht hW => ⟨⟨_, _, rfl, ⟨rfl, rfl⟩, by rw [ht]; exact hP, va_K.moved hW.alike hK, hD⟩, hS.F ht⟩) hS.2.2 dX1_clear_26
set_option maxHeartbeats 4000000 in
set_option maxRecDepth 100000 in
/-- isThere -/
theorem n_isThere (l : Launch) (dC : Nat → ClassId) (dI : Nat → Nat → Nat) (am : Nat → Nat) (ym : Nat → ClassId) (co ct th fo sg sz hc : Int32) (fL fN fD fH fV : Nat → Int32) (fM fW : Nat → Int64) (k : Int32) (n : Nat) (hn : n ≤ 600) (ect : ct = nI n) : Met l yX1_isThere wsX1_isThere (rmN 0 0 0) (va_Pc [.ref (am 0), .int k] (rdM dC dI am ym (co, ct, th, fo, sg, sz, hc, fL, fN, fD, fH, fV, fM, fW))) (vp_Si (fun r => r = mt_b ct fN k)) 0 0 (fun _ => False) := by
  refine Met.ofW (cc := cX1_isThere) (maxL := 2) (ret := (some .boolean)) (by decide) rfl ?_
  intro p e s m args below meth c s₁ B hml hv
  obtain ⟨rfl, hP, hK⟩ := hv
  have hx := B.exec
  have hb := B.bytes
  have hrt := B.returns
  have hlocks := B.notSynchronized
  have hts := atoms_spec (ws := wsX1_isThere) B.pre
  have hw : ∀ w ∈ WB, w.before ([.ref (am 0), .int k] : List Value).toArray s = true := fun w h => hts w (List.mem_cons_of_mem _ h)
  have hown : s.vm.findClass "ProofBenchModel" = some m.cls := findClass_of_methodNamed B.named
  have hP : va_P (dC, dI) cls2 (MW am ym (co, ct, th, fo, sg, sz, hc, fL, fN, fD, fH, fV, fM, fW)) s.heap := hP
  have hl := lv_entry ([.ref (am 0), .int k]) (n := 2) (Nat.le_of_ble_eq_true rfl)
  rw [lg_entry_eq]
  generalize (lg_sl ([.ref (am 0), .int k]) ++ List.replicate (2 - (lg_sl ([.ref (am 0), .int k])).length) Slot.unset).toArray = ls at hl ⊢
  have hl : lv_has ls 2 [(0, .ref (am 0)), (1, .int k)] := hl
  refine lv_iload_n hx hb dX1_isThere_0 rfl (lv_at hl 1 rfl) ?_
  refine lv_if_lt (tgt := 25) hx hb dX1_isThere_1 (by decide) (fun c1 => ?_) (fun c1 => ?_)
  · skip
    refine lv_iconst (v := 0) hx hb dX1_isThere_25 (by decide) ?_
    exact W.zret (v := 0) hx hb hrt (by decide) (fun t ht hW => ⟨_, rfl, by rw [mt_b, if_neg (fun h => h.1 c1)], ht⟩) (fun q h => nomatch h) dX1_isThere_26
  · skip
    refine lv_iload_n hx hb dX1_isThere_4 rfl (lv_at hl 1 rfl) ?_
    refine lv_aload_n hx hb dX1_isThere_5 rfl (lv_at hl 0 rfl) ?_
    refine va_get (D := (dC, dI)) (ci := 1) (v := .int ct) (C := RX1) (T := TX1) (N := 14) hx hb hw inX1 hown hK hP 0 rfl rfl 1 (by decide) (hw _ wb_269) (fun _ h9 => h9) rfl dX1_isThere_6 ?_
    refine lv_icmp_ge (tgt := 25) hx hb dX1_isThere_9 (by decide) (fun c2 => ?_) (fun c2 => ?_)
    · skip
      refine lv_iconst (v := 0) hx hb dX1_isThere_25 (by decide) ?_
      exact W.zret (v := 0) hx hb hrt (by decide) (fun t ht hW => ⟨_, rfl, by rw [mt_b, if_neg (fun h => h.2.1 c2)], ht⟩) (fun q h => nomatch h) dX1_isThere_26
    · skip
      refine lv_aload_n hx hb dX1_isThere_12 rfl (lv_at hl 0 rfl) ?_
      refine va_get (D := (dC, dI)) (ci := 1) (v := .ref (am 2)) (C := RX1) (T := TX1) (N := 14) hx hb hw inX1 hown hK hP 0 rfl rfl 6 (by decide) (hw _ wb_274) (fun _ h9 => h9) rfl dX1_isThere_13 ?_
      refine lv_iload_n hx hb dX1_isThere_16 rfl (lv_at hl 1 rfl) ?_
      refine va_iald hx hb hK hP 2 1 rfl rfl (in_c ect hn (by decide) c1 c2) dX1_isThere_17 ?_
      refine lv_if_lt (tgt := 25) hx hb dX1_isThere_18 (by decide) (fun c3 => ?_) (fun c3 => ?_)
      · skip
        refine lv_iconst (v := 0) hx hb dX1_isThere_25 (by decide) ?_
        exact W.zret (v := 0) hx hb hrt (by decide) (fun t ht hW => ⟨_, rfl, by rw [mt_b, if_neg (fun h => h.2.2 c3)], ht⟩) (fun q h => nomatch h) dX1_isThere_26
      · skip
        refine lv_iconst (v := 1) hx hb dX1_isThere_21 (by decide) ?_
        refine lv_goto (tgt := 26) hx hb dX1_isThere_22 (by decide) ?_
        exact W.zret (v := 1) hx hb hrt (by decide) (fun t ht hW => ⟨_, rfl, by rw [mt_b, if_pos ⟨c1, c2, c3⟩], ht⟩) (fun q h => nomatch h) dX1_isThere_26
set_option maxHeartbeats 4000000 in
set_option maxRecDepth 100000 in
/-- hint -/
theorem n_hint (l : Launch) (dC : Nat → ClassId) (dI : Nat → Nat → Nat) (am : Nat → Nat) (ym : Nat → ClassId) (sz0 : Nat) (co ct th fo sg sz hc : Int32) (fL fN fD fH fV : Nat → Int32) (fM fW : Nat → Int64) (k : Int32) (q : Nat) (ehc : hc = nI q) (hq40 : q ≤ 40) : Met l yX1_hint wsX1_hint (rmN 0 0 0) (va_Pc [.ref (am 0), .int k] (preM dC dI am ym sz0 (co, ct, th, fo, sg, sz, hc, fL, fN, fD, fH, fV, fM, fW))) (va_Qi (fun (r : Int32) (u : MS) => ((k < 0 ∨ 599 < k) ∧ r = 0 ∧ u = (1, ct, th, fo, sg, sz, hc, fL, fN, fD, fH, fV, fM, fW)) ∨ (¬ (k < 0 ∨ 599 < k) ∧ hc = 40 ∧ r = 0 ∧ u = (2, ct, th, fo, sg, sz, hc, fL, fN, fD, fH, fV, fM, fW)) ∨ (¬ (k < 0 ∨ 599 < k) ∧ ¬ hc = 40 ∧ r = hc + 1 ∧ u = (0, ct, th, fo, sg, sz, hc + 1, fL, fN, fD, upd fH hc.toNatClampNeg k, fV, fM, fW))) (atM dC dI (va_A (MW am ym (co, ct, th, fo, sg, sz, hc, fL, fN, fD, fH, fV, fM, fW)) sz0) am ym) (va_A (MW am ym (co, ct, th, fo, sg, sz, hc, fL, fN, fD, fH, fV, fM, fW)) sz0)) 0 0 (va_A (MW am ym (co, ct, th, fo, sg, sz, hc, fL, fN, fD, fH, fV, fM, fW)) sz0) := by
  refine Met.ofW (cc := cX1_hint) (maxL := 2) (ret := (some .int)) (by decide) rfl ?_
  intro p e s m args below meth c s₁ B hml hv
  obtain ⟨rfl, hsz, hP, hK, hD0⟩ := hv
  have hx := B.exec
  have hb := B.bytes
  have hrt := B.returns
  have hlocks := B.notSynchronized
  have hts := atoms_spec (ws := wsX1_hint) B.pre
  have hw : ∀ w ∈ WB, w.before ([.ref (am 0), .int k] : List Value).toArray s = true := fun w h => hts w (List.mem_cons_of_mem _ h)
  have hown : s.vm.findClass "ProofBenchModel" = some m.cls := findClass_of_methodNamed B.named
  subst hsz
  have hD := hD0.self (sz := s.heap.size)
  generalize hAe : va_A (MW am ym (co, ct, th, fo, sg, sz, hc, fL, fN, fD, fH, fV, fM, fW)) s.heap.size = A at hD ⊢
  have hA : ∀ q : Nat, s.heap.size ≤ q → A q := fun q h => by rw [← hAe]; exact Or.inr h
  have hS : va_S A s.heap s.heap [] := va_S.rf
  have hP : va_P (dC, dI) cls2 (MW am ym (co, ct, th, fo, sg, sz, hc, fL, fN, fD, fH, fV, fM, fW)) s.heap := hP
  have hl := lv_entry ([.ref (am 0), .int k]) (n := 2) (Nat.le_of_ble_eq_true rfl)
  rw [lg_entry_eq]
  generalize (lg_sl ([.ref (am 0), .int k]) ++ List.replicate (2 - (lg_sl ([.ref (am 0), .int k])).length) Slot.unset).toArray = ls at hl ⊢
  have hl : lv_has ls 2 [(0, .ref (am 0)), (1, .int k)] := hl
  refine lv_aload_n hx hb dX1_hint_0 rfl (lv_at hl 0 rfl) ?_
  refine lv_iload_n hx hb dX1_hint_1 rfl (lv_at hl 1 rfl) ?_
  refine lv_if_lt (tgt := 12) hx hb dX1_hint_2 (by decide) (fun c1 => ?_) (fun c1 => ?_)
  · skip
    refine lv_iconst (v := 1) hx hb dX1_hint_12 (by decide) ?_
    refine lv_goto (tgt := 30) hx hb dX1_hint_13 (by decide) ?_
    refine va_put (D := (dC, dI)) (ci := 1) (v := .int 1) (ty := .int) (C := RX1) (T := TX1) (N := 14) hx hb hw inX1 tyX1 tyX1_ok nmX1 hown hK hP hD hS 0 rfl rfl 0 (by decide) (hw _ wb_268) (fun _ h9 => h9) rfl (by decide +kernel) rfl rfl (Nat.le_of_ble_eq_true rfl) dX1_hint_30 (fun H locs hP hD hS => ?_)
    have hP : va_P (dC, dI) cls2 (MW am ym (1, ct, th, fo, sg, sz, hc, fL, fN, fD, fH, fV, fM, fW)) H := hP
    have hD : va_D A (MW am ym (1, ct, th, fo, sg, sz, hc, fL, fN, fD, fH, fV, fM, fW)) := hD
    refine lv_aload_n hx hb dX1_hint_33 rfl (lv_at hl 0 rfl) ?_
    refine va_get (D := (dC, dI)) (ci := 1) (v := .int 1) (C := RX1) (T := TX1) (N := 14) hx hb hw inX1 hown hK hP 0 rfl rfl 0 (by decide) (hw _ wb_268) (fun _ h9 => h9) rfl dX1_hint_34 ?_
    refine lv_if_le (tgt := 42) hx hb dX1_hint_37 (by decide) (fun c9 => ?_) (fun c9 => ?_)
    · skip
      exact absurd c9 (by decide)
    · skip
      refine lv_iconst (v := 0) hx hb dX1_hint_40 (by decide) ?_
      exact W.iret (v := 0) hx hb hrt (fun t ht hW => ⟨⟨_, _, rfl, Or.inl ⟨Or.inl c1, rfl, rfl⟩, by rw [ht]; exact hP, va_K.moved hW.alike hK, hD⟩, hS.F ht⟩) hS.2.2 dX1_hint_41
  · skip
    refine lv_iload_n hx hb dX1_hint_5 rfl (lv_at hl 1 rfl) ?_
    refine lv_sipush (v := 599) hx hb dX1_hint_6 (by decide) ?_
    refine lv_icmp_le (tgt := 16) hx hb dX1_hint_9 (by decide) (fun c2 => ?_) (fun c2 => ?_)
    · skip
      refine lv_aload_n hx hb dX1_hint_16 rfl (lv_at hl 0 rfl) ?_
      refine va_get (D := (dC, dI)) (ci := 1) (v := .int hc) (C := RX1) (T := TX1) (N := 14) hx hb hw inX1 hown hK hP 0 rfl rfl 9 (by decide) (hw _ wb_277) (fun _ h9 => h9) rfl dX1_hint_17 ?_
      refine lv_bipush (v := 40) hx hb dX1_hint_20 (by decide) ?_
      refine lv_icmp_ne (tgt := 29) hx hb dX1_hint_22 (by decide) (fun c3 => ?_) (fun c3 => ?_)
      · skip
        refine lv_iconst (v := 0) hx hb dX1_hint_29 (by decide) ?_
        refine va_put (D := (dC, dI)) (ci := 1) (v := .int 0) (ty := .int) (C := RX1) (T := TX1) (N := 14) hx hb hw inX1 tyX1 tyX1_ok nmX1 hown hK hP hD hS 0 rfl rfl 0 (by decide) (hw _ wb_268) (fun _ h9 => h9) rfl (by decide +kernel) rfl rfl (Nat.le_of_ble_eq_true rfl) dX1_hint_30 (fun H locs hP hD hS => ?_)
        have hP : va_P (dC, dI) cls2 (MW am ym (0, ct, th, fo, sg, sz, hc, fL, fN, fD, fH, fV, fM, fW)) H := hP
        have hD : va_D A (MW am ym (0, ct, th, fo, sg, sz, hc, fL, fN, fD, fH, fV, fM, fW)) := hD
        refine lv_aload_n hx hb dX1_hint_33 rfl (lv_at hl 0 rfl) ?_
        refine va_get (D := (dC, dI)) (ci := 1) (v := .int 0) (C := RX1) (T := TX1) (N := 14) hx hb hw inX1 hown hK hP 0 rfl rfl 0 (by decide) (hw _ wb_268) (fun _ h9 => h9) rfl dX1_hint_34 ?_
        refine lv_if_le (tgt := 42) hx hb dX1_hint_37 (by decide) (fun c9 => ?_) (fun c9 => ?_)
        · skip
          have q40 : q < 40 := by
            rcases Nat.lt_or_ge q 40 with h | h
            · exact h
            · exact absurd (by rw [ehc, show q = 40 by omega]; rfl) c3
          have hin : vp_in hc 40 := by rw [ehc]; exact vp_in_nI q40 (by decide)
          refine lv_aload_n hx hb dX1_hint_42 rfl (lv_at hl 0 rfl) ?_
          refine va_get (D := (dC, dI)) (ci := 1) (v := .ref (am 4)) (C := RX1) (T := TX1) (N := 14) hx hb hw inX1 hown hK hP 0 rfl rfl 10 (by decide) (hw _ wb_278) (fun _ h9 => h9) rfl dX1_hint_43 ?_
          refine lv_aload_n hx hb dX1_hint_46 rfl (lv_at hl 0 rfl) ?_
          refine va_get (D := (dC, dI)) (ci := 1) (v := .int hc) (C := RX1) (T := TX1) (N := 14) hx hb hw inX1 hown hK hP 0 rfl rfl 9 (by decide) (hw _ wb_277) (fun _ h9 => h9) rfl dX1_hint_47 ?_
          refine lv_iload_n hx hb dX1_hint_50 rfl (lv_at hl 1 rfl) ?_
          refine va_iast hx hb hK hP hD hS 4 3 rfl rfl hin dX1_hint_51 (fun H locs hP hD hS => ?_)
          have hP : va_P (dC, dI) cls2 (MW am ym (0, ct, th, fo, sg, sz, hc, fL, fN, fD, upd fH hc.toNatClampNeg k, fV, fM, fW)) H := hP
          have hD : va_D A (MW am ym (0, ct, th, fo, sg, sz, hc, fL, fN, fD, upd fH hc.toNatClampNeg k, fV, fM, fW)) := hD
          refine lv_aload_n hx hb dX1_hint_52 rfl (lv_at hl 0 rfl) ?_
          refine lv_dup hx hb dX1_hint_53 rfl ?_
          refine va_get (D := (dC, dI)) (ci := 1) (v := .int hc) (C := RX1) (T := TX1) (N := 14) hx hb hw inX1 hown hK hP 0 rfl rfl 9 (by decide) (hw _ wb_277) (fun _ h9 => h9) rfl dX1_hint_54 ?_
          refine lv_iconst (v := 1) hx hb dX1_hint_57 (by decide) ?_
          refine lv_iadd hx hb dX1_hint_58 ?_
          refine va_put (D := (dC, dI)) (ci := 1) (v := .int (hc + 1)) (ty := .int) (C := RX1) (T := TX1) (N := 14) hx hb hw inX1 tyX1 tyX1_ok nmX1 hown hK hP hD hS 0 rfl rfl 9 (by decide) (hw _ wb_277) (fun _ h9 => h9) rfl (by decide +kernel) rfl rfl (Nat.le_of_ble_eq_true rfl) dX1_hint_59 (fun H locs hP hD hS => ?_)
          have hP : va_P (dC, dI) cls2 (MW am ym (0, ct, th, fo, sg, sz, hc + 1, fL, fN, fD, upd fH hc.toNatClampNeg k, fV, fM, fW)) H := hP
          have hD : va_D A (MW am ym (0, ct, th, fo, sg, sz, hc + 1, fL, fN, fD, upd fH hc.toNatClampNeg k, fV, fM, fW)) := hD
          refine lv_aload_n hx hb dX1_hint_62 rfl (lv_at hl 0 rfl) ?_
          refine va_get (D := (dC, dI)) (ci := 1) (v := .int (hc + 1)) (C := RX1) (T := TX1) (N := 14) hx hb hw inX1 hown hK hP 0 rfl rfl 9 (by decide) (hw _ wb_277) (fun _ h9 => h9) rfl dX1_hint_63 ?_
          exact W.iret (v := hc + 1) hx hb hrt (fun t ht hW => ⟨⟨_, _, rfl, Or.inr (Or.inr ⟨(fun h => h.elim c1 (fun h => absurd h (Int32.not_lt.mpr c2))), c3, rfl, rfl⟩), by rw [ht]; exact hP, va_K.moved hW.alike hK, hD⟩, hS.F ht⟩) hS.2.2 dX1_hint_66
        · skip
          exact absurd (by decide) c9
      · skip
        refine lv_iconst (v := 2) hx hb dX1_hint_25 (by decide) ?_
        refine lv_goto (tgt := 30) hx hb dX1_hint_26 (by decide) ?_
        refine va_put (D := (dC, dI)) (ci := 1) (v := .int 2) (ty := .int) (C := RX1) (T := TX1) (N := 14) hx hb hw inX1 tyX1 tyX1_ok nmX1 hown hK hP hD hS 0 rfl rfl 0 (by decide) (hw _ wb_268) (fun _ h9 => h9) rfl (by decide +kernel) rfl rfl (Nat.le_of_ble_eq_true rfl) dX1_hint_30 (fun H locs hP hD hS => ?_)
        have hP : va_P (dC, dI) cls2 (MW am ym (2, ct, th, fo, sg, sz, hc, fL, fN, fD, fH, fV, fM, fW)) H := hP
        have hD : va_D A (MW am ym (2, ct, th, fo, sg, sz, hc, fL, fN, fD, fH, fV, fM, fW)) := hD
        refine lv_aload_n hx hb dX1_hint_33 rfl (lv_at hl 0 rfl) ?_
        refine va_get (D := (dC, dI)) (ci := 1) (v := .int 2) (C := RX1) (T := TX1) (N := 14) hx hb hw inX1 hown hK hP 0 rfl rfl 0 (by decide) (hw _ wb_268) (fun _ h9 => h9) rfl dX1_hint_34 ?_
        refine lv_if_le (tgt := 42) hx hb dX1_hint_37 (by decide) (fun c9 => ?_) (fun c9 => ?_)
        · skip
          exact absurd c9 (by decide)
        · skip
          refine lv_iconst (v := 0) hx hb dX1_hint_40 (by decide) ?_
          exact W.iret (v := 0) hx hb hrt (fun t ht hW => ⟨⟨_, _, rfl, Or.inr (Or.inl ⟨(fun h => h.elim c1 (fun h => absurd h (Int32.not_lt.mpr c2))), c3, rfl, rfl⟩), by rw [ht]; exact hP, va_K.moved hW.alike hK, hD⟩, hS.F ht⟩) hS.2.2 dX1_hint_41
    · skip
      refine lv_iconst (v := 1) hx hb dX1_hint_12 (by decide) ?_
      refine lv_goto (tgt := 30) hx hb dX1_hint_13 (by decide) ?_
      refine va_put (D := (dC, dI)) (ci := 1) (v := .int 1) (ty := .int) (C := RX1) (T := TX1) (N := 14) hx hb hw inX1 tyX1 tyX1_ok nmX1 hown hK hP hD hS 0 rfl rfl 0 (by decide) (hw _ wb_268) (fun _ h9 => h9) rfl (by decide +kernel) rfl rfl (Nat.le_of_ble_eq_true rfl) dX1_hint_30 (fun H locs hP hD hS => ?_)
      have hP : va_P (dC, dI) cls2 (MW am ym (1, ct, th, fo, sg, sz, hc, fL, fN, fD, fH, fV, fM, fW)) H := hP
      have hD : va_D A (MW am ym (1, ct, th, fo, sg, sz, hc, fL, fN, fD, fH, fV, fM, fW)) := hD
      refine lv_aload_n hx hb dX1_hint_33 rfl (lv_at hl 0 rfl) ?_
      refine va_get (D := (dC, dI)) (ci := 1) (v := .int 1) (C := RX1) (T := TX1) (N := 14) hx hb hw inX1 hown hK hP 0 rfl rfl 0 (by decide) (hw _ wb_268) (fun _ h9 => h9) rfl dX1_hint_34 ?_
      refine lv_if_le (tgt := 42) hx hb dX1_hint_37 (by decide) (fun c9 => ?_) (fun c9 => ?_)
      · skip
        exact absurd c9 (by decide)
      · skip
        refine lv_iconst (v := 0) hx hb dX1_hint_40 (by decide) ?_
        exact W.iret (v := 0) hx hb hrt (fun t ht hW => ⟨⟨_, _, rfl, Or.inl ⟨Or.inr (Int32.not_le.mp c2), rfl, rfl⟩, by rw [ht]; exact hP, va_K.moved hW.alike hK, hD⟩, hS.F ht⟩) hS.2.2 dX1_hint_41
set_option maxHeartbeats 4000000 in
set_option maxRecDepth 100000 in
/-- count -/
theorem n_count (l : Launch) (dC : Nat → ClassId) (dI : Nat → Nat → Nat) (am : Nat → Nat) (ym : Nat → ClassId) (sz0 : Nat) (co ct th fo sg sz hc : Int32) (fL fN fD fH fV : Nat → Int32) (fM fW : Nat → Int64) (k : Int32) : Met l yX1_count wsX1_count (rmN 0 0 0) (va_Pc [.ref (am 0), .int k] (preM dC dI am ym sz0 (co, ct, th, fo, sg, sz, hc, fL, fN, fD, fH, fV, fM, fW))) (va_Qi (fun (r : Int32) (u : MS) => ((k < 0 ∨ 4 < k) ∧ r = 0 ∧ u = (1, ct, th, fo, sg, sz, hc, fL, fN, fD, fH, fV, fM, fW)) ∨ (¬ (k < 0 ∨ 4 < k) ∧ r = (if k = 0 then ct else if k = 1 then th else if k = 2 then fo else if k = 3 then sz else hc) ∧ u = (0, ct, th, fo, sg, sz, hc, fL, fN, fD, fH, fV, fM, fW))) (atM dC dI (va_A (MW am ym (co, ct, th, fo, sg, sz, hc, fL, fN, fD, fH, fV, fM, fW)) sz0) am ym) (va_A (MW am ym (co, ct, th, fo, sg, sz, hc, fL, fN, fD, fH, fV, fM, fW)) sz0)) 0 0 (va_A (MW am ym (co, ct, th, fo, sg, sz, hc, fL, fN, fD, fH, fV, fM, fW)) sz0) := by
  refine Met.ofW (cc := cX1_count) (maxL := 2) (ret := (some .int)) (by decide) rfl ?_
  intro p e s m args below meth c s₁ B hml hv
  obtain ⟨rfl, hsz, hP, hK, hD0⟩ := hv
  have hx := B.exec
  have hb := B.bytes
  have hrt := B.returns
  have hlocks := B.notSynchronized
  have hts := atoms_spec (ws := wsX1_count) B.pre
  have hw : ∀ w ∈ WB, w.before ([.ref (am 0), .int k] : List Value).toArray s = true := fun w h => hts w (List.mem_cons_of_mem _ h)
  have hown : s.vm.findClass "ProofBenchModel" = some m.cls := findClass_of_methodNamed B.named
  subst hsz
  have hD := hD0.self (sz := s.heap.size)
  generalize hAe : va_A (MW am ym (co, ct, th, fo, sg, sz, hc, fL, fN, fD, fH, fV, fM, fW)) s.heap.size = A at hD ⊢
  have hA : ∀ q : Nat, s.heap.size ≤ q → A q := fun q h => by rw [← hAe]; exact Or.inr h
  have hS : va_S A s.heap s.heap [] := va_S.rf
  have hP : va_P (dC, dI) cls2 (MW am ym (co, ct, th, fo, sg, sz, hc, fL, fN, fD, fH, fV, fM, fW)) s.heap := hP
  have hl := lv_entry ([.ref (am 0), .int k]) (n := 2) (Nat.le_of_ble_eq_true rfl)
  rw [lg_entry_eq]
  generalize (lg_sl ([.ref (am 0), .int k]) ++ List.replicate (2 - (lg_sl ([.ref (am 0), .int k])).length) Slot.unset).toArray = ls at hl ⊢
  have hl : lv_has ls 2 [(0, .ref (am 0)), (1, .int k)] := hl
  refine lv_aload_n hx hb dX1_count_0 rfl (lv_at hl 0 rfl) ?_
  refine lv_iload_n hx hb dX1_count_1 rfl (lv_at hl 1 rfl) ?_
  refine lv_if_lt (tgt := 14) hx hb dX1_count_2 (by decide) (fun c1 => ?_) (fun c1 => ?_)
  · skip
    refine lv_iconst (v := 1) hx hb dX1_count_14 (by decide) ?_
    refine va_put (D := (dC, dI)) (ci := 1) (v := .int 1) (ty := .int) (C := RX1) (T := TX1) (N := 14) hx hb hw inX1 tyX1 tyX1_ok nmX1 hown hK hP hD hS 0 rfl rfl 0 (by decide) (hw _ wb_268) (fun _ h9 => h9) rfl (by decide +kernel) rfl rfl (Nat.le_of_ble_eq_true rfl) dX1_count_15 (fun H locs hP hD hS => ?_)
    have hP : va_P (dC, dI) cls2 (MW am ym (1, ct, th, fo, sg, sz, hc, fL, fN, fD, fH, fV, fM, fW)) H := hP
    have hD : va_D A (MW am ym (1, ct, th, fo, sg, sz, hc, fL, fN, fD, fH, fV, fM, fW)) := hD
    refine lv_aload_n hx hb dX1_count_18 rfl (lv_at hl 0 rfl) ?_
    refine va_get (D := (dC, dI)) (ci := 1) (v := .int 1) (C := RX1) (T := TX1) (N := 14) hx hb hw inX1 hown hK hP 0 rfl rfl 0 (by decide) (hw _ wb_268) (fun _ h9 => h9) rfl dX1_count_19 ?_
    refine lv_if_le (tgt := 29) hx hb dX1_count_22 (by decide) (fun c9 => ?_) (fun c9 => ?_)
    · skip
      exact absurd c9 (by decide)
    · skip
      refine lv_iconst (v := 0) hx hb dX1_count_25 (by decide) ?_
      refine lv_goto (tgt := 80) hx hb dX1_count_26 (by decide) ?_
      exact W.iret (v := 0) hx hb hrt (fun t ht hW => ⟨⟨_, _, rfl, Or.inl ⟨Or.inl c1, rfl, rfl⟩, by rw [ht]; exact hP, va_K.moved hW.alike hK, hD⟩, hS.F ht⟩) hS.2.2 dX1_count_80
  · skip
    refine lv_iload_n hx hb dX1_count_5 rfl (lv_at hl 1 rfl) ?_
    refine lv_iconst (v := 4) hx hb dX1_count_6 (by decide) ?_
    refine lv_icmp_gt (tgt := 14) hx hb dX1_count_7 (by decide) (fun c2 => ?_) (fun c2 => ?_)
    · skip
      refine lv_iconst (v := 1) hx hb dX1_count_14 (by decide) ?_
      refine va_put (D := (dC, dI)) (ci := 1) (v := .int 1) (ty := .int) (C := RX1) (T := TX1) (N := 14) hx hb hw inX1 tyX1 tyX1_ok nmX1 hown hK hP hD hS 0 rfl rfl 0 (by decide) (hw _ wb_268) (fun _ h9 => h9) rfl (by decide +kernel) rfl rfl (Nat.le_of_ble_eq_true rfl) dX1_count_15 (fun H locs hP hD hS => ?_)
      have hP : va_P (dC, dI) cls2 (MW am ym (1, ct, th, fo, sg, sz, hc, fL, fN, fD, fH, fV, fM, fW)) H := hP
      have hD : va_D A (MW am ym (1, ct, th, fo, sg, sz, hc, fL, fN, fD, fH, fV, fM, fW)) := hD
      refine lv_aload_n hx hb dX1_count_18 rfl (lv_at hl 0 rfl) ?_
      refine va_get (D := (dC, dI)) (ci := 1) (v := .int 1) (C := RX1) (T := TX1) (N := 14) hx hb hw inX1 hown hK hP 0 rfl rfl 0 (by decide) (hw _ wb_268) (fun _ h9 => h9) rfl dX1_count_19 ?_
      refine lv_if_le (tgt := 29) hx hb dX1_count_22 (by decide) (fun c9 => ?_) (fun c9 => ?_)
      · skip
        exact absurd c9 (by decide)
      · skip
        refine lv_iconst (v := 0) hx hb dX1_count_25 (by decide) ?_
        refine lv_goto (tgt := 80) hx hb dX1_count_26 (by decide) ?_
        exact W.iret (v := 0) hx hb hrt (fun t ht hW => ⟨⟨_, _, rfl, Or.inl ⟨Or.inr c2, rfl, rfl⟩, by rw [ht]; exact hP, va_K.moved hW.alike hK, hD⟩, hS.F ht⟩) hS.2.2 dX1_count_80
    · skip
      refine lv_iconst (v := 0) hx hb dX1_count_10 (by decide) ?_
      refine lv_goto (tgt := 15) hx hb dX1_count_11 (by decide) ?_
      refine va_put (D := (dC, dI)) (ci := 1) (v := .int 0) (ty := .int) (C := RX1) (T := TX1) (N := 14) hx hb hw inX1 tyX1 tyX1_ok nmX1 hown hK hP hD hS 0 rfl rfl 0 (by decide) (hw _ wb_268) (fun _ h9 => h9) rfl (by decide +kernel) rfl rfl (Nat.le_of_ble_eq_true rfl) dX1_count_15 (fun H locs hP hD hS => ?_)
      have hP : va_P (dC, dI) cls2 (MW am ym (0, ct, th, fo, sg, sz, hc, fL, fN, fD, fH, fV, fM, fW)) H := hP
      have hD : va_D A (MW am ym (0, ct, th, fo, sg, sz, hc, fL, fN, fD, fH, fV, fM, fW)) := hD
      refine lv_aload_n hx hb dX1_count_18 rfl (lv_at hl 0 rfl) ?_
      refine va_get (D := (dC, dI)) (ci := 1) (v := .int 0) (C := RX1) (T := TX1) (N := 14) hx hb hw inX1 hown hK hP 0 rfl rfl 0 (by decide) (hw _ wb_268) (fun _ h9 => h9) rfl dX1_count_19 ?_
      refine lv_if_le (tgt := 29) hx hb dX1_count_22 (by decide) (fun c9 => ?_) (fun c9 => ?_)
      · skip
        refine lv_iload_n hx hb dX1_count_29 rfl (lv_at hl 1 rfl) ?_
        refine lv_if_ne (tgt := 40) hx hb dX1_count_30 (by decide) (fun k0 => ?_) (fun k0 => ?_)
        · skip
          refine lv_iload_n hx hb dX1_count_40 rfl (lv_at hl 1 rfl) ?_
          refine lv_iconst (v := 1) hx hb dX1_count_41 (by decide) ?_
          refine lv_icmp_ne (tgt := 52) hx hb dX1_count_42 (by decide) (fun k1 => ?_) (fun k1 => ?_)
          · skip
            refine lv_iload_n hx hb dX1_count_52 rfl (lv_at hl 1 rfl) ?_
            refine lv_iconst (v := 2) hx hb dX1_count_53 (by decide) ?_
            refine lv_icmp_ne (tgt := 64) hx hb dX1_count_54 (by decide) (fun k2 => ?_) (fun k2 => ?_)
            · skip
              refine lv_iload_n hx hb dX1_count_64 rfl (lv_at hl 1 rfl) ?_
              refine lv_iconst (v := 3) hx hb dX1_count_65 (by decide) ?_
              refine lv_icmp_ne (tgt := 76) hx hb dX1_count_66 (by decide) (fun k3 => ?_) (fun k3 => ?_)
              · skip
                refine lv_aload_n hx hb dX1_count_76 rfl (lv_at hl 0 rfl) ?_
                refine va_get (D := (dC, dI)) (ci := 1) (v := .int hc) (C := RX1) (T := TX1) (N := 14) hx hb hw inX1 hown hK hP 0 rfl rfl 9 (by decide) (hw _ wb_277) (fun _ h9 => h9) rfl dX1_count_77 ?_
                exact W.iret (v := hc) hx hb hrt (fun t ht hW => ⟨⟨_, _, rfl, Or.inr ⟨fun h => h.elim c1 c2, by rw [if_neg k0, if_neg k1, if_neg k2, if_neg k3], rfl⟩, by rw [ht]; exact hP, va_K.moved hW.alike hK, hD⟩, hS.F ht⟩) hS.2.2 dX1_count_80
              · skip
                refine lv_aload_n hx hb dX1_count_69 rfl (lv_at hl 0 rfl) ?_
                refine va_get (D := (dC, dI)) (ci := 1) (v := .int sz) (C := RX1) (T := TX1) (N := 14) hx hb hw inX1 hown hK hP 0 rfl rfl 7 (by decide) (hw _ wb_275) (fun _ h9 => h9) rfl dX1_count_70 ?_
                refine lv_goto (tgt := 80) hx hb dX1_count_73 (by decide) ?_
                exact W.iret (v := sz) hx hb hrt (fun t ht hW => ⟨⟨_, _, rfl, Or.inr ⟨fun h => h.elim c1 c2, by rw [if_neg k0, if_neg k1, if_neg k2, if_pos k3], rfl⟩, by rw [ht]; exact hP, va_K.moved hW.alike hK, hD⟩, hS.F ht⟩) hS.2.2 dX1_count_80
            · skip
              refine lv_aload_n hx hb dX1_count_57 rfl (lv_at hl 0 rfl) ?_
              refine va_get (D := (dC, dI)) (ci := 1) (v := .int fo) (C := RX1) (T := TX1) (N := 14) hx hb hw inX1 hown hK hP 0 rfl rfl 3 (by decide) (hw _ wb_271) (fun _ h9 => h9) rfl dX1_count_58 ?_
              refine lv_goto (tgt := 80) hx hb dX1_count_61 (by decide) ?_
              exact W.iret (v := fo) hx hb hrt (fun t ht hW => ⟨⟨_, _, rfl, Or.inr ⟨fun h => h.elim c1 c2, by rw [if_neg k0, if_neg k1, if_pos k2], rfl⟩, by rw [ht]; exact hP, va_K.moved hW.alike hK, hD⟩, hS.F ht⟩) hS.2.2 dX1_count_80
          · skip
            refine lv_aload_n hx hb dX1_count_45 rfl (lv_at hl 0 rfl) ?_
            refine va_get (D := (dC, dI)) (ci := 1) (v := .int th) (C := RX1) (T := TX1) (N := 14) hx hb hw inX1 hown hK hP 0 rfl rfl 2 (by decide) (hw _ wb_270) (fun _ h9 => h9) rfl dX1_count_46 ?_
            refine lv_goto (tgt := 80) hx hb dX1_count_49 (by decide) ?_
            exact W.iret (v := th) hx hb hrt (fun t ht hW => ⟨⟨_, _, rfl, Or.inr ⟨fun h => h.elim c1 c2, by rw [if_neg k0, if_pos k1], rfl⟩, by rw [ht]; exact hP, va_K.moved hW.alike hK, hD⟩, hS.F ht⟩) hS.2.2 dX1_count_80
        · skip
          refine lv_aload_n hx hb dX1_count_33 rfl (lv_at hl 0 rfl) ?_
          refine va_get (D := (dC, dI)) (ci := 1) (v := .int ct) (C := RX1) (T := TX1) (N := 14) hx hb hw inX1 hown hK hP 0 rfl rfl 1 (by decide) (hw _ wb_269) (fun _ h9 => h9) rfl dX1_count_34 ?_
          refine lv_goto (tgt := 80) hx hb dX1_count_37 (by decide) ?_
          exact W.iret (v := ct) hx hb hrt (fun t ht hW => ⟨⟨_, _, rfl, Or.inr ⟨fun h => h.elim c1 c2, by rw [if_pos k0], rfl⟩, by rw [ht]; exact hP, va_K.moved hW.alike hK, hD⟩, hS.F ht⟩) hS.2.2 dX1_count_80
      · skip
        exact absurd (by decide) c9
set_option maxHeartbeats 4000000 in
set_option maxRecDepth 100000 in
/-- drop -/
theorem n_drop (l : Launch) (dC : Nat → ClassId) (dI : Nat → Nat → Nat) (am : Nat → Nat) (ym : Nat → ClassId) (sz0 : Nat) (co ct th fo sg sz hc : Int32) (fL fN fD fH fV : Nat → Int32) (fM fW : Nat → Int64) (k : Int32) (n : Nat) (hn : n ≤ 600) (ect : ct = nI n) : Met l yX1_drop wsX1_drop (rmN 1 0 0) (va_Pc [.ref (am 0), .int k] (preM dC dI am ym sz0 (co, ct, th, fo, sg, sz, hc, fL, fN, fD, fH, fV, fM, fW))) (va_Qi (fun (r : Int32) (u : MS) => (mt_b ct fN k = 0 ∧ r = 0 ∧ u = (1, ct, th, fo, sg, sz, hc, fL, fN, fD, fH, fV, fM, fW)) ∨ (mt_b ct fN k ≠ 0 ∧ r = fN k.toNatClampNeg ∧ u = (0, ct, th - 1, fo, sg, sz, hc, fL, upd fN k.toNatClampNeg (-1), fD, fH, fV, fM, fW))) (atM dC dI (va_A (MW am ym (co, ct, th, fo, sg, sz, hc, fL, fN, fD, fH, fV, fM, fW)) sz0) am ym) (va_A (MW am ym (co, ct, th, fo, sg, sz, hc, fL, fN, fD, fH, fV, fM, fW)) sz0)) 0 0 (va_A (MW am ym (co, ct, th, fo, sg, sz, hc, fL, fN, fD, fH, fV, fM, fW)) sz0) := by
  refine Met.ofW (cc := cX1_drop) (maxL := 3) (ret := (some .int)) (by decide) rfl ?_
  intro p e s m args below meth c s₁ B hml hv
  obtain ⟨rfl, hsz, hP, hK, hD0⟩ := hv
  have hx := B.exec
  have hb := B.bytes
  have hrt := B.returns
  have hlocks := B.notSynchronized
  have hts := atoms_spec (ws := wsX1_drop) B.pre
  have hw : ∀ w ∈ WB, w.before ([.ref (am 0), .int k] : List Value).toArray s = true := fun w h => hts w (List.mem_cons_of_mem _ h)
  have hown : s.vm.findClass "ProofBenchModel" = some m.cls := findClass_of_methodNamed B.named
  subst hsz
  have hD := hD0.self (sz := s.heap.size)
  generalize hAe : va_A (MW am ym (co, ct, th, fo, sg, sz, hc, fL, fN, fD, fH, fV, fM, fW)) s.heap.size = A at hD ⊢
  have hA : ∀ q : Nat, s.heap.size ≤ q → A q := fun q h => by rw [← hAe]; exact Or.inr h
  have hS : va_S A s.heap s.heap [] := va_S.rf
  have hP : va_P (dC, dI) cls2 (MW am ym (co, ct, th, fo, sg, sz, hc, fL, fN, fD, fH, fV, fM, fW)) s.heap := hP
  have hl := lv_entry ([.ref (am 0), .int k]) (n := 3) (Nat.le_of_ble_eq_true rfl)
  rw [lg_entry_eq]
  generalize (lg_sl ([.ref (am 0), .int k]) ++ List.replicate (3 - (lg_sl ([.ref (am 0), .int k])).length) Slot.unset).toArray = ls at hl ⊢
  have hl : lv_has ls 3 [(0, .ref (am 0)), (1, .int k)] := hl
  refine lv_aload_n hx hb dX1_drop_0 rfl (lv_at hl 0 rfl) ?_
  refine lv_aload_n hx hb dX1_drop_1 rfl (lv_at hl 0 rfl) ?_
  refine lv_iload_n hx hb dX1_drop_2 rfl (lv_at hl 1 rfl) ?_
  refine vp_callSi (W.runV (As := [.int k]) (rest := [.ref (am 0)]) ⟨hx, hb, hml, hown, hw⟩ (n_isThere l dC dI am ym co ct th fo sg sz hc fL fN fD fH fV fM fW k n hn ect) (cwV 1 hw (gw_V wb_375 wb_377 wbs_16 wb_2 wb_378) rfl rfl rfl (by decide +kernel) ⟨Nat.le_of_ble_eq_true rfl, Nat.le_of_ble_eq_true rfl⟩) ⟨blind_rdM, va_recv hK hP (ci := 1) (q0 := 0) rfl rfl, fun U hU hW => ⟨rfl, by rw [hU]; exact hP, va_K.moved hW.alike hK⟩⟩ rfl rfl hl.1 rfl (lv_room (Nat.le_of_ble_eq_true rfl)) dX1_drop_3 ⟨Nat.le_of_ble_eq_true rfl, Nat.le_of_ble_eq_true rfl⟩) (fun r1 h1 => ?_)
  subst h1
  refine lv_if_eq (tgt := 13) hx hb dX1_drop_6 (by decide) (fun c1 => ?_) (fun c1 => ?_)
  · skip
    refine lv_iconst (v := 1) hx hb dX1_drop_13 (by decide) ?_
    refine va_put (D := (dC, dI)) (ci := 1) (v := .int 1) (ty := .int) (C := RX1) (T := TX1) (N := 14) hx hb hw inX1 tyX1 tyX1_ok nmX1 hown hK hP hD hS 0 rfl rfl 0 (by decide) (hw _ wb_268) (fun _ h9 => h9) rfl (by decide +kernel) rfl rfl (Nat.le_of_ble_eq_true rfl) dX1_drop_14 (fun H locs hP hD hS => ?_)
    have hP : va_P (dC, dI) cls2 (MW am ym (1, ct, th, fo, sg, sz, hc, fL, fN, fD, fH, fV, fM, fW)) H := hP
    have hD : va_D A (MW am ym (1, ct, th, fo, sg, sz, hc, fL, fN, fD, fH, fV, fM, fW)) := hD
    refine lv_aload_n hx hb dX1_drop_17 rfl (lv_at hl 0 rfl) ?_
    refine va_get (D := (dC, dI)) (ci := 1) (v := .int 1) (C := RX1) (T := TX1) (N := 14) hx hb hw inX1 hown hK hP 0 rfl rfl 0 (by decide) (hw _ wb_268) (fun _ h9 => h9) rfl dX1_drop_18 ?_
    refine lv_if_le (tgt := 26) hx hb dX1_drop_21 (by decide) (fun c9 => ?_) (fun c9 => ?_)
    · skip
      exact absurd c9 (by decide)
    · skip
      refine lv_iconst (v := 0) hx hb dX1_drop_24 (by decide) ?_
      exact W.iret (v := 0) hx hb hrt (fun t ht hW => ⟨⟨_, _, rfl, Or.inl ⟨c1, rfl, rfl⟩, by rw [ht]; exact hP, va_K.moved hW.alike hK, hD⟩, hS.F ht⟩) hS.2.2 dX1_drop_25
  · skip
    refine lv_iconst (v := 0) hx hb dX1_drop_9 (by decide) ?_
    refine lv_goto (tgt := 14) hx hb dX1_drop_10 (by decide) ?_
    refine va_put (D := (dC, dI)) (ci := 1) (v := .int 0) (ty := .int) (C := RX1) (T := TX1) (N := 14) hx hb hw inX1 tyX1 tyX1_ok nmX1 hown hK hP hD hS 0 rfl rfl 0 (by decide) (hw _ wb_268) (fun _ h9 => h9) rfl (by decide +kernel) rfl rfl (Nat.le_of_ble_eq_true rfl) dX1_drop_14 (fun H locs hP hD hS => ?_)
    have hP : va_P (dC, dI) cls2 (MW am ym (0, ct, th, fo, sg, sz, hc, fL, fN, fD, fH, fV, fM, fW)) H := hP
    have hD : va_D A (MW am ym (0, ct, th, fo, sg, sz, hc, fL, fN, fD, fH, fV, fM, fW)) := hD
    refine lv_aload_n hx hb dX1_drop_17 rfl (lv_at hl 0 rfl) ?_
    refine va_get (D := (dC, dI)) (ci := 1) (v := .int 0) (C := RX1) (T := TX1) (N := 14) hx hb hw inX1 hown hK hP 0 rfl rfl 0 (by decide) (hw _ wb_268) (fun _ h9 => h9) rfl dX1_drop_18 ?_
    refine lv_if_le (tgt := 26) hx hb dX1_drop_21 (by decide) (fun c9 => ?_) (fun c9 => ?_)
    · skip
      have hin : vp_in k 600 := mt_in ect hn c1
      refine lv_aload_n hx hb dX1_drop_26 rfl (lv_at hl 0 rfl) ?_
      refine va_get (D := (dC, dI)) (ci := 1) (v := .ref (am 2)) (C := RX1) (T := TX1) (N := 14) hx hb hw inX1 hown hK hP 0 rfl rfl 6 (by decide) (hw _ wb_274) (fun _ h9 => h9) rfl dX1_drop_27 ?_
      refine lv_iload_n hx hb dX1_drop_30 rfl (lv_at hl 1 rfl) ?_
      refine va_iald hx hb hK hP 2 1 rfl rfl hin dX1_drop_31 ?_
      refine lv_istore_n (lv' := [(2, .int (fN k.toNatClampNeg)), (0, .ref (am 0)), (1, .int k)]) hx hb dX1_drop_32 rfl hl (by decide) rfl (fun ls hl => ?_)
      refine lv_aload_n hx hb dX1_drop_33 rfl (lv_at hl 1 rfl) ?_
      refine va_get (D := (dC, dI)) (ci := 1) (v := .ref (am 2)) (C := RX1) (T := TX1) (N := 14) hx hb hw inX1 hown hK hP 0 rfl rfl 6 (by decide) (hw _ wb_274) (fun _ h9 => h9) rfl dX1_drop_34 ?_
      refine lv_iload_n hx hb dX1_drop_37 rfl (lv_at hl 2 rfl) ?_
      refine lv_iconst (v := (-1)) hx hb dX1_drop_38 (by decide) ?_
      refine va_iast hx hb hK hP hD hS 2 1 rfl rfl hin dX1_drop_39 (fun H locs hP hD hS => ?_)
      have hP : va_P (dC, dI) cls2 (MW am ym (0, ct, th, fo, sg, sz, hc, fL, upd fN k.toNatClampNeg (-1), fD, fH, fV, fM, fW)) H := hP
      have hD : va_D A (MW am ym (0, ct, th, fo, sg, sz, hc, fL, upd fN k.toNatClampNeg (-1), fD, fH, fV, fM, fW)) := hD
      refine lv_aload_n hx hb dX1_drop_40 rfl (lv_at hl 1 rfl) ?_
      refine lv_dup hx hb dX1_drop_41 rfl ?_
      refine va_get (D := (dC, dI)) (ci := 1) (v := .int th) (C := RX1) (T := TX1) (N := 14) hx hb hw inX1 hown hK hP 0 rfl rfl 2 (by decide) (hw _ wb_270) (fun _ h9 => h9) rfl dX1_drop_42 ?_
      refine lv_iconst (v := 1) hx hb dX1_drop_45 (by decide) ?_
      refine lv_isub hx hb dX1_drop_46 ?_
      refine va_put (D := (dC, dI)) (ci := 1) (v := .int (th - 1)) (ty := .int) (C := RX1) (T := TX1) (N := 14) hx hb hw inX1 tyX1 tyX1_ok nmX1 hown hK hP hD hS 0 rfl rfl 2 (by decide) (hw _ wb_270) (fun _ h9 => h9) rfl (by decide +kernel) rfl rfl (Nat.le_of_ble_eq_true rfl) dX1_drop_47 (fun H locs hP hD hS => ?_)
      have hP : va_P (dC, dI) cls2 (MW am ym (0, ct, th - 1, fo, sg, sz, hc, fL, upd fN k.toNatClampNeg (-1), fD, fH, fV, fM, fW)) H := hP
      have hD : va_D A (MW am ym (0, ct, th - 1, fo, sg, sz, hc, fL, upd fN k.toNatClampNeg (-1), fD, fH, fV, fM, fW)) := hD
      refine lv_iload_n hx hb dX1_drop_50 rfl (lv_at hl 0 rfl) ?_
      exact W.iret (v := fN k.toNatClampNeg) hx hb hrt (fun t ht hW => ⟨⟨_, _, rfl, Or.inr ⟨c1, rfl, rfl⟩, by rw [ht]; exact hP, va_K.moved hW.alike hK, hD⟩, hS.F ht⟩) hS.2.2 dX1_drop_51
    · skip
      exact absurd (by decide) c9
set_option maxHeartbeats 4000000 in
set_option maxRecDepth 100000 in
/-- at -/
theorem n_at (l : Launch) (dC : Nat → ClassId) (dI : Nat → Nat → Nat) (am : Nat → Nat) (ym : Nat → ClassId) (sz0 : Nat) (co ct th fo sg sz hc : Int32) (fL fN fD fH fV : Nat → Int32) (fM fW : Nat → Int64) (k : Int32) (i : Int32) (n : Nat) (hn : n ≤ 600) (ect : ct = nI n) (hat : mt_b ct fN k ≠ 0 → ¬ i < 0 → i < fN k.toNatClampNeg → vp_in (16 * k + i) 9600) : Met l yX1_at wsX1_at (rmN 1 0 0) (va_Pc [.ref (am 0), .int k, .int i] (preM dC dI am ym sz0 (co, ct, th, fo, sg, sz, hc, fL, fN, fD, fH, fV, fM, fW))) (va_Qi (fun (r : Int32) (u : MS) => ((mt_b ct fN k = 0 ∨ i < 0) ∧ r = 0 ∧ u = (1, ct, th, fo, sg, sz, hc, fL, fN, fD, fH, fV, fM, fW)) ∨ (mt_b ct fN k ≠ 0 ∧ ¬ i < 0 ∧ r = (if i < fN k.toNatClampNeg then fL (16 * k + i).toNatClampNeg else 0) ∧ u = (0, ct, th, fo, sg, sz, hc, fL, fN, fD, fH, fV, fM, fW))) (atM dC dI (va_A (MW am ym (co, ct, th, fo, sg, sz, hc, fL, fN, fD, fH, fV, fM, fW)) sz0) am ym) (va_A (MW am ym (co, ct, th, fo, sg, sz, hc, fL, fN, fD, fH, fV, fM, fW)) sz0)) 0 0 (va_A (MW am ym (co, ct, th, fo, sg, sz, hc, fL, fN, fD, fH, fV, fM, fW)) sz0) := by
  refine Met.ofW (cc := cX1_at) (maxL := 3) (ret := (some .int)) (by decide) rfl ?_
  intro p e s m args below meth c s₁ B hml hv
  obtain ⟨rfl, hsz, hP, hK, hD0⟩ := hv
  have hx := B.exec
  have hb := B.bytes
  have hrt := B.returns
  have hlocks := B.notSynchronized
  have hts := atoms_spec (ws := wsX1_at) B.pre
  have hw : ∀ w ∈ WB, w.before ([.ref (am 0), .int k, .int i] : List Value).toArray s = true := fun w h => hts w (List.mem_cons_of_mem _ h)
  have hown : s.vm.findClass "ProofBenchModel" = some m.cls := findClass_of_methodNamed B.named
  subst hsz
  have hD := hD0.self (sz := s.heap.size)
  generalize hAe : va_A (MW am ym (co, ct, th, fo, sg, sz, hc, fL, fN, fD, fH, fV, fM, fW)) s.heap.size = A at hD ⊢
  have hA : ∀ q : Nat, s.heap.size ≤ q → A q := fun q h => by rw [← hAe]; exact Or.inr h
  have hS : va_S A s.heap s.heap [] := va_S.rf
  have hP : va_P (dC, dI) cls2 (MW am ym (co, ct, th, fo, sg, sz, hc, fL, fN, fD, fH, fV, fM, fW)) s.heap := hP
  have hl := lv_entry ([.ref (am 0), .int k, .int i]) (n := 3) (Nat.le_of_ble_eq_true rfl)
  rw [lg_entry_eq]
  generalize (lg_sl ([.ref (am 0), .int k, .int i]) ++ List.replicate (3 - (lg_sl ([.ref (am 0), .int k, .int i])).length) Slot.unset).toArray = ls at hl ⊢
  have hl : lv_has ls 3 [(0, .ref (am 0)), (1, .int k), (2, .int i)] := hl
  refine lv_aload_n hx hb dX1_at_0 rfl (lv_at hl 0 rfl) ?_
  refine lv_aload_n hx hb dX1_at_1 rfl (lv_at hl 0 rfl) ?_
  refine lv_iload_n hx hb dX1_at_2 rfl (lv_at hl 1 rfl) ?_
  refine vp_callSi (W.runV (As := [.int k]) (rest := [.ref (am 0)]) ⟨hx, hb, hml, hown, hw⟩ (n_isThere l dC dI am ym co ct th fo sg sz hc fL fN fD fH fV fM fW k n hn ect) (cwV 1 hw (gw_V wb_375 wb_377 wbs_16 wb_2 wb_378) rfl rfl rfl (by decide +kernel) ⟨Nat.le_of_ble_eq_true rfl, Nat.le_of_ble_eq_true rfl⟩) ⟨blind_rdM, va_recv hK hP (ci := 1) (q0 := 0) rfl rfl, fun U hU hW => ⟨rfl, by rw [hU]; exact hP, va_K.moved hW.alike hK⟩⟩ rfl rfl hl.1 rfl (lv_room (Nat.le_of_ble_eq_true rfl)) dX1_at_3 ⟨Nat.le_of_ble_eq_true rfl, Nat.le_of_ble_eq_true rfl⟩) (fun r1 h1 => ?_)
  subst h1
  refine lv_if_eq (tgt := 17) hx hb dX1_at_6 (by decide) (fun c1 => ?_) (fun c1 => ?_)
  · skip
    refine lv_iconst (v := 1) hx hb dX1_at_17 (by decide) ?_
    refine va_put (D := (dC, dI)) (ci := 1) (v := .int 1) (ty := .int) (C := RX1) (T := TX1) (N := 14) hx hb hw inX1 tyX1 tyX1_ok nmX1 hown hK hP hD hS 0 rfl rfl 0 (by decide) (hw _ wb_268) (fun _ h9 => h9) rfl (by decide +kernel) rfl rfl (Nat.le_of_ble_eq_true rfl) dX1_at_18 (fun H locs hP hD hS => ?_)
    have hP : va_P (dC, dI) cls2 (MW am ym (1, ct, th, fo, sg, sz, hc, fL, fN, fD, fH, fV, fM, fW)) H := hP
    have hD : va_D A (MW am ym (1, ct, th, fo, sg, sz, hc, fL, fN, fD, fH, fV, fM, fW)) := hD
    refine lv_aload_n hx hb dX1_at_21 rfl (lv_at hl 0 rfl) ?_
    refine va_get (D := (dC, dI)) (ci := 1) (v := .int 1) (C := RX1) (T := TX1) (N := 14) hx hb hw inX1 hown hK hP 0 rfl rfl 0 (by decide) (hw _ wb_268) (fun _ h9 => h9) rfl dX1_at_22 ?_
    refine lv_if_gt (tgt := 38) hx hb dX1_at_25 (by decide) (fun c9 => ?_) (fun c9 => ?_)
    · skip
      refine lv_iconst (v := 0) hx hb dX1_at_38 (by decide) ?_
      refine lv_goto (tgt := 53) hx hb dX1_at_39 (by decide) ?_
      exact W.iret (v := 0) hx hb hrt (fun t ht hW => ⟨⟨_, _, rfl, Or.inl ⟨Or.inl c1, rfl, rfl⟩, by rw [ht]; exact hP, va_K.moved hW.alike hK, hD⟩, hS.F ht⟩) hS.2.2 dX1_at_53
    · skip
      exact absurd (by decide) c9
  · skip
    refine lv_iload_n hx hb dX1_at_9 rfl (lv_at hl 2 rfl) ?_
    refine lv_if_lt (tgt := 17) hx hb dX1_at_10 (by decide) (fun c2 => ?_) (fun c2 => ?_)
    · skip
      refine lv_iconst (v := 1) hx hb dX1_at_17 (by decide) ?_
      refine va_put (D := (dC, dI)) (ci := 1) (v := .int 1) (ty := .int) (C := RX1) (T := TX1) (N := 14) hx hb hw inX1 tyX1 tyX1_ok nmX1 hown hK hP hD hS 0 rfl rfl 0 (by decide) (hw _ wb_268) (fun _ h9 => h9) rfl (by decide +kernel) rfl rfl (Nat.le_of_ble_eq_true rfl) dX1_at_18 (fun H locs hP hD hS => ?_)
      have hP : va_P (dC, dI) cls2 (MW am ym (1, ct, th, fo, sg, sz, hc, fL, fN, fD, fH, fV, fM, fW)) H := hP
      have hD : va_D A (MW am ym (1, ct, th, fo, sg, sz, hc, fL, fN, fD, fH, fV, fM, fW)) := hD
      refine lv_aload_n hx hb dX1_at_21 rfl (lv_at hl 0 rfl) ?_
      refine va_get (D := (dC, dI)) (ci := 1) (v := .int 1) (C := RX1) (T := TX1) (N := 14) hx hb hw inX1 hown hK hP 0 rfl rfl 0 (by decide) (hw _ wb_268) (fun _ h9 => h9) rfl dX1_at_22 ?_
      refine lv_if_gt (tgt := 38) hx hb dX1_at_25 (by decide) (fun c9 => ?_) (fun c9 => ?_)
      · skip
        refine lv_iconst (v := 0) hx hb dX1_at_38 (by decide) ?_
        refine lv_goto (tgt := 53) hx hb dX1_at_39 (by decide) ?_
        exact W.iret (v := 0) hx hb hrt (fun t ht hW => ⟨⟨_, _, rfl, Or.inl ⟨Or.inr c2, rfl, rfl⟩, by rw [ht]; exact hP, va_K.moved hW.alike hK, hD⟩, hS.F ht⟩) hS.2.2 dX1_at_53
      · skip
        exact absurd (by decide) c9
    · skip
      refine lv_iconst (v := 0) hx hb dX1_at_13 (by decide) ?_
      refine lv_goto (tgt := 18) hx hb dX1_at_14 (by decide) ?_
      refine va_put (D := (dC, dI)) (ci := 1) (v := .int 0) (ty := .int) (C := RX1) (T := TX1) (N := 14) hx hb hw inX1 tyX1 tyX1_ok nmX1 hown hK hP hD hS 0 rfl rfl 0 (by decide) (hw _ wb_268) (fun _ h9 => h9) rfl (by decide +kernel) rfl rfl (Nat.le_of_ble_eq_true rfl) dX1_at_18 (fun H locs hP hD hS => ?_)
      have hP : va_P (dC, dI) cls2 (MW am ym (0, ct, th, fo, sg, sz, hc, fL, fN, fD, fH, fV, fM, fW)) H := hP
      have hD : va_D A (MW am ym (0, ct, th, fo, sg, sz, hc, fL, fN, fD, fH, fV, fM, fW)) := hD
      refine lv_aload_n hx hb dX1_at_21 rfl (lv_at hl 0 rfl) ?_
      refine va_get (D := (dC, dI)) (ci := 1) (v := .int 0) (C := RX1) (T := TX1) (N := 14) hx hb hw inX1 hown hK hP 0 rfl rfl 0 (by decide) (hw _ wb_268) (fun _ h9 => h9) rfl dX1_at_22 ?_
      refine lv_if_gt (tgt := 38) hx hb dX1_at_25 (by decide) (fun c9 => ?_) (fun c9 => ?_)
      · skip
        exact absurd c9 (by decide)
      · skip
        have hin : vp_in k 600 := mt_in ect hn c1
        refine lv_iload_n hx hb dX1_at_28 rfl (lv_at hl 2 rfl) ?_
        refine lv_aload_n hx hb dX1_at_29 rfl (lv_at hl 0 rfl) ?_
        refine va_get (D := (dC, dI)) (ci := 1) (v := .ref (am 2)) (C := RX1) (T := TX1) (N := 14) hx hb hw inX1 hown hK hP 0 rfl rfl 6 (by decide) (hw _ wb_274) (fun _ h9 => h9) rfl dX1_at_30 ?_
        refine lv_iload_n hx hb dX1_at_33 rfl (lv_at hl 1 rfl) ?_
        refine va_iald hx hb hK hP 2 1 rfl rfl hin dX1_at_34 ?_
        refine lv_icmp_lt (tgt := 42) hx hb dX1_at_35 (by decide) (fun c3 => ?_) (fun c3 => ?_)
        · skip
          refine lv_aload_n hx hb dX1_at_42 rfl (lv_at hl 0 rfl) ?_
          refine va_get (D := (dC, dI)) (ci := 1) (v := .ref (am 1)) (C := RX1) (T := TX1) (N := 14) hx hb hw inX1 hown hK hP 0 rfl rfl 5 (by decide) (hw _ wb_273) (fun _ h9 => h9) rfl dX1_at_43 ?_
          refine lv_bipush (v := 16) hx hb dX1_at_46 (by decide) ?_
          refine lv_iload_n hx hb dX1_at_48 rfl (lv_at hl 1 rfl) ?_
          refine lv_imul hx hb dX1_at_49 ?_
          refine lv_iload_n hx hb dX1_at_50 rfl (lv_at hl 2 rfl) ?_
          refine lv_iadd hx hb dX1_at_51 ?_
          refine va_iald hx hb hK hP 1 0 rfl rfl (hat c1 c2 c3) dX1_at_52 ?_
          exact W.iret (v := fL ((16 * k) + i).toNatClampNeg) hx hb hrt (fun t ht hW => ⟨⟨_, _, rfl, Or.inr ⟨c1, c2, by rw [if_pos c3], rfl⟩, by rw [ht]; exact hP, va_K.moved hW.alike hK, hD⟩, hS.F ht⟩) hS.2.2 dX1_at_53
        · skip
          refine lv_iconst (v := 0) hx hb dX1_at_38 (by decide) ?_
          refine lv_goto (tgt := 53) hx hb dX1_at_39 (by decide) ?_
          exact W.iret (v := 0) hx hb hrt (fun t ht hW => ⟨⟨_, _, rfl, Or.inr ⟨c1, c2, by rw [if_neg c3], rfl⟩, by rw [ht]; exact hP, va_K.moved hW.alike hK, hD⟩, hS.F ht⟩) hS.2.2 dX1_at_53
set_option maxHeartbeats 4000000 in
set_option maxRecDepth 100000 in
/-- of -/
theorem n_of (l : Launch) (dC : Nat → ClassId) (dI : Nat → Nat → Nat) (am : Nat → Nat) (ym : Nat → ClassId) (co ct th fo sg sz hc : Int32) (fL fN fD fH fV : Nat → Int32) (fM fW : Nat → Int64) (k : Int32) (hb1 : ¬ k < -16) (hb2 : ¬ 16 < k) : Met l yX1_of wsX1_of (rmN 0 0 0) (va_Pc [.ref (am 0), .int k] (rdM dC dI am ym (co, ct, th, fo, sg, sz, hc, fL, fN, fD, fH, fV, fM, fW))) (vp_Si (fun r => r = of_v fV k)) 0 0 (fun _ => False) := by
  refine Met.ofW (cc := cX1_of) (maxL := 3) (ret := (some .int)) (by decide) rfl ?_
  intro p e s m args below meth c s₁ B hml hv
  obtain ⟨rfl, hP, hK⟩ := hv
  have hx := B.exec
  have hb := B.bytes
  have hrt := B.returns
  have hlocks := B.notSynchronized
  have hts := atoms_spec (ws := wsX1_of) B.pre
  have hw : ∀ w ∈ WB, w.before ([.ref (am 0), .int k] : List Value).toArray s = true := fun w h => hts w (List.mem_cons_of_mem _ h)
  have hown : s.vm.findClass "ProofBenchModel" = some m.cls := findClass_of_methodNamed B.named
  have hP : va_P (dC, dI) cls2 (MW am ym (co, ct, th, fo, sg, sz, hc, fL, fN, fD, fH, fV, fM, fW)) s.heap := hP
  have hl := lv_entry ([.ref (am 0), .int k]) (n := 3) (Nat.le_of_ble_eq_true rfl)
  rw [lg_entry_eq]
  generalize (lg_sl ([.ref (am 0), .int k]) ++ List.replicate (3 - (lg_sl ([.ref (am 0), .int k])).length) Slot.unset).toArray = ls at hl ⊢
  have hl : lv_has ls 3 [(0, .ref (am 0)), (1, .int k)] := hl
  refine lv_aload_n hx hb dX1_of_0 rfl (lv_at hl 0 rfl) ?_
  refine va_get (D := (dC, dI)) (ci := 1) (v := .ref (am 5)) (C := RX1) (T := TX1) (N := 14) hx hb hw inX1 hown hK hP 0 rfl rfl 11 (by decide) (hw _ wb_279) (fun _ h9 => h9) rfl dX1_of_1 ?_
  refine lv_iload_n hx hb dX1_of_4 rfl (lv_at hl 1 rfl) ?_
  refine lv_if_le (tgt := 12) hx hb dX1_of_5 (by decide) (fun c1 => ?_) (fun c1 => ?_)
  · skip
    have eab : lt_abs k = -k := by rw [lt_abs, if_neg (Int32.not_lt.mpr c1)]
    refine lv_iload_n hx hb dX1_of_12 rfl (lv_at hl 1 rfl) ?_
    refine lv_ineg hx hb dX1_of_13 ?_
    refine lv_topi (fun v9 ev9 => ?_)
    have ev9 : v9 = lt_abs k := ev9.trans eab.symm
    subst ev9
    refine va_iald hx hb hK hP 5 4 rfl rfl (ab_in hb1 hb2) dX1_of_14 ?_
    refine lv_topi (fun v8 ev8 => ?_)
    refine lv_istore_n (lv' := [(2, .int v8), (0, .ref (am 0)), (1, .int k)]) hx hb dX1_of_15 rfl hl (by decide) rfl (fun ls hl => ?_)
    refine lv_iload_n hx hb dX1_of_16 rfl (lv_at hl 0 rfl) ?_
    refine lv_if_eq (tgt := 24) hx hb dX1_of_17 (by decide) (fun c2 => ?_) (fun c2 => ?_)
    · skip
      refine lv_iload_n hx hb dX1_of_24 rfl (lv_at hl 0 rfl) ?_
      refine lv_goto (tgt := 31) hx hb dX1_of_25 (by decide) ?_
      exact W.iret (v := v8) hx hb hrt (fun t ht hW => ⟨_, rfl, by rw [of_v, ← ev8, if_pos c2]; exact c2, ht⟩) (fun q h => nomatch h) dX1_of_31
    · skip
      refine lv_iload_n hx hb dX1_of_20 rfl (lv_at hl 2 rfl) ?_
      refine lv_if_le (tgt := 28) hx hb dX1_of_21 (by decide) (fun c3 => ?_) (fun c3 => ?_)
      · skip
        refine lv_iconst (v := 3) hx hb dX1_of_28 (by decide) ?_
        refine lv_iload_n hx hb dX1_of_29 rfl (lv_at hl 0 rfl) ?_
        refine lv_isub hx hb dX1_of_30 ?_
        exact W.iret (v := 3 - v8) hx hb hrt (fun t ht hW => ⟨_, rfl, by rw [of_v, ← ev8, if_neg c2, if_neg (Int32.not_lt.mpr c1)], ht⟩) (fun q h => nomatch h) dX1_of_31
      · skip
        exact absurd c1 c3
  · skip
    have eab : lt_abs k = k := by rw [lt_abs, if_pos (Int32.not_le.mp c1)]
    refine lv_iload_n hx hb dX1_of_8 rfl (lv_at hl 1 rfl) ?_
    refine lv_goto (tgt := 14) hx hb dX1_of_9 (by decide) ?_
    refine lv_topi (fun v9 ev9 => ?_)
    have ev9 : v9 = lt_abs k := ev9.trans eab.symm
    subst ev9
    refine va_iald hx hb hK hP 5 4 rfl rfl (ab_in hb1 hb2) dX1_of_14 ?_
    refine lv_topi (fun v8 ev8 => ?_)
    refine lv_istore_n (lv' := [(2, .int v8), (0, .ref (am 0)), (1, .int k)]) hx hb dX1_of_15 rfl hl (by decide) rfl (fun ls hl => ?_)
    refine lv_iload_n hx hb dX1_of_16 rfl (lv_at hl 0 rfl) ?_
    refine lv_if_eq (tgt := 24) hx hb dX1_of_17 (by decide) (fun c2 => ?_) (fun c2 => ?_)
    · skip
      refine lv_iload_n hx hb dX1_of_24 rfl (lv_at hl 0 rfl) ?_
      refine lv_goto (tgt := 31) hx hb dX1_of_25 (by decide) ?_
      exact W.iret (v := v8) hx hb hrt (fun t ht hW => ⟨_, rfl, by rw [of_v, ← ev8, if_pos c2]; exact c2, ht⟩) (fun q h => nomatch h) dX1_of_31
    · skip
      refine lv_iload_n hx hb dX1_of_20 rfl (lv_at hl 2 rfl) ?_
      refine lv_if_le (tgt := 28) hx hb dX1_of_21 (by decide) (fun c3 => ?_) (fun c3 => ?_)
      · skip
        exact absurd c3 c1
      · skip
        refine lv_iload_n hx hb dX1_of_24 rfl (lv_at hl 0 rfl) ?_
        refine lv_goto (tgt := 31) hx hb dX1_of_25 (by decide) ?_
        exact W.iret (v := v8) hx hb hrt (fun t ht hW => ⟨_, rfl, by rw [of_v, ← ev8, if_neg c2, if_pos (Int32.not_le.mp c1)], ht⟩) (fun q h => nomatch h) dX1_of_31
set_option maxHeartbeats 4000000 in
set_option maxRecDepth 100000 in
/-- tell -/
theorem n_tell (l : Launch) (dC : Nat → ClassId) (dI : Nat → Nat → Nat) (am : Nat → Nat) (ym : Nat → ClassId) (sz0 : Nat) (co ct th fo sg sz hc : Int32) (fL fN fD fH fV : Nat → Int32) (fM fW : Nat → Int64) (k : Int32) (hb1 : ¬ k < -16) (hb2 : ¬ 16 < k) : Met l yX1_tell wsX1_tell (rmN 0 0 0) (va_Pc [.ref (am 0), .int k] (preM dC dI am ym sz0 (co, ct, th, fo, sg, sz, hc, fL, fN, fD, fH, fV, fM, fW))) (va_Qv (fun (u : MS) => u = (co, ct, th, fo, sg, sz, hc, fL, fN, fD, fH, tell_v fV k, fM, fW)) (atM dC dI (va_A (MW am ym (co, ct, th, fo, sg, sz, hc, fL, fN, fD, fH, fV, fM, fW)) sz0) am ym) (va_A (MW am ym (co, ct, th, fo, sg, sz, hc, fL, fN, fD, fH, fV, fM, fW)) sz0)) 0 0 (va_A (MW am ym (co, ct, th, fo, sg, sz, hc, fL, fN, fD, fH, fV, fM, fW)) sz0) := by
  refine Met.ofW (cc := cX1_tell) (maxL := 2) (ret := none) (by decide) rfl ?_
  intro p e s m args below meth c s₁ B hml hv
  obtain ⟨rfl, hsz, hP, hK, hD0⟩ := hv
  have hx := B.exec
  have hb := B.bytes
  have hrt := B.returns
  have hlocks := B.notSynchronized
  have hts := atoms_spec (ws := wsX1_tell) B.pre
  have hw : ∀ w ∈ WB, w.before ([.ref (am 0), .int k] : List Value).toArray s = true := fun w h => hts w (List.mem_cons_of_mem _ h)
  have hown : s.vm.findClass "ProofBenchModel" = some m.cls := findClass_of_methodNamed B.named
  subst hsz
  have hD := hD0.self (sz := s.heap.size)
  generalize hAe : va_A (MW am ym (co, ct, th, fo, sg, sz, hc, fL, fN, fD, fH, fV, fM, fW)) s.heap.size = A at hD ⊢
  have hA : ∀ q : Nat, s.heap.size ≤ q → A q := fun q h => by rw [← hAe]; exact Or.inr h
  have hS : va_S A s.heap s.heap [] := va_S.rf
  have hP : va_P (dC, dI) cls2 (MW am ym (co, ct, th, fo, sg, sz, hc, fL, fN, fD, fH, fV, fM, fW)) s.heap := hP
  have hl := lv_entry ([.ref (am 0), .int k]) (n := 2) (Nat.le_of_ble_eq_true rfl)
  rw [lg_entry_eq]
  generalize (lg_sl ([.ref (am 0), .int k]) ++ List.replicate (2 - (lg_sl ([.ref (am 0), .int k])).length) Slot.unset).toArray = ls at hl ⊢
  have hl : lv_has ls 2 [(0, .ref (am 0)), (1, .int k)] := hl
  refine lv_aload_n hx hb dX1_tell_0 rfl (lv_at hl 0 rfl) ?_
  refine va_get (D := (dC, dI)) (ci := 1) (v := .ref (am 5)) (C := RX1) (T := TX1) (N := 14) hx hb hw inX1 hown hK hP 0 rfl rfl 11 (by decide) (hw _ wb_279) (fun _ h9 => h9) rfl dX1_tell_1 ?_
  refine lv_iload_n hx hb dX1_tell_4 rfl (lv_at hl 1 rfl) ?_
  refine lv_if_le (tgt := 12) hx hb dX1_tell_5 (by decide) (fun c1 => ?_) (fun c1 => ?_)
  · skip
    have eab : lt_abs k = -k := by rw [lt_abs, if_neg (Int32.not_lt.mpr c1)]
    refine lv_iload_n hx hb dX1_tell_12 rfl (lv_at hl 1 rfl) ?_
    refine lv_ineg hx hb dX1_tell_13 ?_
    refine lv_topi (fun v9 ev9 => ?_)
    have ev9 : v9 = lt_abs k := ev9.trans eab.symm
    subst ev9
    refine lv_iload_n hx hb dX1_tell_14 rfl (lv_at hl 1 rfl) ?_
    refine lv_if_le (tgt := 22) hx hb dX1_tell_15 (by decide) (fun c2 => ?_) (fun c2 => ?_)
    · skip
      refine lv_iconst (v := 2) hx hb dX1_tell_22 (by decide) ?_
      refine va_iast hx hb hK hP hD hS 5 4 rfl rfl (ab_in hb1 hb2) dX1_tell_23 (fun H locs hP hD hS => ?_)
      have hP : va_P (dC, dI) cls2 (MW am ym (co, ct, th, fo, sg, sz, hc, fL, fN, fD, fH, upd fV (lt_abs k).toNatClampNeg 2, fM, fW)) H := hP
      have hD : va_D A (MW am ym (co, ct, th, fo, sg, sz, hc, fL, fN, fD, fH, upd fV (lt_abs k).toNatClampNeg 2, fM, fW)) := hD
      exact W.vret hx hb hrt (fun t ht hW => ⟨⟨_, rfl, by rw [tell_v, if_neg (Int32.not_lt.mpr c1)], by rw [ht]; exact hP, va_K.moved hW.alike hK, hD⟩, hS.F ht⟩) hS.2.2 dX1_tell_24
    · skip
      exact absurd c1 c2
  · skip
    have eab : lt_abs k = k := by rw [lt_abs, if_pos (Int32.not_le.mp c1)]
    refine lv_iload_n hx hb dX1_tell_8 rfl (lv_at hl 1 rfl) ?_
    refine lv_goto (tgt := 14) hx hb dX1_tell_9 (by decide) ?_
    refine lv_topi (fun v9 ev9 => ?_)
    have ev9 : v9 = lt_abs k := ev9.trans eab.symm
    subst ev9
    refine lv_iload_n hx hb dX1_tell_14 rfl (lv_at hl 1 rfl) ?_
    refine lv_if_le (tgt := 22) hx hb dX1_tell_15 (by decide) (fun c2 => ?_) (fun c2 => ?_)
    · skip
      exact absurd c2 c1
    · skip
      refine lv_iconst (v := 1) hx hb dX1_tell_18 (by decide) ?_
      refine lv_goto (tgt := 23) hx hb dX1_tell_19 (by decide) ?_
      refine va_iast hx hb hK hP hD hS 5 4 rfl rfl (ab_in hb1 hb2) dX1_tell_23 (fun H locs hP hD hS => ?_)
      have hP : va_P (dC, dI) cls2 (MW am ym (co, ct, th, fo, sg, sz, hc, fL, fN, fD, fH, upd fV (lt_abs k).toNatClampNeg 1, fM, fW)) H := hP
      have hD : va_D A (MW am ym (co, ct, th, fo, sg, sz, hc, fL, fN, fD, fH, upd fV (lt_abs k).toNatClampNeg 1, fM, fW)) := hD
      exact W.vret hx hb hrt (fun t ht hW => ⟨⟨_, rfl, by rw [tell_v, if_pos (Int32.not_le.mp c1)], by rw [ht]; exact hP, va_K.moved hW.alike hK, hD⟩, hS.F ht⟩) hS.2.2 dX1_tell_24
set_option maxHeartbeats 4000000 in
set_option maxRecDepth 100000 in
/-- truths -/
theorem n_truths (l : Launch) (dC : Nat → ClassId) (dI : Nat → Nat → Nat) (am : Nat → Nat) (ym : Nat → ClassId) (co ct th fo sg sz hc : Int32) (fL fN fD fH fV : Nat → Int32) (fM fW : Nat → Int64) (v : Int32) (k : Int32) (hv : ¬ v < 0) : Met l yX1_truths wsX1_truths (rmN 0 0 0) (va_Pc [.ref (am 0), .int v, .int k] (rdM dC dI am ym (co, ct, th, fo, sg, sz, hc, fL, fN, fD, fH, fV, fM, fW))) (vp_Sl (fun r => r = tr_v fW v k)) 0 0 (fun _ => False) := by
  refine Met.ofW (cc := cX1_truths) (maxL := 3) (ret := (some .long)) (by decide) rfl ?_
  intro p e s m args below meth c s₁ B hml hv
  obtain ⟨rfl, hP, hK⟩ := hv
  have hx := B.exec
  have hb := B.bytes
  have hrt := B.returns
  have hlocks := B.notSynchronized
  have hts := atoms_spec (ws := wsX1_truths) B.pre
  have hw : ∀ w ∈ WB, w.before ([.ref (am 0), .int v, .int k] : List Value).toArray s = true := fun w h => hts w (List.mem_cons_of_mem _ h)
  have hown : s.vm.findClass "ProofBenchModel" = some m.cls := findClass_of_methodNamed B.named
  have hP : va_P (dC, dI) cls2 (MW am ym (co, ct, th, fo, sg, sz, hc, fL, fN, fD, fH, fV, fM, fW)) s.heap := hP
  have hl := lv_entry ([.ref (am 0), .int v, .int k]) (n := 3) (Nat.le_of_ble_eq_true rfl)
  rw [lg_entry_eq]
  generalize (lg_sl ([.ref (am 0), .int v, .int k]) ++ List.replicate (3 - (lg_sl ([.ref (am 0), .int v, .int k])).length) Slot.unset).toArray = ls at hl ⊢
  have hl : lv_has ls 3 [(0, .ref (am 0)), (1, .int v), (2, .int k)] := hl
  refine lv_iload_n hx hb dX1_truths_0 rfl (lv_at hl 1 rfl) ?_
  refine lv_bipush (v := 7) hx hb dX1_truths_1 (by decide) ?_
  refine lv_icmp_ge (tgt := 15) hx hb dX1_truths_3 (by decide) (fun c1 => ?_) (fun c1 => ?_)
  · skip
    refine lv_iload_n hx hb dX1_truths_15 rfl (lv_at hl 2 rfl) ?_
    refine lv_iload_n hx hb dX1_truths_16 rfl (lv_at hl 1 rfl) ?_
    refine lv_bipush (v := 7) hx hb dX1_truths_17 (by decide) ?_
    refine lv_isub hx hb dX1_truths_19 ?_
    refine lv_ishr hx hb dX1_truths_20 ?_
    refine lv_iconst (v := 1) hx hb dX1_truths_21 (by decide) ?_
    refine lv_iand hx hb dX1_truths_22 ?_
    refine lv_iconst (v := 1) hx hb dX1_truths_23 (by decide) ?_
    refine lv_icmp_ne (tgt := 33) hx hb dX1_truths_24 (by decide) (fun c2 => ?_) (fun c2 => ?_)
    · skip
      refine lv_lconst (v := 0) hx hb dX1_truths_33 (by decide) ?_
      exact W.lret (v := 0) hx hb hrt (fun t ht hW => ⟨_, rfl, by rw [tr_v, if_pos c1, if_neg c2], ht⟩) (fun q h => nomatch h) dX1_truths_34
    · skip
      refine lv_ldc2 (v := (-1)) hx hb hown (hw _ wb_267) dX1_truths_27 ?_
      refine lv_goto (tgt := 34) hx hb dX1_truths_30 (by decide) ?_
      exact W.lret (v := (-1)) hx hb hrt (fun t ht hW => ⟨_, rfl, by rw [tr_v, if_pos c1, if_pos c2], ht⟩) (fun q h => nomatch h) dX1_truths_34
  · skip
    refine lv_aload_n hx hb dX1_truths_6 rfl (lv_at hl 0 rfl) ?_
    refine va_get (D := (dC, dI)) (ci := 1) (v := .ref (am 7)) (C := RX1) (T := TX1) (N := 14) hx hb hw inX1 hown hK hP 0 rfl rfl 13 (by decide) (hw _ wb_281) (fun _ h9 => h9) rfl dX1_truths_7 ?_
    refine lv_iload_n hx hb dX1_truths_10 rfl (lv_at hl 1 rfl) ?_
    refine va_lald hx hb hK hP 7 6 rfl rfl (in_c (cc := 7) (n := 7) (by decide) (Nat.le_refl _) (by decide) hv c1) dX1_truths_11 ?_
    refine lv_goto (tgt := 34) hx hb dX1_truths_12 (by decide) ?_
    exact W.lret (v := fW v.toNatClampNeg) hx hb hrt (fun t ht hW => ⟨_, rfl, by rw [tr_v, if_neg c1], ht⟩) (fun q h => nomatch h) dX1_truths_34
