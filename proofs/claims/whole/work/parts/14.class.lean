/-! the class's methods that may throw, and those that stand on them -/
/-- literal(k) is refused -/
def lt_bad (dr k : Int32) : Prop := k = 0 ∨ k < -16 ∨ 16 < k ∨ ¬ (dr ||| mk_neg dr) &&& mk_bit k = 0
def lt_abs (k : Int32) : Int32 := if 0 < k then k else -k
def lt_ord (dr : Int32) (dO : Int64) (k : Int32) : Int64 := dO ||| ((lt_abs k - 1).toInt64 <<< ((4 * nI (pb_sz dr)).toInt64 &&& 63))
/-- the class, the draft kept as a clause -/
abbrev kp_S (u : XS) : XS := match u with
  | (cc, tc, fc, hc, dr, dO, fC, fO, fT, fH) => (cc + 1, tc + 1, fc, hc, 0, 0, upd fC cc.toNatClampNeg dr, vp_updL fO cc.toNatClampNeg dO, upd fT cc.toNatClampNeg (vp_nar .boolean 1), fH)
def at_var (o9 : Int64) (i : Int32) : Int32 := ((pb_lu o9 (4 * i)) &&& 15).toInt32 + 1
def at_val (x : Int32) (o9 : Int64) (i : Int32) : Int32 := if i < nI (pb_sz x) then (if x &&& mk_bit (at_var o9 i) = 0 then -(at_var o9 i) else at_var o9 i) else 0
def cn_val (cc tc fc hc dr k : Int32) : Int32 := if k = 0 then cc else if k = 1 then tc else if k = 2 then fc else if k = 3 then nI (pb_sz dr) else hc
theorem th_in {cc k : Int32} {fT : Nat → Int32} {n : Nat} (e : cc = nI n) (hn : n ≤ 600) (h : th_b cc fT k ≠ 0) : vp_in k 600 := by
  by_cases z : ¬ k < 0 ∧ ¬ cc ≤ k ∧ fT k.toNatClampNeg ≠ 0
  · exact in_c e hn (by decide) z.1 z.2.1
  · rw [th_b, if_neg z] at h
    exact absurd rfl h
set_option maxHeartbeats 4000000 in
set_option maxRecDepth 100000 in
/-- refuseIfFull, where there is room -/
theorem m_refuseIfFull (l : Launch) (dC : Nat → ClassId) (dI : Nat → Nat → Nat) (ax : Nat → Nat) (yx : Nat → ClassId) (cc tc fc hc dr : Int32) (dO : Int64) (fC : Nat → Int32) (fO : Nat → Int64) (fT fH : Nat → Int32)  (n : Nat) (hn : n < 600) (ecc : cc = nI n) : Met l yX0_refuseIfFull wsX0_refuseIfFull (rmN 0 0 0) (va_Pc [.ref (ax 0)] (rdX dC dI ax yx (cc, tc, fc, hc, dr, dO, fC, fO, fT, fH))) (va_Sv (fun _ => True)) 0 0 (fun _ => False) := by
  refine Met.ofW (cc := cX0_refuseIfFull) (maxL := 1) (ret := none) (by decide) rfl ?_
  intro p e s m args below meth c s₁ B hml hv
  obtain ⟨rfl, hP, hK⟩ := hv
  have hx := B.exec
  have hb := B.bytes
  have hrt := B.returns
  have hlocks := B.notSynchronized
  have hts := atoms_spec (ws := wsX0_refuseIfFull) B.pre
  have hw : ∀ w ∈ WB, w.before ([.ref (ax 0)] : List Value).toArray s = true := fun w h => hts w (List.mem_cons_of_mem _ h)
  have hown : s.vm.findClass "ProofBench" = some m.cls := findClass_of_methodNamed B.named
  have hP : va_P (dC, dI) cls2 (XW ax yx (cc, tc, fc, hc, dr, dO, fC, fO, fT, fH)) s.heap := hP
  have hl := lv_entry ([.ref (ax 0)]) (n := 1) (Nat.le_of_ble_eq_true rfl)
  rw [lg_entry_eq]
  generalize (lg_sl ([.ref (ax 0)]) ++ List.replicate (1 - (lg_sl ([.ref (ax 0)])).length) Slot.unset).toArray = ls at hl ⊢
  have hl : lv_has ls 1 [(0, .ref (ax 0))] := hl
  refine lv_aload_n hx hb dX0_refuseIfFull_0 rfl (lv_at hl 0 rfl) ?_
  refine va_get (D := (dC, dI)) (ci := 0) (v := .int cc) (C := RX0) (T := TX0) (N := 10) hx hb hw inX0 hown hK hP 0 rfl rfl 4 (by decide) (hw _ wb_21) (fun _ h9 => h9) rfl dX0_refuseIfFull_1 ?_
  refine lv_sipush (v := 600) hx hb dX0_refuseIfFull_4 (by decide) ?_
  refine lv_icmp_lt (tgt := 20) hx hb dX0_refuseIfFull_7 (by decide) (fun c1 => ?_) (fun c1 => ?_)
  · skip
    exact W.vret hx hb hrt (fun t ht hW => ⟨rfl, trivial, ht⟩) (fun q h => nomatch h) dX0_refuseIfFull_20
  · skip
    exact absurd (by rw [ecc]; exact nI_lt (b := 600) hn (by decide)) c1
set_option maxHeartbeats 4000000 in
set_option maxRecDepth 100000 in
/-- refuseIfNotThere -/
theorem m_refuseIfNotThere (l : Launch) (hl9 : l.stackTraces = false) (dC : Nat → ClassId) (dI : Nat → Nat → Nat) (ax : Nat → Nat) (yx : Nat → ClassId) (sz0 : Nat) (cc tc fc hc dr : Int32) (dO : Int64) (fC : Nat → Int32) (fO : Nat → Int64) (fT fH : Nat → Int32) (k : Int32) (n : Nat) (hn : n ≤ 600) (ecc : cc = nI n) : vx_Met l yX0_refuseIfNotThere wsX0_refuseIfNotThere (rmN 6 1 6) (va_Pc [.ref (ax 0), .int k] (fun U => U.heap.size = sz0 ∧ rdX dC dI ax yx (cc, tc, fc, hc, dr, dO, fC, fO, fT, fH) U ∧ ThU U)) (va_Sv (fun _ => th_b cc fT k ≠ 0)) (vx_X (fun (_ : Unit) => th_b cc fT k = 0) (fun E _ _ => E = IAE) (fun q => sz0 ≤ q)) 1 6 (fun _ => False) := by
  refine vx_ofW (cc := cX0_refuseIfNotThere) (maxL := 2) (ret := none) (by decide) rfl ?_
  intro p e s m args below meth c s₁ B hml hnt hv
  obtain ⟨rfl, hsz, ⟨hP, hK⟩, hT⟩ := hv
  have hx := B.exec
  have hb := B.bytes
  have hrt := B.returns
  have hlocks := B.notSynchronized
  have hts := atoms_spec (ws := wsX0_refuseIfNotThere) B.pre
  have hw : ∀ w ∈ WB, w.before ([.ref (ax 0), .int k] : List Value).toArray s = true := fun w h => hts w (List.mem_cons_of_mem _ h)
  have hown : s.vm.findClass "ProofBench" = some m.cls := findClass_of_methodNamed B.named
  have hP : va_P (dC, dI) cls2 (XW ax yx (cc, tc, fc, hc, dr, dO, fC, fO, fT, fH)) s.heap := hP
  have hl := lv_entry ([.ref (ax 0), .int k]) (n := 2) (Nat.le_of_ble_eq_true rfl)
  rw [lg_entry_eq]
  generalize (lg_sl ([.ref (ax 0), .int k]) ++ List.replicate (2 - (lg_sl ([.ref (ax 0), .int k])).length) Slot.unset).toArray = ls at hl ⊢
  have hl : lv_has ls 2 [(0, .ref (ax 0)), (1, .int k)] := hl
  refine lv_aload_n hx hb dX0_refuseIfNotThere_0 rfl (lv_at hl 0 rfl) ?_
  refine lv_iload_n hx hb dX0_refuseIfNotThere_1 rfl (lv_at hl 1 rfl) ?_
  refine vp_callSi (W.runV (As := [.int k]) (rest := []) ⟨hx, hb, hml, hown, hw⟩ (m_isThere l dC dI ax yx cc tc fc hc dr dO fC fO fT fH k n hn ecc) (cwV 1 hw (gw_V wb_228 wb_230 wbs_5 wb_1 wb_231) rfl rfl rfl (by decide +kernel) ⟨Nat.le_of_ble_eq_true rfl, Nat.le_of_ble_eq_true rfl⟩) ⟨blind_rdX, va_recv hK hP (ci := 0) (q0 := 0) rfl rfl, fun U hU hW => ⟨rfl, by rw [hU]; exact hP, va_K.moved hW.alike hK⟩⟩ rfl rfl hl.1 rfl (lv_room (Nat.le_of_ble_eq_true rfl)) dX0_refuseIfNotThere_2 ⟨Nat.le_of_ble_eq_true rfl, Nat.le_of_ble_eq_true rfl⟩) (fun r1 h1 => ?_)
  subst h1
  refine lv_if_ne (tgt := 18) hx hb dX0_refuseIfNotThere_5 (by decide) (fun c1 => ?_) (fun c1 => ?_)
  · skip
    refine vx_ret ?_
    refine W.widen (k := 1) (n := 6) (by decide) (by decide) ?_
    exact W.vret hx hb hrt (fun t ht hW => ⟨rfl, c1, ht⟩) (fun q h => nomatch h) dX0_refuseIfNotThere_18
  · skip
    exact thr_I 113 "no clause that is there" (by decide) hx hb hl9 hown hw hT (by rw [hml]; exact hl.1) dX0_refuseIfNotThere_8 dX0_refuseIfNotThere_11 dX0_refuseIfNotThere_12 dX0_refuseIfNotThere_14 dX0_refuseIfNotThere_17 hnt (Nat.le_of_ble_eq_true rfl) (Nat.le_of_ble_eq_true rfl) (Nat.le_of_ble_eq_true rfl) (Nat.le_of_ble_eq_true rfl) hlocks (fun t h2 h3 => ⟨(), c1, rfl, h2, fun q h1 _ => h3 q h1⟩) (Nat.le_of_ble_eq_true rfl) (Nat.le_of_ble_eq_true rfl)
set_option maxHeartbeats 4000000 in
set_option maxRecDepth 100000 in
/-- literal -/
theorem m_literal (l : Launch) (hl9 : l.stackTraces = false) (dC : Nat → ClassId) (dI : Nat → Nat → Nat) (ax : Nat → Nat) (yx : Nat → ClassId) (sz0 : Nat) (cc tc fc hc dr : Int32) (dO : Int64) (fC : Nat → Int32) (fO : Nat → Int64) (fT fH : Nat → Int32) (k : Int32) : vx_Met l yX0_literal wsX0_literal (rmN 6 1 6) (va_Pc [.ref (ax 0), .int k] (fun U => preX dC dI ax yx sz0 (cc, tc, fc, hc, dr, dO, fC, fO, fT, fH) U ∧ ThU U)) (va_Qi (fun (r : Int32) (u : XS) => ¬ lt_bad dr k ∧ r = nI (pb_sz (dr ||| mk_bit k)) ∧ u = (cc, tc, fc, hc, dr ||| mk_bit k, lt_ord dr dO k, fC, fO, fT, fH)) (atX dC dI (va_A (XW ax yx (cc, tc, fc, hc, dr, dO, fC, fO, fT, fH)) sz0) ax yx) (va_A (XW ax yx (cc, tc, fc, hc, dr, dO, fC, fO, fT, fH)) sz0)) (vx_X (fun (_ : Unit) => lt_bad dr k) (fun E _ _ => E = IAE) (fun q => sz0 ≤ q)) 1 6 (va_A (XW ax yx (cc, tc, fc, hc, dr, dO, fC, fO, fT, fH)) sz0) := by
  refine vx_ofW (cc := cX0_literal) (maxL := 4) (ret := (some .int)) (by decide) rfl ?_
  intro p e s m args below meth c s₁ B hml hnt hv
  obtain ⟨rfl, ⟨hsz, hP, hK, hD0⟩, hT⟩ := hv
  have hx := B.exec
  have hb := B.bytes
  have hrt := B.returns
  have hlocks := B.notSynchronized
  have hts := atoms_spec (ws := wsX0_literal) B.pre
  have hw : ∀ w ∈ WB, w.before ([.ref (ax 0), .int k] : List Value).toArray s = true := fun w h => hts w (List.mem_cons_of_mem _ h)
  have hown : s.vm.findClass "ProofBench" = some m.cls := findClass_of_methodNamed B.named
  subst hsz
  have hD := hD0.self (sz := s.heap.size)
  generalize hAe : va_A (XW ax yx (cc, tc, fc, hc, dr, dO, fC, fO, fT, fH)) s.heap.size = A at hD ⊢
  have hA : ∀ q : Nat, s.heap.size ≤ q → A q := fun q h => by rw [← hAe]; exact Or.inr h
  have hS : va_S A s.heap s.heap [] := va_S.rf
  have hP : va_P (dC, dI) cls2 (XW ax yx (cc, tc, fc, hc, dr, dO, fC, fO, fT, fH)) s.heap := hP
  have hl := lv_entry ([.ref (ax 0), .int k]) (n := 4) (Nat.le_of_ble_eq_true rfl)
  rw [lg_entry_eq]
  generalize (lg_sl ([.ref (ax 0), .int k]) ++ List.replicate (4 - (lg_sl ([.ref (ax 0), .int k])).length) Slot.unset).toArray = ls at hl ⊢
  have hl : lv_has ls 4 [(0, .ref (ax 0)), (1, .int k)] := hl
  refine lv_iload_n hx hb dX0_literal_0 rfl (lv_at hl 1 rfl) ?_
  refine lv_if_eq (tgt := 16) hx hb dX0_literal_1 (by decide) (fun c1 => ?_) (fun c1 => ?_)
  · skip
    exact thr_I 26 "not a literal" (by decide) hx hb hl9 hown hw hT (by rw [hml]; exact hl.1) dX0_literal_16 dX0_literal_19 dX0_literal_20 dX0_literal_22 dX0_literal_25 hnt (Nat.le_of_ble_eq_true rfl) (Nat.le_of_ble_eq_true rfl) (Nat.le_of_ble_eq_true rfl) (Nat.le_of_ble_eq_true rfl) hlocks (fun t h2 h3 => ⟨(), Or.inl c1, rfl, h2, fun q h1 _ => h3 q h1⟩) (Nat.le_of_ble_eq_true rfl) (Nat.le_of_ble_eq_true rfl)
  · skip
    refine lv_iload_n hx hb dX0_literal_4 rfl (lv_at hl 1 rfl) ?_
    refine lv_bipush (v := (-16)) hx hb dX0_literal_5 (by decide) ?_
    refine lv_icmp_lt (tgt := 16) hx hb dX0_literal_7 (by decide) (fun c2 => ?_) (fun c2 => ?_)
    · skip
      exact thr_I 26 "not a literal" (by decide) hx hb hl9 hown hw hT (by rw [hml]; exact hl.1) dX0_literal_16 dX0_literal_19 dX0_literal_20 dX0_literal_22 dX0_literal_25 hnt (Nat.le_of_ble_eq_true rfl) (Nat.le_of_ble_eq_true rfl) (Nat.le_of_ble_eq_true rfl) (Nat.le_of_ble_eq_true rfl) hlocks (fun t h2 h3 => ⟨(), Or.inr (Or.inl c2), rfl, h2, fun q h1 _ => h3 q h1⟩) (Nat.le_of_ble_eq_true rfl) (Nat.le_of_ble_eq_true rfl)
    · skip
      refine lv_iload_n hx hb dX0_literal_10 rfl (lv_at hl 1 rfl) ?_
      refine lv_bipush (v := 16) hx hb dX0_literal_11 (by decide) ?_
      refine lv_icmp_le (tgt := 26) hx hb dX0_literal_13 (by decide) (fun c3 => ?_) (fun c3 => ?_)
      · skip
        refine lv_iload_n hx hb dX0_literal_26 rfl (lv_at hl 1 rfl) ?_
        refine vp_callSi (W.runS (As := [.int k]) (rest := []) ⟨hx, hb, hml, hown, hw⟩ (m_bitOf l k) (va_cwS 1 hw (gw_S wb_164 wb_165 wb_1 wb_166) rfl rfl rfl (by decide +kernel) ⟨Nat.le_of_ble_eq_true rfl, Nat.le_of_ble_eq_true rfl⟩) preEq rfl rfl hl.1 rfl (lv_room (Nat.le_of_ble_eq_true rfl)) dX0_literal_27 ⟨Nat.le_of_ble_eq_true rfl, Nat.le_of_ble_eq_true rfl⟩) (fun r1 h1 => ?_)
        subst h1
        refine lv_istore_n (lv' := [(2, .int (mk_bit k)), (0, .ref (ax 0)), (1, .int k)]) hx hb dX0_literal_30 rfl hl (by decide) rfl (fun ls hl => ?_)
        refine lv_aload_n hx hb dX0_literal_31 rfl (lv_at hl 1 rfl) ?_
        refine va_get (D := (dC, dI)) (ci := 0) (v := .int dr) (C := RX0) (T := TX0) (N := 10) hx hb hw inX0 hown hK hP 0 rfl rfl 8 (by decide) (hw _ wb_25) (fun _ h9 => h9) rfl dX0_literal_32 ?_
        refine lv_aload_n hx hb dX0_literal_35 rfl (lv_at hl 1 rfl) ?_
        refine va_get (D := (dC, dI)) (ci := 0) (v := .int dr) (C := RX0) (T := TX0) (N := 10) hx hb hw inX0 hown hK hP 0 rfl rfl 8 (by decide) (hw _ wb_25) (fun _ h9 => h9) rfl dX0_literal_36 ?_
        refine vp_callSi (W.runS (As := [.int dr]) (rest := [.int dr]) ⟨hx, hb, hml, hown, hw⟩ (m_negated l dr) (va_cwS 1 hw (gw_S wb_78 wb_79 wb_1 wb_80) rfl rfl rfl (by decide +kernel) ⟨Nat.le_of_ble_eq_true rfl, Nat.le_of_ble_eq_true rfl⟩) preEq rfl rfl hl.1 rfl (lv_room (Nat.le_of_ble_eq_true rfl)) dX0_literal_39 ⟨Nat.le_of_ble_eq_true rfl, Nat.le_of_ble_eq_true rfl⟩) (fun r2 h2 => ?_)
        subst h2
        refine lv_ior hx hb dX0_literal_42 ?_
        refine lv_iload_n hx hb dX0_literal_43 rfl (lv_at hl 0 rfl) ?_
        refine lv_iand hx hb dX0_literal_44 ?_
        refine lv_if_eq (tgt := 58) hx hb dX0_literal_45 (by decide) (fun c4 => ?_) (fun c4 => ?_)
        · skip
          refine lv_iload_n hx hb dX0_literal_58 rfl (lv_at hl 2 rfl) ?_
          refine lv_if_le (tgt := 66) hx hb dX0_literal_59 (by decide) (fun c5 => ?_) (fun c5 => ?_)
          · skip
            have eab : lt_abs k = -k := by rw [lt_abs, if_neg (Int32.not_lt.mpr c5)]
            refine lv_iload_n hx hb dX0_literal_66 rfl (lv_at hl 2 rfl) ?_
            refine lv_ineg hx hb dX0_literal_67 ?_
            refine lv_topi (fun v9 ev9 => ?_)
            have ev9 : v9 = lt_abs k := ev9.trans eab.symm
            subst ev9
            refine lv_istore_n (lv' := [(3, .int (lt_abs k)), (2, .int (mk_bit k)), (0, .ref (ax 0)), (1, .int k)]) hx hb dX0_literal_68 rfl hl (by decide) rfl (fun ls hl => ?_)
            refine lv_aload_n hx hb dX0_literal_69 rfl (lv_at hl 2 rfl) ?_
            refine lv_dup hx hb dX0_literal_70 rfl ?_
            refine va_get (D := (dC, dI)) (ci := 0) (v := .long dO) (C := RX0) (T := TX0) (N := 10) hx hb hw inX0 hown hK hP 0 rfl rfl 9 (by decide) (hw _ wb_26) (fun _ h9 => h9) rfl dX0_literal_71 ?_
            refine lv_iload_n hx hb dX0_literal_74 rfl (lv_at hl 0 rfl) ?_
            refine lv_iconst (v := 1) hx hb dX0_literal_75 (by decide) ?_
            refine lv_isub hx hb dX0_literal_76 ?_
            refine lv_i2l (v := ((lt_abs k) - 1).toInt64) hx hb dX0_literal_77 rfl ?_
            refine lv_iconst (v := 4) hx hb dX0_literal_78 (by decide) ?_
            refine lv_aload_n hx hb dX0_literal_79 rfl (lv_at hl 2 rfl) ?_
            refine va_get (D := (dC, dI)) (ci := 0) (v := .int dr) (C := RX0) (T := TX0) (N := 10) hx hb hw inX0 hown hK hP 0 rfl rfl 8 (by decide) (hw _ wb_25) (fun _ h9 => h9) rfl dX0_literal_80 ?_
            refine vp_callSi (W.runS (As := [.int dr]) (rest := [.int 4, .long (((lt_abs k) - 1).toInt64), .long dO, .ref (ax 0)]) ⟨hx, hb, hml, hown, hw⟩ (m_sizeOf l dr) (va_cwS 1 hw (gw_S wb_55 wb_56 wb_1 wb_57) rfl rfl rfl (by decide +kernel) ⟨Nat.le_of_ble_eq_true rfl, Nat.le_of_ble_eq_true rfl⟩) preEq rfl rfl hl.1 rfl (lv_room (Nat.le_of_ble_eq_true rfl)) dX0_literal_83 ⟨Nat.le_of_ble_eq_true rfl, Nat.le_of_ble_eq_true rfl⟩) (fun r3 h3 => ?_)
            subst h3
            refine lv_imul hx hb dX0_literal_86 ?_
            refine lv_lshl (v := (((lt_abs k) - 1).toInt64) <<< ((4 * (nI (pb_sz dr))).toInt64 &&& 63)) hx hb dX0_literal_87 rfl ?_
            refine lv_lor hx hb dX0_literal_88 ?_
            refine va_put (D := (dC, dI)) (ci := 0) (v := .long (dO ||| ((((lt_abs k) - 1).toInt64) <<< ((4 * (nI (pb_sz dr))).toInt64 &&& 63)))) (ty := .long) (C := RX0) (T := TX0) (N := 10) hx hb hw inX0 tyX0 tyX0_ok nmX0 hown hK hP hD hS 0 rfl rfl 9 (by decide) (hw _ wb_26) (fun _ h9 => h9) rfl (by decide +kernel) rfl rfl (Nat.le_of_ble_eq_true rfl) dX0_literal_89 (fun H locs hP hD hS => ?_)
            have hP : va_P (dC, dI) cls2 (XW ax yx (cc, tc, fc, hc, dr, dO ||| ((((lt_abs k) - 1).toInt64) <<< ((4 * (nI (pb_sz dr))).toInt64 &&& 63)), fC, fO, fT, fH)) H := hP
            have hD : va_D A (XW ax yx (cc, tc, fc, hc, dr, dO ||| ((((lt_abs k) - 1).toInt64) <<< ((4 * (nI (pb_sz dr))).toInt64 &&& 63)), fC, fO, fT, fH)) := hD
            refine lv_aload_n hx hb dX0_literal_92 rfl (lv_at hl 2 rfl) ?_
            refine lv_dup hx hb dX0_literal_93 rfl ?_
            refine va_get (D := (dC, dI)) (ci := 0) (v := .int dr) (C := RX0) (T := TX0) (N := 10) hx hb hw inX0 hown hK hP 0 rfl rfl 8 (by decide) (hw _ wb_25) (fun _ h9 => h9) rfl dX0_literal_94 ?_
            refine lv_iload_n hx hb dX0_literal_97 rfl (lv_at hl 1 rfl) ?_
            refine lv_ior hx hb dX0_literal_98 ?_
            refine va_put (D := (dC, dI)) (ci := 0) (v := .int (dr ||| (mk_bit k))) (ty := .int) (C := RX0) (T := TX0) (N := 10) hx hb hw inX0 tyX0 tyX0_ok nmX0 hown hK hP hD hS 0 rfl rfl 8 (by decide) (hw _ wb_25) (fun _ h9 => h9) rfl (by decide +kernel) rfl rfl (Nat.le_of_ble_eq_true rfl) dX0_literal_99 (fun H locs hP hD hS => ?_)
            have hP : va_P (dC, dI) cls2 (XW ax yx (cc, tc, fc, hc, dr ||| (mk_bit k), dO ||| ((((lt_abs k) - 1).toInt64) <<< ((4 * (nI (pb_sz dr))).toInt64 &&& 63)), fC, fO, fT, fH)) H := hP
            have hD : va_D A (XW ax yx (cc, tc, fc, hc, dr ||| (mk_bit k), dO ||| ((((lt_abs k) - 1).toInt64) <<< ((4 * (nI (pb_sz dr))).toInt64 &&& 63)), fC, fO, fT, fH)) := hD
            refine lv_aload_n hx hb dX0_literal_102 rfl (lv_at hl 2 rfl) ?_
            refine va_get (D := (dC, dI)) (ci := 0) (v := .int (dr ||| (mk_bit k))) (C := RX0) (T := TX0) (N := 10) hx hb hw inX0 hown hK hP 0 rfl rfl 8 (by decide) (hw _ wb_25) (fun _ h9 => h9) rfl dX0_literal_103 ?_
            refine vp_callSi (W.runS (As := [.int (dr ||| (mk_bit k))]) (rest := []) ⟨hx, hb, hml, hown, hw⟩ (m_sizeOf l (dr ||| mk_bit k)) (va_cwS 1 hw (gw_S wb_55 wb_56 wb_1 wb_57) rfl rfl rfl (by decide +kernel) ⟨Nat.le_of_ble_eq_true rfl, Nat.le_of_ble_eq_true rfl⟩) preEq rfl rfl hl.1 rfl (lv_room (Nat.le_of_ble_eq_true rfl)) dX0_literal_106 ⟨Nat.le_of_ble_eq_true rfl, Nat.le_of_ble_eq_true rfl⟩) (fun r4 h4 => ?_)
            refine vx_ret ?_
            refine W.widen (k := 1) (n := 6) (by decide) (by decide) ?_
            exact W.iret (v := r4) hx hb hrt (fun t ht hW => ⟨⟨_, _, rfl, ⟨fun h => h.elim c1 (fun h => h.elim c2 (fun h => h.elim (fun h => absurd h (Int32.not_lt.mpr c3)) (fun h => h c4))), h4, rfl⟩, by rw [ht]; exact hP, va_K.moved hW.alike hK, hD⟩, hS.F ht⟩) hS.2.2 dX0_literal_109
          · skip
            have eab : lt_abs k = k := by rw [lt_abs, if_pos (Int32.not_le.mp c5)]
            refine lv_iload_n hx hb dX0_literal_62 rfl (lv_at hl 2 rfl) ?_
            refine lv_goto (tgt := 68) hx hb dX0_literal_63 (by decide) ?_
            refine lv_topi (fun v9 ev9 => ?_)
            have ev9 : v9 = lt_abs k := ev9.trans eab.symm
            subst ev9
            refine lv_istore_n (lv' := [(3, .int (lt_abs k)), (2, .int (mk_bit k)), (0, .ref (ax 0)), (1, .int k)]) hx hb dX0_literal_68 rfl hl (by decide) rfl (fun ls hl => ?_)
            refine lv_aload_n hx hb dX0_literal_69 rfl (lv_at hl 2 rfl) ?_
            refine lv_dup hx hb dX0_literal_70 rfl ?_
            refine va_get (D := (dC, dI)) (ci := 0) (v := .long dO) (C := RX0) (T := TX0) (N := 10) hx hb hw inX0 hown hK hP 0 rfl rfl 9 (by decide) (hw _ wb_26) (fun _ h9 => h9) rfl dX0_literal_71 ?_
            refine lv_iload_n hx hb dX0_literal_74 rfl (lv_at hl 0 rfl) ?_
            refine lv_iconst (v := 1) hx hb dX0_literal_75 (by decide) ?_
            refine lv_isub hx hb dX0_literal_76 ?_
            refine lv_i2l (v := ((lt_abs k) - 1).toInt64) hx hb dX0_literal_77 rfl ?_
            refine lv_iconst (v := 4) hx hb dX0_literal_78 (by decide) ?_
            refine lv_aload_n hx hb dX0_literal_79 rfl (lv_at hl 2 rfl) ?_
            refine va_get (D := (dC, dI)) (ci := 0) (v := .int dr) (C := RX0) (T := TX0) (N := 10) hx hb hw inX0 hown hK hP 0 rfl rfl 8 (by decide) (hw _ wb_25) (fun _ h9 => h9) rfl dX0_literal_80 ?_
            refine vp_callSi (W.runS (As := [.int dr]) (rest := [.int 4, .long (((lt_abs k) - 1).toInt64), .long dO, .ref (ax 0)]) ⟨hx, hb, hml, hown, hw⟩ (m_sizeOf l dr) (va_cwS 1 hw (gw_S wb_55 wb_56 wb_1 wb_57) rfl rfl rfl (by decide +kernel) ⟨Nat.le_of_ble_eq_true rfl, Nat.le_of_ble_eq_true rfl⟩) preEq rfl rfl hl.1 rfl (lv_room (Nat.le_of_ble_eq_true rfl)) dX0_literal_83 ⟨Nat.le_of_ble_eq_true rfl, Nat.le_of_ble_eq_true rfl⟩) (fun r3 h3 => ?_)
            subst h3
            refine lv_imul hx hb dX0_literal_86 ?_
            refine lv_lshl (v := (((lt_abs k) - 1).toInt64) <<< ((4 * (nI (pb_sz dr))).toInt64 &&& 63)) hx hb dX0_literal_87 rfl ?_
            refine lv_lor hx hb dX0_literal_88 ?_
            refine va_put (D := (dC, dI)) (ci := 0) (v := .long (dO ||| ((((lt_abs k) - 1).toInt64) <<< ((4 * (nI (pb_sz dr))).toInt64 &&& 63)))) (ty := .long) (C := RX0) (T := TX0) (N := 10) hx hb hw inX0 tyX0 tyX0_ok nmX0 hown hK hP hD hS 0 rfl rfl 9 (by decide) (hw _ wb_26) (fun _ h9 => h9) rfl (by decide +kernel) rfl rfl (Nat.le_of_ble_eq_true rfl) dX0_literal_89 (fun H locs hP hD hS => ?_)
            have hP : va_P (dC, dI) cls2 (XW ax yx (cc, tc, fc, hc, dr, dO ||| ((((lt_abs k) - 1).toInt64) <<< ((4 * (nI (pb_sz dr))).toInt64 &&& 63)), fC, fO, fT, fH)) H := hP
            have hD : va_D A (XW ax yx (cc, tc, fc, hc, dr, dO ||| ((((lt_abs k) - 1).toInt64) <<< ((4 * (nI (pb_sz dr))).toInt64 &&& 63)), fC, fO, fT, fH)) := hD
            refine lv_aload_n hx hb dX0_literal_92 rfl (lv_at hl 2 rfl) ?_
            refine lv_dup hx hb dX0_literal_93 rfl ?_
            refine va_get (D := (dC, dI)) (ci := 0) (v := .int dr) (C := RX0) (T := TX0) (N := 10) hx hb hw inX0 hown hK hP 0 rfl rfl 8 (by decide) (hw _ wb_25) (fun _ h9 => h9) rfl dX0_literal_94 ?_
            refine lv_iload_n hx hb dX0_literal_97 rfl (lv_at hl 1 rfl) ?_
            refine lv_ior hx hb dX0_literal_98 ?_
            refine va_put (D := (dC, dI)) (ci := 0) (v := .int (dr ||| (mk_bit k))) (ty := .int) (C := RX0) (T := TX0) (N := 10) hx hb hw inX0 tyX0 tyX0_ok nmX0 hown hK hP hD hS 0 rfl rfl 8 (by decide) (hw _ wb_25) (fun _ h9 => h9) rfl (by decide +kernel) rfl rfl (Nat.le_of_ble_eq_true rfl) dX0_literal_99 (fun H locs hP hD hS => ?_)
            have hP : va_P (dC, dI) cls2 (XW ax yx (cc, tc, fc, hc, dr ||| (mk_bit k), dO ||| ((((lt_abs k) - 1).toInt64) <<< ((4 * (nI (pb_sz dr))).toInt64 &&& 63)), fC, fO, fT, fH)) H := hP
            have hD : va_D A (XW ax yx (cc, tc, fc, hc, dr ||| (mk_bit k), dO ||| ((((lt_abs k) - 1).toInt64) <<< ((4 * (nI (pb_sz dr))).toInt64 &&& 63)), fC, fO, fT, fH)) := hD
            refine lv_aload_n hx hb dX0_literal_102 rfl (lv_at hl 2 rfl) ?_
            refine va_get (D := (dC, dI)) (ci := 0) (v := .int (dr ||| (mk_bit k))) (C := RX0) (T := TX0) (N := 10) hx hb hw inX0 hown hK hP 0 rfl rfl 8 (by decide) (hw _ wb_25) (fun _ h9 => h9) rfl dX0_literal_103 ?_
            refine vp_callSi (W.runS (As := [.int (dr ||| (mk_bit k))]) (rest := []) ⟨hx, hb, hml, hown, hw⟩ (m_sizeOf l (dr ||| mk_bit k)) (va_cwS 1 hw (gw_S wb_55 wb_56 wb_1 wb_57) rfl rfl rfl (by decide +kernel) ⟨Nat.le_of_ble_eq_true rfl, Nat.le_of_ble_eq_true rfl⟩) preEq rfl rfl hl.1 rfl (lv_room (Nat.le_of_ble_eq_true rfl)) dX0_literal_106 ⟨Nat.le_of_ble_eq_true rfl, Nat.le_of_ble_eq_true rfl⟩) (fun r4 h4 => ?_)
            refine vx_ret ?_
            refine W.widen (k := 1) (n := 6) (by decide) (by decide) ?_
            exact W.iret (v := r4) hx hb hrt (fun t ht hW => ⟨⟨_, _, rfl, ⟨fun h => h.elim c1 (fun h => h.elim c2 (fun h => h.elim (fun h => absurd h (Int32.not_lt.mpr c3)) (fun h => h c4))), h4, rfl⟩, by rw [ht]; exact hP, va_K.moved hW.alike hK, hD⟩, hS.F ht⟩) hS.2.2 dX0_literal_109
        · skip
          exact thr_I 42 "the draft has this variable" (by decide) hx hb hl9 hown hw hT (by rw [hml]; exact hl.1) dX0_literal_48 dX0_literal_51 dX0_literal_52 dX0_literal_54 dX0_literal_57 hnt (Nat.le_of_ble_eq_true rfl) (Nat.le_of_ble_eq_true rfl) (Nat.le_of_ble_eq_true rfl) (Nat.le_of_ble_eq_true rfl) hlocks (fun t h2 h3 => ⟨(), Or.inr (Or.inr (Or.inr c4)), rfl, h2, fun q h1 _ => h3 q h1⟩) (Nat.le_of_ble_eq_true rfl) (Nat.le_of_ble_eq_true rfl)
      · skip
        exact thr_I 26 "not a literal" (by decide) hx hb hl9 hown hw hT (by rw [hml]; exact hl.1) dX0_literal_16 dX0_literal_19 dX0_literal_20 dX0_literal_22 dX0_literal_25 hnt (Nat.le_of_ble_eq_true rfl) (Nat.le_of_ble_eq_true rfl) (Nat.le_of_ble_eq_true rfl) (Nat.le_of_ble_eq_true rfl) hlocks (fun t h2 h3 => ⟨(), Or.inr (Or.inr (Or.inl (Int32.not_le.mp c3))), rfl, h2, fun q h1 _ => h3 q h1⟩) (Nat.le_of_ble_eq_true rfl) (Nat.le_of_ble_eq_true rfl)
set_option maxHeartbeats 4000000 in
set_option maxRecDepth 100000 in
/-- hint -/
theorem m_hint (l : Launch) (hl9 : l.stackTraces = false) (dC : Nat → ClassId) (dI : Nat → Nat → Nat) (ax : Nat → Nat) (yx : Nat → ClassId) (sz0 : Nat) (cc tc fc hc dr : Int32) (dO : Int64) (fC : Nat → Int32) (fO : Nat → Int64) (fT fH : Nat → Int32) (k : Int32) (q : Nat) (ehc : hc = nI q) (hq40 : q ≤ 40) : vx_Met l yX0_hint wsX0_hint (rmN 6 1 6) (va_Pc [.ref (ax 0), .int k] (fun U => preX dC dI ax yx sz0 (cc, tc, fc, hc, dr, dO, fC, fO, fT, fH) U ∧ ThU U)) (va_Qi (fun (r : Int32) (u : XS) => ¬ (k < 0 ∨ ¬ k < 600) ∧ hc < 40 ∧ r = hc + 1 ∧ u = (cc, tc, fc, hc + 1, dr, dO, fC, fO, fT, upd fH hc.toNatClampNeg k)) (atX dC dI (va_A (XW ax yx (cc, tc, fc, hc, dr, dO, fC, fO, fT, fH)) sz0) ax yx) (va_A (XW ax yx (cc, tc, fc, hc, dr, dO, fC, fO, fT, fH)) sz0)) (vx_X (fun (_ : Unit) => True) (fun E _ _ => (E = IAE ∧ (k < 0 ∨ ¬ k < 600)) ∨ (E = ISE ∧ ¬ (k < 0 ∨ ¬ k < 600) ∧ ¬ hc < 40)) (fun q => sz0 ≤ q)) 1 6 (va_A (XW ax yx (cc, tc, fc, hc, dr, dO, fC, fO, fT, fH)) sz0) := by
  refine vx_ofW (cc := cX0_hint) (maxL := 2) (ret := (some .int)) (by decide) rfl ?_
  intro p e s m args below meth c s₁ B hml hnt hv
  obtain ⟨rfl, ⟨hsz, hP, hK, hD0⟩, hT⟩ := hv
  have hx := B.exec
  have hb := B.bytes
  have hrt := B.returns
  have hlocks := B.notSynchronized
  have hts := atoms_spec (ws := wsX0_hint) B.pre
  have hw : ∀ w ∈ WB, w.before ([.ref (ax 0), .int k] : List Value).toArray s = true := fun w h => hts w (List.mem_cons_of_mem _ h)
  have hown : s.vm.findClass "ProofBench" = some m.cls := findClass_of_methodNamed B.named
  subst hsz
  have hD := hD0.self (sz := s.heap.size)
  generalize hAe : va_A (XW ax yx (cc, tc, fc, hc, dr, dO, fC, fO, fT, fH)) s.heap.size = A at hD ⊢
  have hA : ∀ q : Nat, s.heap.size ≤ q → A q := fun q h => by rw [← hAe]; exact Or.inr h
  have hS : va_S A s.heap s.heap [] := va_S.rf
  have hP : va_P (dC, dI) cls2 (XW ax yx (cc, tc, fc, hc, dr, dO, fC, fO, fT, fH)) s.heap := hP
  have hl := lv_entry ([.ref (ax 0), .int k]) (n := 2) (Nat.le_of_ble_eq_true rfl)
  rw [lg_entry_eq]
  generalize (lg_sl ([.ref (ax 0), .int k]) ++ List.replicate (2 - (lg_sl ([.ref (ax 0), .int k])).length) Slot.unset).toArray = ls at hl ⊢
  have hl : lv_has ls 2 [(0, .ref (ax 0)), (1, .int k)] := hl
  refine lv_iload_n hx hb dX0_hint_0 rfl (lv_at hl 1 rfl) ?_
  refine lv_if_lt (tgt := 11) hx hb dX0_hint_1 (by decide) (fun c1 => ?_) (fun c1 => ?_)
  · skip
    exact thr_I 51 "not a clause's number" (by decide) hx hb hl9 hown hw hT (by rw [hml]; exact hl.1) dX0_hint_11 dX0_hint_14 dX0_hint_15 dX0_hint_17 dX0_hint_20 hnt (Nat.le_of_ble_eq_true rfl) (Nat.le_of_ble_eq_true rfl) (Nat.le_of_ble_eq_true rfl) (Nat.le_of_ble_eq_true rfl) hlocks (fun t h2 h3 => ⟨(), trivial, Or.inl ⟨rfl, Or.inl c1⟩, h2, fun q h1 _ => h3 q h1⟩) (Nat.le_of_ble_eq_true rfl) (Nat.le_of_ble_eq_true rfl)
  · skip
    refine lv_iload_n hx hb dX0_hint_4 rfl (lv_at hl 1 rfl) ?_
    refine lv_sipush (v := 600) hx hb dX0_hint_5 (by decide) ?_
    refine lv_icmp_lt (tgt := 21) hx hb dX0_hint_8 (by decide) (fun c2 => ?_) (fun c2 => ?_)
    · skip
      refine lv_aload_n hx hb dX0_hint_21 rfl (lv_at hl 0 rfl) ?_
      refine va_get (D := (dC, dI)) (ci := 0) (v := .int hc) (C := RX0) (T := TX0) (N := 10) hx hb hw inX0 hown hK hP 0 rfl rfl 7 (by decide) (hw _ wb_24) (fun _ h9 => h9) rfl dX0_hint_22 ?_
      refine lv_bipush (v := 40) hx hb dX0_hint_25 (by decide) ?_
      refine lv_icmp_lt (tgt := 40) hx hb dX0_hint_27 (by decide) (fun c3 => ?_) (fun c3 => ?_)
      · skip
        have hin : vp_in hc 40 := in_c (cc := 40) (n := 40) (by decide) (Nat.le_refl _) (by decide) (by rw [ehc]; exact nI_pos (by omega)) (Int32.not_le.mpr c3)
        refine lv_aload_n hx hb dX0_hint_40 rfl (lv_at hl 0 rfl) ?_
        refine va_get (D := (dC, dI)) (ci := 0) (v := .ref (ax 4)) (C := RX0) (T := TX0) (N := 10) hx hb hw inX0 hown hK hP 0 rfl rfl 3 (by decide) (hw _ wb_20) (fun _ h9 => h9) rfl dX0_hint_41 ?_
        refine lv_aload_n hx hb dX0_hint_44 rfl (lv_at hl 0 rfl) ?_
        refine va_get (D := (dC, dI)) (ci := 0) (v := .int hc) (C := RX0) (T := TX0) (N := 10) hx hb hw inX0 hown hK hP 0 rfl rfl 7 (by decide) (hw _ wb_24) (fun _ h9 => h9) rfl dX0_hint_45 ?_
        refine lv_iload_n hx hb dX0_hint_48 rfl (lv_at hl 1 rfl) ?_
        refine va_iast hx hb hK hP hD hS 4 3 rfl rfl hin dX0_hint_49 (fun H locs hP hD hS => ?_)
        have hP : va_P (dC, dI) cls2 (XW ax yx (cc, tc, fc, hc, dr, dO, fC, fO, fT, upd fH hc.toNatClampNeg k)) H := hP
        have hD : va_D A (XW ax yx (cc, tc, fc, hc, dr, dO, fC, fO, fT, upd fH hc.toNatClampNeg k)) := hD
        refine lv_aload_n hx hb dX0_hint_50 rfl (lv_at hl 0 rfl) ?_
        refine lv_dup hx hb dX0_hint_51 rfl ?_
        refine va_get (D := (dC, dI)) (ci := 0) (v := .int hc) (C := RX0) (T := TX0) (N := 10) hx hb hw inX0 hown hK hP 0 rfl rfl 7 (by decide) (hw _ wb_24) (fun _ h9 => h9) rfl dX0_hint_52 ?_
        refine lv_iconst (v := 1) hx hb dX0_hint_55 (by decide) ?_
        refine lv_iadd hx hb dX0_hint_56 ?_
        refine va_put (D := (dC, dI)) (ci := 0) (v := .int (hc + 1)) (ty := .int) (C := RX0) (T := TX0) (N := 10) hx hb hw inX0 tyX0 tyX0_ok nmX0 hown hK hP hD hS 0 rfl rfl 7 (by decide) (hw _ wb_24) (fun _ h9 => h9) rfl (by decide +kernel) rfl rfl (Nat.le_of_ble_eq_true rfl) dX0_hint_57 (fun H locs hP hD hS => ?_)
        have hP : va_P (dC, dI) cls2 (XW ax yx (cc, tc, fc, hc + 1, dr, dO, fC, fO, fT, upd fH hc.toNatClampNeg k)) H := hP
        have hD : va_D A (XW ax yx (cc, tc, fc, hc + 1, dr, dO, fC, fO, fT, upd fH hc.toNatClampNeg k)) := hD
        refine lv_aload_n hx hb dX0_hint_60 rfl (lv_at hl 0 rfl) ?_
        refine va_get (D := (dC, dI)) (ci := 0) (v := .int (hc + 1)) (C := RX0) (T := TX0) (N := 10) hx hb hw inX0 hown hK hP 0 rfl rfl 7 (by decide) (hw _ wb_24) (fun _ h9 => h9) rfl dX0_hint_61 ?_
        refine vx_ret ?_
        refine W.widen (k := 1) (n := 6) (by decide) (by decide) ?_
        exact W.iret (v := hc + 1) hx hb hrt (fun t ht hW => ⟨⟨_, _, rfl, ⟨fun h => h.elim c1 (fun h => h c2), c3, rfl, rfl⟩, by rw [ht]; exact hP, va_K.moved hW.alike hK, hD⟩, hS.F ht⟩) hS.2.2 dX0_hint_64
      · skip
        exact thr_S 58 "no room for another hint" (by decide) hx hb hl9 hown hw hT (by rw [hml]; exact hl.1) dX0_hint_30 dX0_hint_33 dX0_hint_34 dX0_hint_36 dX0_hint_39 hnt (Nat.le_of_ble_eq_true rfl) (Nat.le_of_ble_eq_true rfl) (Nat.le_of_ble_eq_true rfl) (Nat.le_of_ble_eq_true rfl) hlocks (fun t h2 h3 => ⟨(), trivial, Or.inr ⟨rfl, fun h => h.elim c1 (fun h => h c2), c3⟩, h2, fun q h1 _ => h3 q h1⟩) (Nat.le_of_ble_eq_true rfl) (Nat.le_of_ble_eq_true rfl)
    · skip
      exact thr_I 51 "not a clause's number" (by decide) hx hb hl9 hown hw hT (by rw [hml]; exact hl.1) dX0_hint_11 dX0_hint_14 dX0_hint_15 dX0_hint_17 dX0_hint_20 hnt (Nat.le_of_ble_eq_true rfl) (Nat.le_of_ble_eq_true rfl) (Nat.le_of_ble_eq_true rfl) (Nat.le_of_ble_eq_true rfl) hlocks (fun t h2 h3 => ⟨(), trivial, Or.inl ⟨rfl, Or.inr c2⟩, h2, fun q h1 _ => h3 q h1⟩) (Nat.le_of_ble_eq_true rfl) (Nat.le_of_ble_eq_true rfl)
set_option maxHeartbeats 4000000 in
set_option maxRecDepth 100000 in
/-- drop -/
theorem m_drop (l : Launch) (hl9 : l.stackTraces = false) (dC : Nat → ClassId) (dI : Nat → Nat → Nat) (ax : Nat → Nat) (yx : Nat → ClassId) (sz0 : Nat) (cc tc fc hc dr : Int32) (dO : Int64) (fC : Nat → Int32) (fO : Nat → Int64) (fT fH : Nat → Int32) (k : Int32) (n : Nat) (hn : n ≤ 600) (ecc : cc = nI n) : vx_Met l yX0_drop wsX0_drop (rmN 7 1 6) (va_Pc [.ref (ax 0), .int k] (fun U => preX dC dI ax yx sz0 (cc, tc, fc, hc, dr, dO, fC, fO, fT, fH) U ∧ ThU U)) (va_Qi (fun (r : Int32) (u : XS) => th_b cc fT k ≠ 0 ∧ r = nI (pb_sz (fC k.toNatClampNeg)) ∧ u = (cc, tc - 1, fc, hc, dr, dO, fC, fO, upd fT k.toNatClampNeg (vp_nar .boolean 0), fH)) (atX dC dI (va_A (XW ax yx (cc, tc, fc, hc, dr, dO, fC, fO, fT, fH)) sz0) ax yx) (va_A (XW ax yx (cc, tc, fc, hc, dr, dO, fC, fO, fT, fH)) sz0)) (vx_X (fun (_ : Unit) => th_b cc fT k = 0) (fun E _ _ => E = IAE) (fun q => sz0 ≤ q)) 1 6 (va_A (XW ax yx (cc, tc, fc, hc, dr, dO, fC, fO, fT, fH)) sz0) := by
  refine vx_ofW (cc := cX0_drop) (maxL := 2) (ret := (some .int)) (by decide) rfl ?_
  intro p e s m args below meth c s₁ B hml hnt hv
  obtain ⟨rfl, ⟨hsz, hP, hK, hD0⟩, hT⟩ := hv
  have hx := B.exec
  have hb := B.bytes
  have hrt := B.returns
  have hlocks := B.notSynchronized
  have hts := atoms_spec (ws := wsX0_drop) B.pre
  have hw : ∀ w ∈ WB, w.before ([.ref (ax 0), .int k] : List Value).toArray s = true := fun w h => hts w (List.mem_cons_of_mem _ h)
  have hown : s.vm.findClass "ProofBench" = some m.cls := findClass_of_methodNamed B.named
  subst hsz
  have hD := hD0.self (sz := s.heap.size)
  generalize hAe : va_A (XW ax yx (cc, tc, fc, hc, dr, dO, fC, fO, fT, fH)) s.heap.size = A at hD ⊢
  have hA : ∀ q : Nat, s.heap.size ≤ q → A q := fun q h => by rw [← hAe]; exact Or.inr h
  have hS : va_S A s.heap s.heap [] := va_S.rf
  have hP : va_P (dC, dI) cls2 (XW ax yx (cc, tc, fc, hc, dr, dO, fC, fO, fT, fH)) s.heap := hP
  have hl := lv_entry ([.ref (ax 0), .int k]) (n := 2) (Nat.le_of_ble_eq_true rfl)
  rw [lg_entry_eq]
  generalize (lg_sl ([.ref (ax 0), .int k]) ++ List.replicate (2 - (lg_sl ([.ref (ax 0), .int k])).length) Slot.unset).toArray = ls at hl ⊢
  have hl : lv_has ls 2 [(0, .ref (ax 0)), (1, .int k)] := hl
  refine lv_aload_n hx hb dX0_drop_0 rfl (lv_at hl 0 rfl) ?_
  refine lv_iload_n hx hb dX0_drop_1 rfl (lv_at hl 1 rfl) ?_
  refine vx_csv (A0 := fun q => s.heap.size ≤ q) (H0 := s.heap) (vx_runV (As := [.int k]) (rest := []) ⟨hx, hb, hml, hown, hw⟩ (m_refuseIfNotThere l hl9 dC dI ax yx s.heap.size cc tc fc hc dr dO fC fO fT fH k n hn ecc) (cwV 1 hw (gw_V wb_239 wb_241 wbs_6 wb_1 wb_242) rfl rfl rfl (by decide +kernel) ⟨Nat.le_of_ble_eq_true rfl, Nat.le_of_ble_eq_true rfl⟩) ⟨blind_rdXT, va_recv hK hP (ci := 0) (q0 := 0) rfl rfl, fun U hU hW => ⟨rfl, by rw [hU], ⟨by rw [hU]; exact hP, va_K.moved hW.alike hK⟩, ThU.at hU hW hT⟩⟩ rfl rfl hl.1 rfl (lv_room (Nat.le_of_ble_eq_true rfl)) dX0_drop_2 ⟨(Nat.le_of_ble_eq_true rfl), (Nat.le_of_ble_eq_true rfl)⟩) va_S.rf (fun q _ h => h) ?_ (fun h1 => ?_)
  · intro E ce q9 u t H1 ht ha hpx hBX h1 h2 h3 hce hcv hcl
    exact vx_out (fun x hx => (hnt x hx).elim) hlocks hce hcv hcl (fun t ht ha => ⟨(), hpx, hBX, by rw [ht]; exact h1, fun q hq hn => by rw [ht]; exact h2 q hq hn⟩) (fun _ h => nomatch h) (Nat.le_of_ble_eq_true rfl) (Nat.le_of_ble_eq_true rfl)
  have hin : vp_in k 600 := th_in ecc hn h1
  refine lv_aload_n hx hb dX0_drop_5 rfl (lv_at hl 0 rfl) ?_
  refine va_get (D := (dC, dI)) (ci := 0) (v := .ref (ax 3)) (C := RX0) (T := TX0) (N := 10) hx hb hw inX0 hown hK hP 0 rfl rfl 2 (by decide) (hw _ wb_19) (fun _ h9 => h9) rfl dX0_drop_6 ?_
  refine lv_iload_n hx hb dX0_drop_9 rfl (lv_at hl 1 rfl) ?_
  refine lv_iconst (v := 0) hx hb dX0_drop_10 (by decide) ?_
  refine va_zast hx hb hK hP hD hS 3 2 rfl rfl hin dX0_drop_11 (fun H locs hP hD hS => ?_)
  have hP : va_P (dC, dI) cls2 (XW ax yx (cc, tc, fc, hc, dr, dO, fC, fO, upd fT k.toNatClampNeg (vp_nar .boolean 0), fH)) H := hP
  have hD : va_D A (XW ax yx (cc, tc, fc, hc, dr, dO, fC, fO, upd fT k.toNatClampNeg (vp_nar .boolean 0), fH)) := hD
  refine lv_aload_n hx hb dX0_drop_12 rfl (lv_at hl 0 rfl) ?_
  refine lv_dup hx hb dX0_drop_13 rfl ?_
  refine va_get (D := (dC, dI)) (ci := 0) (v := .int tc) (C := RX0) (T := TX0) (N := 10) hx hb hw inX0 hown hK hP 0 rfl rfl 5 (by decide) (hw _ wb_22) (fun _ h9 => h9) rfl dX0_drop_14 ?_
  refine lv_iconst (v := 1) hx hb dX0_drop_17 (by decide) ?_
  refine lv_isub hx hb dX0_drop_18 ?_
  refine va_put (D := (dC, dI)) (ci := 0) (v := .int (tc - 1)) (ty := .int) (C := RX0) (T := TX0) (N := 10) hx hb hw inX0 tyX0 tyX0_ok nmX0 hown hK hP hD hS 0 rfl rfl 5 (by decide) (hw _ wb_22) (fun _ h9 => h9) rfl (by decide +kernel) rfl rfl (Nat.le_of_ble_eq_true rfl) dX0_drop_19 (fun H locs hP hD hS => ?_)
  have hP : va_P (dC, dI) cls2 (XW ax yx (cc, tc - 1, fc, hc, dr, dO, fC, fO, upd fT k.toNatClampNeg (vp_nar .boolean 0), fH)) H := hP
  have hD : va_D A (XW ax yx (cc, tc - 1, fc, hc, dr, dO, fC, fO, upd fT k.toNatClampNeg (vp_nar .boolean 0), fH)) := hD
  refine lv_aload_n hx hb dX0_drop_22 rfl (lv_at hl 0 rfl) ?_
  refine va_get (D := (dC, dI)) (ci := 0) (v := .ref (ax 1)) (C := RX0) (T := TX0) (N := 10) hx hb hw inX0 hown hK hP 0 rfl rfl 0 (by decide) (hw _ wb_17) (fun _ h9 => h9) rfl dX0_drop_23 ?_
  refine lv_iload_n hx hb dX0_drop_26 rfl (lv_at hl 1 rfl) ?_
  refine va_iald hx hb hK hP 1 0 rfl rfl hin dX0_drop_27 ?_
  refine vp_callSi (W.runS (As := [.int (fC k.toNatClampNeg)]) (rest := []) ⟨hx, hb, hml, hown, hw⟩ (m_sizeOf l (fC k.toNatClampNeg)) (va_cwS 1 hw (gw_S wb_55 wb_56 wb_1 wb_57) rfl rfl rfl (by decide +kernel) ⟨Nat.le_of_ble_eq_true rfl, Nat.le_of_ble_eq_true rfl⟩) preEq rfl rfl hl.1 rfl (lv_room (Nat.le_of_ble_eq_true rfl)) dX0_drop_28 ⟨Nat.le_of_ble_eq_true rfl, Nat.le_of_ble_eq_true rfl⟩) (fun r4 h4 => ?_)
  refine vx_ret ?_
  refine W.widen (k := 1) (n := 6) (by decide) (by decide) ?_
  exact W.iret (v := r4) hx hb hrt (fun t ht hW => ⟨⟨_, _, rfl, ⟨h1, h4, rfl⟩, by rw [ht]; exact hP, va_K.moved hW.alike hK, hD⟩, hS.F ht⟩) hS.2.2 dX0_drop_31
set_option maxHeartbeats 4000000 in
set_option maxRecDepth 100000 in
/-- at -/
theorem m_at (l : Launch) (hl9 : l.stackTraces = false) (dC : Nat → ClassId) (dI : Nat → Nat → Nat) (ax : Nat → Nat) (yx : Nat → ClassId) (sz0 : Nat) (cc tc fc hc dr : Int32) (dO : Int64) (fC : Nat → Int32) (fO : Nat → Int64) (fT fH : Nat → Int32) (k : Int32) (i : Int32) (n : Nat) (hn : n ≤ 600) (ecc : cc = nI n) : vx_Met l yX0_at wsX0_at (rmN 7 2 12) (va_Pc [.ref (ax 0), .int k, .int i] (fun U => U.heap.size = sz0 ∧ rdX dC dI ax yx (cc, tc, fc, hc, dr, dO, fC, fO, fT, fH) U ∧ ThU U)) (vp_Si (fun r => th_b cc fT k ≠ 0 ∧ ¬ i < 0 ∧ r = at_val (fC k.toNatClampNeg) (fO k.toNatClampNeg) i)) (vx_X (fun (_ : Unit) => th_b cc fT k = 0 ∨ i < 0) (fun E _ _ => E = IAE) (fun q => sz0 ≤ q)) 2 12 (fun _ => False) := by
  refine vx_ofW (cc := cX0_at) (maxL := 5) (ret := (some .int)) (by decide) rfl ?_
  intro p e s m args below meth c s₁ B hml hnt hv
  obtain ⟨rfl, hsz, ⟨hP, hK⟩, hT⟩ := hv
  have hx := B.exec
  have hb := B.bytes
  have hrt := B.returns
  have hlocks := B.notSynchronized
  have hts := atoms_spec (ws := wsX0_at) B.pre
  have hw : ∀ w ∈ WB, w.before ([.ref (ax 0), .int k, .int i] : List Value).toArray s = true := fun w h => hts w (List.mem_cons_of_mem _ h)
  have hown : s.vm.findClass "ProofBench" = some m.cls := findClass_of_methodNamed B.named
  have hP : va_P (dC, dI) cls2 (XW ax yx (cc, tc, fc, hc, dr, dO, fC, fO, fT, fH)) s.heap := hP
  have hl := lv_entry ([.ref (ax 0), .int k, .int i]) (n := 5) (Nat.le_of_ble_eq_true rfl)
  rw [lg_entry_eq]
  generalize (lg_sl ([.ref (ax 0), .int k, .int i]) ++ List.replicate (5 - (lg_sl ([.ref (ax 0), .int k, .int i])).length) Slot.unset).toArray = ls at hl ⊢
  have hl : lv_has ls 5 [(0, .ref (ax 0)), (1, .int k), (2, .int i)] := hl
  refine lv_aload_n hx hb dX0_at_0 rfl (lv_at hl 0 rfl) ?_
  refine lv_iload_n hx hb dX0_at_1 rfl (lv_at hl 1 rfl) ?_
  refine vx_csv (A0 := fun q => s.heap.size ≤ q) (H0 := s.heap) (vx_runV (As := [.int k]) (rest := []) ⟨hx, hb, hml, hown, hw⟩ (m_refuseIfNotThere l hl9 dC dI ax yx s.heap.size cc tc fc hc dr dO fC fO fT fH k n hn ecc) (cwV 1 hw (gw_V wb_239 wb_241 wbs_6 wb_1 wb_242) rfl rfl rfl (by decide +kernel) ⟨Nat.le_of_ble_eq_true rfl, Nat.le_of_ble_eq_true rfl⟩) ⟨blind_rdXT, va_recv hK hP (ci := 0) (q0 := 0) rfl rfl, fun U hU hW => ⟨rfl, by rw [hU], ⟨by rw [hU]; exact hP, va_K.moved hW.alike hK⟩, ThU.at hU hW hT⟩⟩ rfl rfl hl.1 rfl (lv_room (Nat.le_of_ble_eq_true rfl)) dX0_at_2 ⟨(Nat.le_of_ble_eq_true rfl), (Nat.le_of_ble_eq_true rfl)⟩) va_S.rf (fun q _ h => h) ?_ (fun h1 => ?_)
  · intro E ce q9 u t H1 ht ha hpx hBX h1 h2 h3 hce hcv hcl
    exact vx_out (fun x hx => (hnt x hx).elim) hlocks hce hcv hcl (fun t ht ha => ⟨(), Or.inl hpx, hBX, by rw [ht]; exact h1, fun q hq hn => by rw [ht]; exact h2 q hq (by rw [hsz]; exact hn)⟩) (fun _ h => nomatch h) (Nat.le_of_ble_eq_true rfl) (Nat.le_of_ble_eq_true rfl)
  have hin : vp_in k 600 := th_in ecc hn h1
  refine lv_iload_n hx hb dX0_at_5 rfl (lv_at hl 2 rfl) ?_
  refine lv_if_ge (tgt := 19) hx hb dX0_at_6 (by decide) (fun c1 => ?_) (fun c1 => ?_)
  · skip
    refine lv_aload_n hx hb dX0_at_19 rfl (lv_at hl 0 rfl) ?_
    refine va_get (D := (dC, dI)) (ci := 0) (v := .ref (ax 1)) (C := RX0) (T := TX0) (N := 10) hx hb hw inX0 hown hK hP 0 rfl rfl 0 (by decide) (hw _ wb_17) (fun _ h9 => h9) rfl dX0_at_20 ?_
    refine lv_iload_n hx hb dX0_at_23 rfl (lv_at hl 1 rfl) ?_
    refine va_iald hx hb hK hP 1 0 rfl rfl hin dX0_at_24 ?_
    refine lv_topi (fun x9 ex9 => ?_)
    refine lv_istore_n (lv' := [(3, .int x9), (0, .ref (ax 0)), (1, .int k), (2, .int i)]) hx hb dX0_at_25 rfl hl (by decide) rfl (fun ls hl => ?_)
    refine lv_iload_n hx hb dX0_at_26 rfl (lv_at hl 3 rfl) ?_
    refine lv_iload_n hx hb dX0_at_27 rfl (lv_at hl 0 rfl) ?_
    refine vp_callSi (W.runS (As := [.int x9]) (rest := [.int i]) ⟨hx, hb, hml, hown, hw⟩ (m_sizeOf l x9) (va_cwS 1 hw (gw_S wb_55 wb_56 wb_1 wb_57) rfl rfl rfl (by decide +kernel) ⟨Nat.le_of_ble_eq_true rfl, Nat.le_of_ble_eq_true rfl⟩) preEq rfl rfl hl.1 rfl (lv_room (Nat.le_of_ble_eq_true rfl)) dX0_at_28 ⟨Nat.le_of_ble_eq_true rfl, Nat.le_of_ble_eq_true rfl⟩) (fun r1 hr1 => ?_)
    subst hr1
    refine lv_icmp_lt (tgt := 36) hx hb dX0_at_31 (by decide) (fun c2 => ?_) (fun c2 => ?_)
    · skip
      refine lv_aload_n hx hb dX0_at_36 rfl (lv_at hl 1 rfl) ?_
      refine va_get (D := (dC, dI)) (ci := 0) (v := .ref (ax 2)) (C := RX0) (T := TX0) (N := 10) hx hb hw inX0 hown hK hP 0 rfl rfl 1 (by decide) (hw _ wb_18) (fun _ h9 => h9) rfl dX0_at_37 ?_
      refine lv_iload_n hx hb dX0_at_40 rfl (lv_at hl 2 rfl) ?_
      refine va_lald hx hb hK hP 2 1 rfl rfl hin dX0_at_41 ?_
      refine lv_iconst (v := 4) hx hb dX0_at_42 (by decide) ?_
      refine lv_iload_n hx hb dX0_at_43 rfl (lv_at hl 3 rfl) ?_
      refine lv_imul hx hb dX0_at_44 ?_
      refine lv_lushr (v := pb_lu (fO k.toNatClampNeg) (4 * i)) hx hb dX0_at_45 rfl ?_
      refine lv_ldc2 (v := 15) hx hb hown (hw _ wb_252) dX0_at_46 ?_
      refine lv_land hx hb dX0_at_49 ?_
      refine lv_l2i (v := ((pb_lu (fO k.toNatClampNeg) (4 * i)) &&& 15).toInt32) hx hb dX0_at_50 rfl ?_
      refine lv_iconst (v := 1) hx hb dX0_at_51 (by decide) ?_
      refine lv_iadd hx hb dX0_at_52 ?_
      refine lv_topi (fun v9 ev9 => ?_)
      have ev9 : v9 = at_var (fO k.toNatClampNeg) i := ev9
      refine lv_istore (lv' := [(4, .int v9), (3, .int x9), (0, .ref (ax 0)), (1, .int k), (2, .int i)]) hx hb dX0_at_53 hl (by decide) rfl (fun ls hl => ?_)
      refine lv_iload_n hx hb dX0_at_55 rfl (lv_at hl 1 rfl) ?_
      refine lv_iload hx hb dX0_at_56 (lv_at hl 0 rfl) ?_
      refine vp_callSi (W.runS (As := [.int v9]) (rest := [.int x9]) ⟨hx, hb, hml, hown, hw⟩ (m_bitOf l v9) (va_cwS 1 hw (gw_S wb_164 wb_165 wb_1 wb_166) rfl rfl rfl (by decide +kernel) ⟨Nat.le_of_ble_eq_true rfl, Nat.le_of_ble_eq_true rfl⟩) preEq rfl rfl hl.1 rfl (lv_room (Nat.le_of_ble_eq_true rfl)) dX0_at_58 ⟨Nat.le_of_ble_eq_true rfl, Nat.le_of_ble_eq_true rfl⟩) (fun r2 hr2 => ?_)
      subst hr2
      refine lv_iand hx hb dX0_at_61 ?_
      refine lv_if_eq (tgt := 70) hx hb dX0_at_62 (by decide) (fun c3 => ?_) (fun c3 => ?_)
      · skip
        refine lv_iload hx hb dX0_at_70 (lv_at hl 0 rfl) ?_
        refine lv_ineg hx hb dX0_at_72 ?_
        refine vx_ret ?_
        refine W.widen (k := 2) (n := 12) (by decide) (by decide) ?_
        exact W.iret (v := -v9) hx hb hrt (fun t ht hW => ⟨_, rfl, ⟨h1, Int32.not_lt.mpr c1, by rw [at_val, ← ex9, if_pos c2, ← ev9, if_pos c3]⟩, ht⟩) (fun q h => nomatch h) dX0_at_73
      · skip
        refine lv_iload hx hb dX0_at_65 (lv_at hl 0 rfl) ?_
        refine lv_goto (tgt := 73) hx hb dX0_at_67 (by decide) ?_
        refine vx_ret ?_
        refine W.widen (k := 2) (n := 12) (by decide) (by decide) ?_
        exact W.iret (v := v9) hx hb hrt (fun t ht hW => ⟨_, rfl, ⟨h1, Int32.not_lt.mpr c1, by rw [at_val, ← ex9, if_pos c2, ← ev9, if_neg c3]⟩, ht⟩) (fun q h => nomatch h) dX0_at_73
    · skip
      refine lv_iconst (v := 0) hx hb dX0_at_34 (by decide) ?_
      refine vx_ret ?_
      refine W.widen (k := 2) (n := 12) (by decide) (by decide) ?_
      exact W.iret (v := 0) hx hb hrt (fun t ht hW => ⟨_, rfl, ⟨h1, Int32.not_lt.mpr c1, by rw [at_val, ← ex9, if_neg c2]⟩, ht⟩) (fun q h => nomatch h) dX0_at_35
  · skip
    exact thr_I 87 "no place in a clause" (by decide) hx hb hl9 hown hw hT (by rw [hml]; exact hl.1) dX0_at_9 dX0_at_12 dX0_at_13 dX0_at_15 dX0_at_18 hnt (Nat.le_of_ble_eq_true rfl) (Nat.le_of_ble_eq_true rfl) (Nat.le_of_ble_eq_true rfl) (Nat.le_of_ble_eq_true rfl) hlocks (fun t h2 h3 => ⟨(), Or.inr (Int32.not_le.mp c1), rfl, h2, fun q h1 _ => h3 q h1⟩) (Nat.le_of_ble_eq_true rfl) (Nat.le_of_ble_eq_true rfl)
set_option maxHeartbeats 4000000 in
set_option maxRecDepth 100000 in
/-- count -/
theorem m_count (l : Launch) (hl9 : l.stackTraces = false) (dC : Nat → ClassId) (dI : Nat → Nat → Nat) (ax : Nat → Nat) (yx : Nat → ClassId) (sz0 : Nat) (cc tc fc hc dr : Int32) (dO : Int64) (fC : Nat → Int32) (fO : Nat → Int64) (fT fH : Nat → Int32) (k : Int32) : vx_Met l yX0_count wsX0_count (rmN 6 1 6) (va_Pc [.ref (ax 0), .int k] (fun U => U.heap.size = sz0 ∧ rdX dC dI ax yx (cc, tc, fc, hc, dr, dO, fC, fO, fT, fH) U ∧ ThU U)) (vp_Si (fun r => ¬ (k < 0 ∨ 4 < k) ∧ r = cn_val cc tc fc hc dr k)) (vx_X (fun (_ : Unit) => k < 0 ∨ 4 < k) (fun E _ _ => E = IAE) (fun q => sz0 ≤ q)) 1 6 (fun _ => False) := by
  refine vx_ofW (cc := cX0_count) (maxL := 2) (ret := (some .int)) (by decide) rfl ?_
  intro p e s m args below meth c s₁ B hml hnt hv
  obtain ⟨rfl, hsz, ⟨hP, hK⟩, hT⟩ := hv
  have hx := B.exec
  have hb := B.bytes
  have hrt := B.returns
  have hlocks := B.notSynchronized
  have hts := atoms_spec (ws := wsX0_count) B.pre
  have hw : ∀ w ∈ WB, w.before ([.ref (ax 0), .int k] : List Value).toArray s = true := fun w h => hts w (List.mem_cons_of_mem _ h)
  have hown : s.vm.findClass "ProofBench" = some m.cls := findClass_of_methodNamed B.named
  have hP : va_P (dC, dI) cls2 (XW ax yx (cc, tc, fc, hc, dr, dO, fC, fO, fT, fH)) s.heap := hP
  have hl := lv_entry ([.ref (ax 0), .int k]) (n := 2) (Nat.le_of_ble_eq_true rfl)
  rw [lg_entry_eq]
  generalize (lg_sl ([.ref (ax 0), .int k]) ++ List.replicate (2 - (lg_sl ([.ref (ax 0), .int k])).length) Slot.unset).toArray = ls at hl ⊢
  have hl : lv_has ls 2 [(0, .ref (ax 0)), (1, .int k)] := hl
  refine lv_iload_n hx hb dX0_count_0 rfl (lv_at hl 1 rfl) ?_
  by_cases hbad : k < 0 ∨ 4 < k
  · refine lv_tableOut (tgt := 64) hx hb dX0_count_1 (hbad.elim (fun h => Or.inl (Int32.lt_iff_toInt_lt.mp h)) (fun h => Or.inr (Int32.lt_iff_toInt_lt.mp h))) (by decide) ?_
    exact thr_I 102 "nothing that is counted" (by decide) hx hb hl9 hown hw hT (by rw [hml]; exact hl.1) dX0_count_64 dX0_count_67 dX0_count_68 dX0_count_70 dX0_count_73 hnt (Nat.le_of_ble_eq_true rfl) (Nat.le_of_ble_eq_true rfl) (Nat.le_of_ble_eq_true rfl) (Nat.le_of_ble_eq_true rfl) hlocks (fun t h2 h3 => ⟨(), hbad, rfl, h2, fun q h1 _ => h3 q h1⟩) (Nat.le_of_ble_eq_true rfl) (Nat.le_of_ble_eq_true rfl)
  · obtain ⟨j, hj, ej⟩ := nI_of2 (x := k) (M := 4) (n := 4) (by decide) (fun h => hbad (Or.inl h)) (Int32.not_lt.mp (fun h => hbad (Or.inr h)))
    have h5 : j = 0 ∨ j = 1 ∨ j = 2 ∨ j = 3 ∨ j = 4 := by omega
    rcases h5 with e5 | e5 | e5 | e5 | e5 <;> subst e5
    · subst ej
      refine lv_tableIn (off := 35) (tgt := 36) hx hb dX0_count_1 (by decide) (by decide) (by decide) (by decide) ?_
      refine lv_aload_n hx hb dX0_count_36 rfl (lv_at hl 0 rfl) ?_
      refine va_get (D := (dC, dI)) (ci := 0) (v := .int cc) (C := RX0) (T := TX0) (N := 10) hx hb hw inX0 hown hK hP 0 rfl rfl 4 (by decide) (hw _ wb_21) (fun _ h9 => h9) rfl dX0_count_37 ?_
      refine vx_ret ?_
      refine W.widen (k := 1) (n := 6) (by decide) (by decide) ?_
      exact W.iret (v := cc) hx hb hrt (fun t ht hW => ⟨_, rfl, ⟨hbad, rfl⟩, ht⟩) (fun q h => nomatch h) dX0_count_40
    · subst ej
      refine lv_tableIn (off := 40) (tgt := 41) hx hb dX0_count_1 (by decide) (by decide) (by decide) (by decide) ?_
      refine lv_aload_n hx hb dX0_count_41 rfl (lv_at hl 0 rfl) ?_
      refine va_get (D := (dC, dI)) (ci := 0) (v := .int tc) (C := RX0) (T := TX0) (N := 10) hx hb hw inX0 hown hK hP 0 rfl rfl 5 (by decide) (hw _ wb_22) (fun _ h9 => h9) rfl dX0_count_42 ?_
      refine vx_ret ?_
      refine W.widen (k := 1) (n := 6) (by decide) (by decide) ?_
      exact W.iret (v := tc) hx hb hrt (fun t ht hW => ⟨_, rfl, ⟨hbad, rfl⟩, ht⟩) (fun q h => nomatch h) dX0_count_45
    · subst ej
      refine lv_tableIn (off := 45) (tgt := 46) hx hb dX0_count_1 (by decide) (by decide) (by decide) (by decide) ?_
      refine lv_aload_n hx hb dX0_count_46 rfl (lv_at hl 0 rfl) ?_
      refine va_get (D := (dC, dI)) (ci := 0) (v := .int fc) (C := RX0) (T := TX0) (N := 10) hx hb hw inX0 hown hK hP 0 rfl rfl 6 (by decide) (hw _ wb_23) (fun _ h9 => h9) rfl dX0_count_47 ?_
      refine vx_ret ?_
      refine W.widen (k := 1) (n := 6) (by decide) (by decide) ?_
      exact W.iret (v := fc) hx hb hrt (fun t ht hW => ⟨_, rfl, ⟨hbad, rfl⟩, ht⟩) (fun q h => nomatch h) dX0_count_50
    · subst ej
      refine lv_tableIn (off := 50) (tgt := 51) hx hb dX0_count_1 (by decide) (by decide) (by decide) (by decide) ?_
      refine lv_aload_n hx hb dX0_count_51 rfl (lv_at hl 0 rfl) ?_
      refine va_get (D := (dC, dI)) (ci := 0) (v := .int dr) (C := RX0) (T := TX0) (N := 10) hx hb hw inX0 hown hK hP 0 rfl rfl 8 (by decide) (hw _ wb_25) (fun _ h9 => h9) rfl dX0_count_52 ?_
      refine vp_callSi (W.runS (As := [.int dr]) (rest := []) ⟨hx, hb, hml, hown, hw⟩ (m_sizeOf l dr) (va_cwS 1 hw (gw_S wb_55 wb_56 wb_1 wb_57) rfl rfl rfl (by decide +kernel) ⟨Nat.le_of_ble_eq_true rfl, Nat.le_of_ble_eq_true rfl⟩) preEq rfl rfl hl.1 rfl (lv_room (Nat.le_of_ble_eq_true rfl)) dX0_count_55 ⟨Nat.le_of_ble_eq_true rfl, Nat.le_of_ble_eq_true rfl⟩) (fun r4 h4 => ?_)
      subst h4
      refine vx_ret ?_
      refine W.widen (k := 1) (n := 6) (by decide) (by decide) ?_
      exact W.iret (v := nI (pb_sz dr)) hx hb hrt (fun t ht hW => ⟨_, rfl, ⟨hbad, rfl⟩, ht⟩) (fun q h => nomatch h) dX0_count_58
    · subst ej
      refine lv_tableIn (off := 58) (tgt := 59) hx hb dX0_count_1 (by decide) (by decide) (by decide) (by decide) ?_
      refine lv_aload_n hx hb dX0_count_59 rfl (lv_at hl 0 rfl) ?_
      refine va_get (D := (dC, dI)) (ci := 0) (v := .int hc) (C := RX0) (T := TX0) (N := 10) hx hb hw inX0 hown hK hP 0 rfl rfl 7 (by decide) (hw _ wb_24) (fun _ h9 => h9) rfl dX0_count_60 ?_
      refine vx_ret ?_
      refine W.widen (k := 1) (n := 6) (by decide) (by decide) ?_
      exact W.iret (v := hc) hx hb hrt (fun t ht hW => ⟨_, rfl, ⟨hbad, rfl⟩, ht⟩) (fun q h => nomatch h) dX0_count_63
set_option maxHeartbeats 4000000 in
set_option maxRecDepth 100000 in
/-- give -/
theorem m_give (l : Launch) (dC : Nat → ClassId) (dI : Nat → Nat → Nat) (ax : Nat → Nat) (yx : Nat → ClassId) (sz0 : Nat) (cc tc fc hc dr : Int32) (dO : Int64) (fC : Nat → Int32) (fO : Nat → Int64) (fT fH : Nat → Int32)  (n : Nat) (hn : n < 600) (ecc : cc = nI n) : Met l yX0_give wsX0_give (rmN 2 0 0) (va_Pc [.ref (ax 0)] (preX dC dI ax yx sz0 (cc, tc, fc, hc, dr, dO, fC, fO, fT, fH))) (va_Qi (fun (r : Int32) (u : XS) => r = cc ∧ u = kp_S (cc, tc, fc, hc, dr, dO, fC, fO, fT, fH)) (atX dC dI (va_A (XW ax yx (cc, tc, fc, hc, dr, dO, fC, fO, fT, fH)) sz0) ax yx) (va_A (XW ax yx (cc, tc, fc, hc, dr, dO, fC, fO, fT, fH)) sz0)) 0 0 (va_A (XW ax yx (cc, tc, fc, hc, dr, dO, fC, fO, fT, fH)) sz0) := by
  refine Met.ofW (cc := cX0_give) (maxL := 1) (ret := (some .int)) (by decide) rfl ?_
  intro p e s m args below meth c s₁ B hml hv
  obtain ⟨rfl, hsz, hP, hK, hD0⟩ := hv
  have hx := B.exec
  have hb := B.bytes
  have hrt := B.returns
  have hlocks := B.notSynchronized
  have hts := atoms_spec (ws := wsX0_give) B.pre
  have hw : ∀ w ∈ WB, w.before ([.ref (ax 0)] : List Value).toArray s = true := fun w h => hts w (List.mem_cons_of_mem _ h)
  have hown : s.vm.findClass "ProofBench" = some m.cls := findClass_of_methodNamed B.named
  subst hsz
  have hD := hD0.self (sz := s.heap.size)
  generalize hAe : va_A (XW ax yx (cc, tc, fc, hc, dr, dO, fC, fO, fT, fH)) s.heap.size = A at hD ⊢
  have hA : ∀ q : Nat, s.heap.size ≤ q → A q := fun q h => by rw [← hAe]; exact Or.inr h
  have hS : va_S A s.heap s.heap [] := va_S.rf
  have hP : va_P (dC, dI) cls2 (XW ax yx (cc, tc, fc, hc, dr, dO, fC, fO, fT, fH)) s.heap := hP
  have hl := lv_entry ([.ref (ax 0)]) (n := 1) (Nat.le_of_ble_eq_true rfl)
  rw [lg_entry_eq]
  generalize (lg_sl ([.ref (ax 0)]) ++ List.replicate (1 - (lg_sl ([.ref (ax 0)])).length) Slot.unset).toArray = ls at hl ⊢
  have hl : lv_has ls 1 [(0, .ref (ax 0))] := hl
  refine lv_aload_n hx hb dX0_give_0 rfl (lv_at hl 0 rfl) ?_
  refine va_csv (W.runV (As := []) (rest := []) ⟨hx, hb, hml, hown, hw⟩ (m_refuseIfFull l dC dI ax yx cc tc fc hc dr dO fC fO fT fH n hn ecc) (cwV 0 hw (gw_V wb_200 wb_202 wbs_2 wb_1 wb_203) rfl rfl rfl (by decide +kernel) ⟨Nat.le_of_ble_eq_true rfl, Nat.le_of_ble_eq_true rfl⟩) ⟨blind_rdX, va_recv hK hP (ci := 0) (q0 := 0) rfl rfl, fun U hU hW => ⟨rfl, by rw [hU]; exact hP, va_K.moved hW.alike hK⟩⟩ rfl rfl hl.1 rfl (lv_room (Nat.le_of_ble_eq_true rfl)) dX0_give_1 ⟨Nat.le_of_ble_eq_true rfl, Nat.le_of_ble_eq_true rfl⟩) (fun _ => ?_)
  refine lv_aload_n hx hb dX0_give_4 rfl (lv_at hl 0 rfl) ?_
  have hFc := va_free (wc := XW ax yx (cc, tc, fc, hc, dr, dO, fC, fO, fT, fH)) hD hS hA [0, 1, 2, 3, 4] rfl
  refine va_calli (va_runV (As := []) (rest := []) ⟨hx, hb, hml, hown, hw⟩ (m_keepDraft l dC dI ax yx s.heap.size cc tc fc hc dr dO fC fO fT fH n hn ecc) (cwV 0 hw (gw_V wb_205 wb_207 wbs_3 wb_1 wb_208) rfl rfl rfl (by decide +kernel) ⟨Nat.le_of_ble_eq_true rfl, Nat.le_of_ble_eq_true rfl⟩) ⟨blind_preX, va_recv hK hP (ci := 0) (q0 := 0) rfl rfl, fun U hU hW => ⟨rfl, by rw [hU], by rw [hU]; exact hP, va_K.moved hW.alike hK, hD.weaken (fun _ _ _ _ => trivial)⟩⟩ rfl rfl hl.1 rfl (lv_room (Nat.le_of_ble_eq_true rfl)) dX0_give_5 ⟨Nat.le_of_ble_eq_true rfl, Nat.le_of_ble_eq_true rfl⟩) hS (fun q _ h => hFc q h) hFc (fun r1 u t H1 locs ht hvm hq hB hz1 hk1 hS => ?_)
  obtain ⟨hr1, rfl⟩ := hq
  obtain ⟨hP1, hK1, hD1⟩ := hB
  rw [ht] at hP1
  have hP : va_P (dC, dI) cls2 (XW ax yx (cc + 1, tc + 1, fc, hc, 0, 0, upd fC cc.toNatClampNeg dr, vp_updL fO cc.toNatClampNeg dO, upd fT cc.toNatClampNeg (vp_nar .boolean 1), fH)) H1 := hP1
  have hD : va_D A (XW ax yx (cc + 1, tc + 1, fc, hc, 0, 0, upd fC cc.toNatClampNeg dr, vp_updL fO cc.toNatClampNeg dO, upd fT cc.toNatClampNeg (vp_nar .boolean 1), fH)) := hD1.weaken (fun k q h _ => hFc q.1 (hD1.2 k q h))
  generalize H1 = H at hP hS ⊢
  exact W.iret (v := r1) hx hb hrt (fun t ht hW => ⟨⟨_, _, rfl, ⟨hr1, rfl⟩, by rw [ht]; exact hP, va_K.moved hW.alike hK, hD⟩, hS.F ht⟩) hS.2.2 dX0_give_8
set_option maxHeartbeats 4000000 in
set_option maxRecDepth 100000 in
/-- step -/
theorem m_step (l : Launch) (dC : Nat → ClassId) (dI : Nat → Nat → Nat) (ax : Nat → Nat) (yx : Nat → ClassId) (sz0 : Nat) (cc tc fc hc dr : Int32) (dO : Int64) (fC : Nat → Int32) (fO : Nat → Int64) (fT fH : Nat → Int32)  (n : Nat) (hn : n < 600) (ecc : cc = nI n) : Met l yX0_step wsX0_step (rmN 4 0 0) (va_Pc [.ref (ax 0)] (preX dC dI ax yx sz0 (cc, tc, fc, hc, dr, dO, fC, fO, fT, fH))) (va_Qi (fun (r : Int32) (u : XS) => (td_val (tl_rounds fC fT n 17 dr) dr = 17 ∧ r = cc ∧ u = kp_S (cc, tc, fc + 1, hc, dr, dO, fC, fO, fT, fH)) ∨ (¬ td_val (tl_rounds fC fT n 17 dr) dr = 17 ∧ r = -1 ∧ u = (cc, tc, fc, hc, dr, dO, fC, fO, fT, fH))) (atX dC dI (va_A (XW ax yx (cc, tc, fc, hc, dr, dO, fC, fO, fT, fH)) sz0) ax yx) (va_A (XW ax yx (cc, tc, fc, hc, dr, dO, fC, fO, fT, fH)) sz0)) 0 0 (va_A (XW ax yx (cc, tc, fc, hc, dr, dO, fC, fO, fT, fH)) sz0) := by
  refine Met.ofW (cc := cX0_step) (maxL := 1) (ret := (some .int)) (by decide) rfl ?_
  intro p e s m args below meth c s₁ B hml hv
  obtain ⟨rfl, hsz, hP, hK, hD0⟩ := hv
  have hx := B.exec
  have hb := B.bytes
  have hrt := B.returns
  have hlocks := B.notSynchronized
  have hts := atoms_spec (ws := wsX0_step) B.pre
  have hw : ∀ w ∈ WB, w.before ([.ref (ax 0)] : List Value).toArray s = true := fun w h => hts w (List.mem_cons_of_mem _ h)
  have hown : s.vm.findClass "ProofBench" = some m.cls := findClass_of_methodNamed B.named
  subst hsz
  have hD := hD0.self (sz := s.heap.size)
  generalize hAe : va_A (XW ax yx (cc, tc, fc, hc, dr, dO, fC, fO, fT, fH)) s.heap.size = A at hD ⊢
  have hA : ∀ q : Nat, s.heap.size ≤ q → A q := fun q h => by rw [← hAe]; exact Or.inr h
  have hS : va_S A s.heap s.heap [] := va_S.rf
  have hP : va_P (dC, dI) cls2 (XW ax yx (cc, tc, fc, hc, dr, dO, fC, fO, fT, fH)) s.heap := hP
  have hl := lv_entry ([.ref (ax 0)]) (n := 1) (Nat.le_of_ble_eq_true rfl)
  rw [lg_entry_eq]
  generalize (lg_sl ([.ref (ax 0)]) ++ List.replicate (1 - (lg_sl ([.ref (ax 0)])).length) Slot.unset).toArray = ls at hl ⊢
  have hl : lv_has ls 1 [(0, .ref (ax 0))] := hl
  refine lv_aload_n hx hb dX0_step_0 rfl (lv_at hl 0 rfl) ?_
  refine va_csv (W.runV (As := []) (rest := []) ⟨hx, hb, hml, hown, hw⟩ (m_refuseIfFull l dC dI ax yx cc tc fc hc dr dO fC fO fT fH n hn ecc) (cwV 0 hw (gw_V wb_200 wb_202 wbs_2 wb_1 wb_203) rfl rfl rfl (by decide +kernel) ⟨Nat.le_of_ble_eq_true rfl, Nat.le_of_ble_eq_true rfl⟩) ⟨blind_rdX, va_recv hK hP (ci := 0) (q0 := 0) rfl rfl, fun U hU hW => ⟨rfl, by rw [hU]; exact hP, va_K.moved hW.alike hK⟩⟩ rfl rfl hl.1 rfl (lv_room (Nat.le_of_ble_eq_true rfl)) dX0_step_1 ⟨Nat.le_of_ble_eq_true rfl, Nat.le_of_ble_eq_true rfl⟩) (fun _ => ?_)
  refine lv_aload_n hx hb dX0_step_4 rfl (lv_at hl 0 rfl) ?_
  refine vp_callSi (W.runV (As := []) (rest := []) ⟨hx, hb, hml, hown, hw⟩ (m_told l dC dI ax yx cc tc fc hc dr dO fC fO fT fH n (Nat.le_of_lt hn) ecc) (cwV 0 hw (gw_V wb_216 wb_69 wb_70 wb_1 wb_71) rfl rfl rfl (by decide +kernel) ⟨Nat.le_of_ble_eq_true rfl, Nat.le_of_ble_eq_true rfl⟩) ⟨blind_rdX, va_recv hK hP (ci := 0) (q0 := 0) rfl rfl, fun U hU hW => ⟨rfl, by rw [hU]; exact hP, va_K.moved hW.alike hK⟩⟩ rfl rfl hl.1 rfl (lv_room (Nat.le_of_ble_eq_true rfl)) dX0_step_5 ⟨Nat.le_of_ble_eq_true rfl, Nat.le_of_ble_eq_true rfl⟩) (fun r1 h1 => ?_)
  subst h1
  refine lv_bipush (v := 17) hx hb dX0_step_8 (by decide) ?_
  refine lv_icmp_eq (tgt := 15) hx hb dX0_step_10 (by decide) (fun c1 => ?_) (fun c1 => ?_)
  · skip
    refine lv_aload_n hx hb dX0_step_15 rfl (lv_at hl 0 rfl) ?_
    refine lv_dup hx hb dX0_step_16 rfl ?_
    refine va_get (D := (dC, dI)) (ci := 0) (v := .int fc) (C := RX0) (T := TX0) (N := 10) hx hb hw inX0 hown hK hP 0 rfl rfl 6 (by decide) (hw _ wb_23) (fun _ h9 => h9) rfl dX0_step_17 ?_
    refine lv_iconst (v := 1) hx hb dX0_step_20 (by decide) ?_
    refine lv_iadd hx hb dX0_step_21 ?_
    refine va_put (D := (dC, dI)) (ci := 0) (v := .int (fc + 1)) (ty := .int) (C := RX0) (T := TX0) (N := 10) hx hb hw inX0 tyX0 tyX0_ok nmX0 hown hK hP hD hS 0 rfl rfl 6 (by decide) (hw _ wb_23) (fun _ h9 => h9) rfl (by decide +kernel) rfl rfl (Nat.le_of_ble_eq_true rfl) dX0_step_22 (fun H locs hP hD hS => ?_)
    have hP : va_P (dC, dI) cls2 (XW ax yx (cc, tc, fc + 1, hc, dr, dO, fC, fO, fT, fH)) H := hP
    have hD : va_D A (XW ax yx (cc, tc, fc + 1, hc, dr, dO, fC, fO, fT, fH)) := hD
    refine lv_aload_n hx hb dX0_step_25 rfl (lv_at hl 0 rfl) ?_
    have hFc := va_free (wc := XW ax yx (cc, tc, fc + 1, hc, dr, dO, fC, fO, fT, fH)) hD hS hA [0, 1, 2, 3, 4] rfl
    refine va_calli (va_runV (As := []) (rest := []) ⟨hx, hb, hml, hown, hw⟩ (m_keepDraft l dC dI ax yx H.size cc tc (fc + 1) hc dr dO fC fO fT fH n hn ecc) (cwV 0 hw (gw_V wb_205 wb_207 wbs_3 wb_1 wb_208) rfl rfl rfl (by decide +kernel) ⟨Nat.le_of_ble_eq_true rfl, Nat.le_of_ble_eq_true rfl⟩) ⟨blind_preX, va_recv hK hP (ci := 0) (q0 := 0) rfl rfl, fun U hU hW => ⟨rfl, by rw [hU], by rw [hU]; exact hP, va_K.moved hW.alike hK, hD.weaken (fun _ _ _ _ => trivial)⟩⟩ rfl rfl hl.1 rfl (lv_room (Nat.le_of_ble_eq_true rfl)) dX0_step_26 ⟨Nat.le_of_ble_eq_true rfl, Nat.le_of_ble_eq_true rfl⟩) hS (fun q _ h => hFc q h) hFc (fun r1 u t H1 locs ht hvm hq hB hz1 hk1 hS => ?_)
    obtain ⟨hr1, rfl⟩ := hq
    obtain ⟨hP1, hK1, hD1⟩ := hB
    rw [ht] at hP1
    have hP : va_P (dC, dI) cls2 (XW ax yx (cc + 1, tc + 1, fc + 1, hc, 0, 0, upd fC cc.toNatClampNeg dr, vp_updL fO cc.toNatClampNeg dO, upd fT cc.toNatClampNeg (vp_nar .boolean 1), fH)) H1 := hP1
    have hD : va_D A (XW ax yx (cc + 1, tc + 1, fc + 1, hc, 0, 0, upd fC cc.toNatClampNeg dr, vp_updL fO cc.toNatClampNeg dO, upd fT cc.toNatClampNeg (vp_nar .boolean 1), fH)) := hD1.weaken (fun k q h _ => hFc q.1 (hD1.2 k q h))
    generalize H1 = H at hP hS ⊢
    exact W.iret (v := r1) hx hb hrt (fun t ht hW => ⟨⟨_, _, rfl, Or.inl ⟨c1, hr1, rfl⟩, by rw [ht]; exact hP, va_K.moved hW.alike hK, hD⟩, hS.F ht⟩) hS.2.2 dX0_step_29
  · skip
    refine lv_iconst (v := (-1)) hx hb dX0_step_13 (by decide) ?_
    exact W.iret (v := (-1)) hx hb hrt (fun t ht hW => ⟨⟨_, _, rfl, Or.inr ⟨c1, rfl, rfl⟩, by rw [ht]; exact hP, va_K.moved hW.alike hK, hD⟩, hS.F ht⟩) hS.2.2 dX0_step_14
set_option maxHeartbeats 4000000 in
set_option maxRecDepth 100000 in
/-- along -/
theorem m_along (l : Launch) (dC : Nat → ClassId) (dI : Nat → Nat → Nat) (ax : Nat → Nat) (yx : Nat → ClassId) (sz0 : Nat) (cc tc fc hc dr : Int32) (dO : Int64) (fC : Nat → Int32) (fO : Nat → Int64) (fT fH : Nat → Int32)  (n : Nat) (hn : n < 600) (ecc : cc = nI n) (q : Nat) (hq40 : q ≤ 40) (ehc : hc = nI q) : Met l yX0_along wsX0_along (rmN 4 0 0) (va_Pc [.ref (ax 0)] (preX dC dI ax yx sz0 (cc, tc, fc, hc, dr, dO, fC, fO, fT, fH))) (va_Qi (fun (r : Int32) (u : XS) => (bh_scan cc fC fT fH q 0 dr = -1 ∧ r = cc ∧ u = kp_S (cc, tc, fc + 1, 0, dr, dO, fC, fO, fT, fH)) ∨ (¬ bh_scan cc fC fT fH q 0 dr = -1 ∧ r = -1 - bh_scan cc fC fT fH q 0 dr ∧ u = (cc, tc, fc, hc, dr, dO, fC, fO, fT, fH))) (atX dC dI (va_A (XW ax yx (cc, tc, fc, hc, dr, dO, fC, fO, fT, fH)) sz0) ax yx) (va_A (XW ax yx (cc, tc, fc, hc, dr, dO, fC, fO, fT, fH)) sz0)) 0 0 (va_A (XW ax yx (cc, tc, fc, hc, dr, dO, fC, fO, fT, fH)) sz0) := by
  refine Met.ofW (cc := cX0_along) (maxL := 2) (ret := (some .int)) (by decide) rfl ?_
  intro p e s m args below meth c s₁ B hml hv
  obtain ⟨rfl, hsz, hP, hK, hD0⟩ := hv
  have hx := B.exec
  have hb := B.bytes
  have hrt := B.returns
  have hlocks := B.notSynchronized
  have hts := atoms_spec (ws := wsX0_along) B.pre
  have hw : ∀ w ∈ WB, w.before ([.ref (ax 0)] : List Value).toArray s = true := fun w h => hts w (List.mem_cons_of_mem _ h)
  have hown : s.vm.findClass "ProofBench" = some m.cls := findClass_of_methodNamed B.named
  subst hsz
  have hD := hD0.self (sz := s.heap.size)
  generalize hAe : va_A (XW ax yx (cc, tc, fc, hc, dr, dO, fC, fO, fT, fH)) s.heap.size = A at hD ⊢
  have hA : ∀ q : Nat, s.heap.size ≤ q → A q := fun q h => by rw [← hAe]; exact Or.inr h
  have hS : va_S A s.heap s.heap [] := va_S.rf
  have hP : va_P (dC, dI) cls2 (XW ax yx (cc, tc, fc, hc, dr, dO, fC, fO, fT, fH)) s.heap := hP
  have hl := lv_entry ([.ref (ax 0)]) (n := 2) (Nat.le_of_ble_eq_true rfl)
  rw [lg_entry_eq]
  generalize (lg_sl ([.ref (ax 0)]) ++ List.replicate (2 - (lg_sl ([.ref (ax 0)])).length) Slot.unset).toArray = ls at hl ⊢
  have hl : lv_has ls 2 [(0, .ref (ax 0))] := hl
  refine lv_aload_n hx hb dX0_along_0 rfl (lv_at hl 0 rfl) ?_
  refine va_csv (W.runV (As := []) (rest := []) ⟨hx, hb, hml, hown, hw⟩ (m_refuseIfFull l dC dI ax yx cc tc fc hc dr dO fC fO fT fH n hn ecc) (cwV 0 hw (gw_V wb_200 wb_202 wbs_2 wb_1 wb_203) rfl rfl rfl (by decide +kernel) ⟨Nat.le_of_ble_eq_true rfl, Nat.le_of_ble_eq_true rfl⟩) ⟨blind_rdX, va_recv hK hP (ci := 0) (q0 := 0) rfl rfl, fun U hU hW => ⟨rfl, by rw [hU]; exact hP, va_K.moved hW.alike hK⟩⟩ rfl rfl hl.1 rfl (lv_room (Nat.le_of_ble_eq_true rfl)) dX0_along_1 ⟨Nat.le_of_ble_eq_true rfl, Nat.le_of_ble_eq_true rfl⟩) (fun _ => ?_)
  refine lv_aload_n hx hb dX0_along_4 rfl (lv_at hl 0 rfl) ?_
  refine vp_callSi (W.runV (As := []) (rest := []) ⟨hx, hb, hml, hown, hw⟩ (m_firstBadHint l dC dI ax yx cc tc fc hc dr dO fC fO fT fH n (Nat.le_of_lt hn) ecc q hq40 ehc) (cwV 0 hw (gw_V wb_224 wb_226 wbs_4 wb_1 wb_227) rfl rfl rfl (by decide +kernel) ⟨Nat.le_of_ble_eq_true rfl, Nat.le_of_ble_eq_true rfl⟩) ⟨blind_rdX, va_recv hK hP (ci := 0) (q0 := 0) rfl rfl, fun U hU hW => ⟨rfl, by rw [hU]; exact hP, va_K.moved hW.alike hK⟩⟩ rfl rfl hl.1 rfl (lv_room (Nat.le_of_ble_eq_true rfl)) dX0_along_5 ⟨Nat.le_of_ble_eq_true rfl, Nat.le_of_ble_eq_true rfl⟩) (fun r1 h1 => ?_)
  subst h1
  refine lv_istore_n (lv' := [(1, .int (bh_scan cc fC fT fH q 0 dr)), (0, .ref (ax 0))]) hx hb dX0_along_8 rfl hl (by decide) rfl (fun ls hl => ?_)
  refine lv_iload_n hx hb dX0_along_9 rfl (lv_at hl 0 rfl) ?_
  refine lv_iconst (v := (-1)) hx hb dX0_along_10 (by decide) ?_
  refine lv_icmp_eq (tgt := 18) hx hb dX0_along_11 (by decide) (fun c1 => ?_) (fun c1 => ?_)
  · skip
    refine lv_aload_n hx hb dX0_along_18 rfl (lv_at hl 1 rfl) ?_
    refine lv_dup hx hb dX0_along_19 rfl ?_
    refine va_get (D := (dC, dI)) (ci := 0) (v := .int fc) (C := RX0) (T := TX0) (N := 10) hx hb hw inX0 hown hK hP 0 rfl rfl 6 (by decide) (hw _ wb_23) (fun _ h9 => h9) rfl dX0_along_20 ?_
    refine lv_iconst (v := 1) hx hb dX0_along_23 (by decide) ?_
    refine lv_iadd hx hb dX0_along_24 ?_
    refine va_put (D := (dC, dI)) (ci := 0) (v := .int (fc + 1)) (ty := .int) (C := RX0) (T := TX0) (N := 10) hx hb hw inX0 tyX0 tyX0_ok nmX0 hown hK hP hD hS 0 rfl rfl 6 (by decide) (hw _ wb_23) (fun _ h9 => h9) rfl (by decide +kernel) rfl rfl (Nat.le_of_ble_eq_true rfl) dX0_along_25 (fun H locs hP hD hS => ?_)
    have hP : va_P (dC, dI) cls2 (XW ax yx (cc, tc, fc + 1, hc, dr, dO, fC, fO, fT, fH)) H := hP
    have hD : va_D A (XW ax yx (cc, tc, fc + 1, hc, dr, dO, fC, fO, fT, fH)) := hD
    refine lv_aload_n hx hb dX0_along_28 rfl (lv_at hl 1 rfl) ?_
    refine lv_iconst (v := 0) hx hb dX0_along_29 (by decide) ?_
    refine va_put (D := (dC, dI)) (ci := 0) (v := .int 0) (ty := .int) (C := RX0) (T := TX0) (N := 10) hx hb hw inX0 tyX0 tyX0_ok nmX0 hown hK hP hD hS 0 rfl rfl 7 (by decide) (hw _ wb_24) (fun _ h9 => h9) rfl (by decide +kernel) rfl rfl (Nat.le_of_ble_eq_true rfl) dX0_along_30 (fun H locs hP hD hS => ?_)
    have hP : va_P (dC, dI) cls2 (XW ax yx (cc, tc, fc + 1, 0, dr, dO, fC, fO, fT, fH)) H := hP
    have hD : va_D A (XW ax yx (cc, tc, fc + 1, 0, dr, dO, fC, fO, fT, fH)) := hD
    refine lv_aload_n hx hb dX0_along_33 rfl (lv_at hl 1 rfl) ?_
    have hFc := va_free (wc := XW ax yx (cc, tc, fc + 1, 0, dr, dO, fC, fO, fT, fH)) hD hS hA [0, 1, 2, 3, 4] rfl
    refine va_calli (va_runV (As := []) (rest := []) ⟨hx, hb, hml, hown, hw⟩ (m_keepDraft l dC dI ax yx H.size cc tc (fc + 1) 0 dr dO fC fO fT fH n hn ecc) (cwV 0 hw (gw_V wb_205 wb_207 wbs_3 wb_1 wb_208) rfl rfl rfl (by decide +kernel) ⟨Nat.le_of_ble_eq_true rfl, Nat.le_of_ble_eq_true rfl⟩) ⟨blind_preX, va_recv hK hP (ci := 0) (q0 := 0) rfl rfl, fun U hU hW => ⟨rfl, by rw [hU], by rw [hU]; exact hP, va_K.moved hW.alike hK, hD.weaken (fun _ _ _ _ => trivial)⟩⟩ rfl rfl hl.1 rfl (lv_room (Nat.le_of_ble_eq_true rfl)) dX0_along_34 ⟨Nat.le_of_ble_eq_true rfl, Nat.le_of_ble_eq_true rfl⟩) hS (fun q _ h => hFc q h) hFc (fun r1 u t H1 locs ht hvm hq hB hz1 hk1 hS => ?_)
    obtain ⟨hr1, rfl⟩ := hq
    obtain ⟨hP1, hK1, hD1⟩ := hB
    rw [ht] at hP1
    have hP : va_P (dC, dI) cls2 (XW ax yx (cc + 1, tc + 1, fc + 1, 0, 0, 0, upd fC cc.toNatClampNeg dr, vp_updL fO cc.toNatClampNeg dO, upd fT cc.toNatClampNeg (vp_nar .boolean 1), fH)) H1 := hP1
    have hD : va_D A (XW ax yx (cc + 1, tc + 1, fc + 1, 0, 0, 0, upd fC cc.toNatClampNeg dr, vp_updL fO cc.toNatClampNeg dO, upd fT cc.toNatClampNeg (vp_nar .boolean 1), fH)) := hD1.weaken (fun k q h _ => hFc q.1 (hD1.2 k q h))
    generalize H1 = H at hP hS ⊢
    exact W.iret (v := r1) hx hb hrt (fun t ht hW => ⟨⟨_, _, rfl, Or.inl ⟨c1, hr1, rfl⟩, by rw [ht]; exact hP, va_K.moved hW.alike hK, hD⟩, hS.F ht⟩) hS.2.2 dX0_along_37
  · skip
    refine lv_iconst (v := (-1)) hx hb dX0_along_14 (by decide) ?_
    refine lv_iload_n hx hb dX0_along_15 rfl (lv_at hl 0 rfl) ?_
    refine lv_isub hx hb dX0_along_16 ?_
    exact W.iret (v := (-1) - (bh_scan cc fC fT fH q 0 dr)) hx hb hrt (fun t ht hW => ⟨⟨_, _, rfl, Or.inr ⟨c1, rfl, rfl⟩, by rw [ht]; exact hP, va_K.moved hW.alike hK, hD⟩, hS.F ht⟩) hS.2.2 dX0_along_17
