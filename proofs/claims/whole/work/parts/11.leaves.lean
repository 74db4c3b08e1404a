set_option maxHeartbeats 4000000 in
set_option maxRecDepth 100000 in
/-- Integer.bitCount: how many bits -/
theorem m_bitCount (l : Launch) (x : Int32) : Met l yJ6_bitCount wsJ6_bitCount (rmN 0 0 0) (fun v _ => v = ([.int x] : List Value).toArray) (vp_Si (fun r => r = nI (pb_sz x))) 0 0 (fun _ => False) := by
  refine Met.ofW (cc := cJ6_bitCount) (maxL := 1) (ret := (some .int)) (by decide) rfl ?_
  intro p e s m args below meth c s₁ B hml hv
  subst hv
  have hx := B.exec
  have hb := B.bytes
  have hrt := B.returns
  have hlocks := B.notSynchronized
  have hts := atoms_spec (ws := wsJ6_bitCount) B.pre
  have hw : ∀ w ∈ WB, w.before ([.int x] : List Value).toArray s = true := fun w h => hts w (List.mem_cons_of_mem _ h)
  have hown : s.vm.findClass "java/lang/Integer" = some m.cls := findClass_of_methodNamed B.named
  have hl := lv_entry ([.int x]) (n := 1) (Nat.le_of_ble_eq_true rfl)
  rw [lg_entry_eq]
  generalize (lg_sl ([.int x]) ++ List.replicate (1 - (lg_sl ([.int x])).length) Slot.unset).toArray = ls at hl ⊢
  have hl : lv_has ls 1 [(0, .int x)] := hl
  refine lv_iload_n hx hb dJ6_bitCount_0 rfl (lv_at hl 0 rfl) ?_
  refine lv_iload_n hx hb dJ6_bitCount_1 rfl (lv_at hl 0 rfl) ?_
  refine lv_iconst (v := 1) hx hb dJ6_bitCount_2 (by decide) ?_
  refine lv_iushr (v := pb_u x 1) hx hb dJ6_bitCount_3 rfl ?_
  refine lv_ldcw (v := 1431655765) hx hb hown (hw _ wb_61) dJ6_bitCount_4 ?_
  refine lv_iand hx hb dJ6_bitCount_7 ?_
  refine lv_isub hx hb dJ6_bitCount_8 ?_
  refine lv_topi (fun i1 ei1 => ?_)
  refine lv_istore_n (lv' := [(0, .int i1)]) hx hb dJ6_bitCount_9 rfl hl (by decide) rfl (fun ls hl => ?_)
  refine lv_iload_n hx hb dJ6_bitCount_10 rfl (lv_at hl 0 rfl) ?_
  refine lv_ldcw (v := 858993459) hx hb hown (hw _ wb_62) dJ6_bitCount_11 ?_
  refine lv_iand hx hb dJ6_bitCount_14 ?_
  refine lv_iload_n hx hb dJ6_bitCount_15 rfl (lv_at hl 0 rfl) ?_
  refine lv_iconst (v := 2) hx hb dJ6_bitCount_16 (by decide) ?_
  refine lv_iushr (v := pb_u i1 2) hx hb dJ6_bitCount_17 rfl ?_
  refine lv_ldcw (v := 858993459) hx hb hown (hw _ wb_62) dJ6_bitCount_18 ?_
  refine lv_iand hx hb dJ6_bitCount_21 ?_
  refine lv_iadd hx hb dJ6_bitCount_22 ?_
  refine lv_topi (fun i2 ei2 => ?_)
  refine lv_istore_n (lv' := [(0, .int i2)]) hx hb dJ6_bitCount_23 rfl hl (by decide) rfl (fun ls hl => ?_)
  refine lv_iload_n hx hb dJ6_bitCount_24 rfl (lv_at hl 0 rfl) ?_
  refine lv_iload_n hx hb dJ6_bitCount_25 rfl (lv_at hl 0 rfl) ?_
  refine lv_iconst (v := 4) hx hb dJ6_bitCount_26 (by decide) ?_
  refine lv_iushr (v := pb_u i2 4) hx hb dJ6_bitCount_27 rfl ?_
  refine lv_iadd hx hb dJ6_bitCount_28 ?_
  refine lv_ldcw (v := 252645135) hx hb hown (hw _ wb_63) dJ6_bitCount_29 ?_
  refine lv_iand hx hb dJ6_bitCount_32 ?_
  refine lv_topi (fun i3 ei3 => ?_)
  refine lv_istore_n (lv' := [(0, .int i3)]) hx hb dJ6_bitCount_33 rfl hl (by decide) rfl (fun ls hl => ?_)
  refine lv_iload_n hx hb dJ6_bitCount_34 rfl (lv_at hl 0 rfl) ?_
  refine lv_iload_n hx hb dJ6_bitCount_35 rfl (lv_at hl 0 rfl) ?_
  refine lv_bipush (v := 8) hx hb dJ6_bitCount_36 (by decide) ?_
  refine lv_iushr (v := pb_u i3 8) hx hb dJ6_bitCount_38 rfl ?_
  refine lv_iadd hx hb dJ6_bitCount_39 ?_
  refine lv_topi (fun i4 ei4 => ?_)
  refine lv_istore_n (lv' := [(0, .int i4)]) hx hb dJ6_bitCount_40 rfl hl (by decide) rfl (fun ls hl => ?_)
  refine lv_iload_n hx hb dJ6_bitCount_41 rfl (lv_at hl 0 rfl) ?_
  refine lv_iload_n hx hb dJ6_bitCount_42 rfl (lv_at hl 0 rfl) ?_
  refine lv_bipush (v := 16) hx hb dJ6_bitCount_43 (by decide) ?_
  refine lv_iushr (v := pb_u i4 16) hx hb dJ6_bitCount_45 rfl ?_
  refine lv_iadd hx hb dJ6_bitCount_46 ?_
  refine lv_topi (fun i5 ei5 => ?_)
  refine lv_istore_n (lv' := [(0, .int i5)]) hx hb dJ6_bitCount_47 rfl hl (by decide) rfl (fun ls hl => ?_)
  refine lv_iload_n hx hb dJ6_bitCount_48 rfl (lv_at hl 0 rfl) ?_
  refine lv_bipush (v := 63) hx hb dJ6_bitCount_49 (by decide) ?_
  refine lv_iand hx hb dJ6_bitCount_51 ?_
  exact W.iret (v := i5 &&& 63) hx hb hrt (fun t ht hW => ⟨_, rfl, pb_nI_sz ei1 ei2 ei3 ei4 ei5, ht⟩) (fun q h => nomatch h) dJ6_bitCount_52
set_option maxHeartbeats 4000000 in
set_option maxRecDepth 100000 in
/-- sizeOf -/
theorem m_sizeOf (l : Launch) (x : Int32) : Met l yX0_sizeOf wsX0_sizeOf (rmN 1 0 0) (fun v _ => v = ([.int x] : List Value).toArray) (vp_Si (fun r => r = nI (pb_sz x))) 0 0 (fun _ => False) := by
  refine Met.ofW (cc := cX0_sizeOf) (maxL := 1) (ret := (some .int)) (by decide) rfl ?_
  intro p e s m args below meth c s₁ B hml hv
  subst hv
  have hx := B.exec
  have hb := B.bytes
  have hrt := B.returns
  have hlocks := B.notSynchronized
  have hts := atoms_spec (ws := wsX0_sizeOf) B.pre
  have hw : ∀ w ∈ WB, w.before ([.int x] : List Value).toArray s = true := fun w h => hts w (List.mem_cons_of_mem _ h)
  have hown : s.vm.findClass "ProofBench" = some m.cls := findClass_of_methodNamed B.named
  have hl := lv_entry ([.int x]) (n := 1) (Nat.le_of_ble_eq_true rfl)
  rw [lg_entry_eq]
  generalize (lg_sl ([.int x]) ++ List.replicate (1 - (lg_sl ([.int x])).length) Slot.unset).toArray = ls at hl ⊢
  have hl : lv_has ls 1 [(0, .int x)] := hl
  refine lv_iload_n hx hb dX0_sizeOf_0 rfl (lv_at hl 0 rfl) ?_
  refine vp_callSi (W.runS (As := [.int x]) (rest := []) ⟨hx, hb, hml, hown, hw⟩ (m_bitCount l x) (va_cwS 1 hw (gw_S wb_58 wb_59 wb_7 wb_60) rfl rfl rfl (by decide +kernel) ⟨Nat.le_of_ble_eq_true rfl, Nat.le_of_ble_eq_true rfl⟩) preEq rfl rfl hl.1 rfl (lv_room (Nat.le_of_ble_eq_true rfl)) dX0_sizeOf_1 ⟨Nat.le_refl _, Nat.le_refl _⟩) (fun r1 h1 => ?_)
  exact W.iret (v := r1) hx hb hrt (fun t ht hW => ⟨_, rfl, h1, ht⟩) (fun q h => nomatch h) dX0_sizeOf_4
set_option maxHeartbeats 4000000 in
set_option maxRecDepth 100000 in
/-- bitOf -/
theorem m_bitOf (l : Launch) (x : Int32) : Met l yX0_bitOf wsX0_bitOf (rmN 0 0 0) (fun v _ => v = ([.int x] : List Value).toArray) (vp_Si (fun r => r = mk_bit x)) 0 0 (fun _ => False) := by
  refine Met.ofW (cc := cX0_bitOf) (maxL := 1) (ret := (some .int)) (by decide) rfl ?_
  intro p e s m args below meth c s₁ B hml hv
  subst hv
  have hx := B.exec
  have hb := B.bytes
  have hrt := B.returns
  have hlocks := B.notSynchronized
  have hts := atoms_spec (ws := wsX0_bitOf) B.pre
  have hw : ∀ w ∈ WB, w.before ([.int x] : List Value).toArray s = true := fun w h => hts w (List.mem_cons_of_mem _ h)
  have hown : s.vm.findClass "ProofBench" = some m.cls := findClass_of_methodNamed B.named
  have hl := lv_entry ([.int x]) (n := 1) (Nat.le_of_ble_eq_true rfl)
  rw [lg_entry_eq]
  generalize (lg_sl ([.int x]) ++ List.replicate (1 - (lg_sl ([.int x])).length) Slot.unset).toArray = ls at hl ⊢
  have hl : lv_has ls 1 [(0, .int x)] := hl
  refine lv_iload_n hx hb dX0_bitOf_0 rfl (lv_at hl 0 rfl) ?_
  refine lv_if_le (tgt := 12) hx hb dX0_bitOf_1 (by decide) (fun c1 => ?_) (fun c1 => ?_)
  · skip
    refine lv_iconst (v := 1) hx hb dX0_bitOf_12 (by decide) ?_
    refine lv_bipush (v := 15) hx hb dX0_bitOf_13 (by decide) ?_
    refine lv_iload_n hx hb dX0_bitOf_15 rfl (lv_at hl 0 rfl) ?_
    refine lv_isub hx hb dX0_bitOf_16 ?_
    refine lv_ishl hx hb dX0_bitOf_17 ?_
    exact W.iret (v := 1 <<< ((15 - x) &&& 31)) hx hb hrt (fun t ht hW => ⟨_, rfl, by rw [mk_bit, if_neg (Int32.not_lt.mpr c1)], ht⟩) (fun q h => nomatch h) dX0_bitOf_18
  · skip
    refine lv_iconst (v := 1) hx hb dX0_bitOf_4 (by decide) ?_
    refine lv_iload_n hx hb dX0_bitOf_5 rfl (lv_at hl 0 rfl) ?_
    refine lv_iconst (v := 1) hx hb dX0_bitOf_6 (by decide) ?_
    refine lv_isub hx hb dX0_bitOf_7 ?_
    refine lv_ishl hx hb dX0_bitOf_8 ?_
    refine lv_goto (tgt := 18) hx hb dX0_bitOf_9 (by decide) ?_
    exact W.iret (v := 1 <<< ((x - 1) &&& 31)) hx hb hrt (fun t ht hW => ⟨_, rfl, by rw [mk_bit, if_pos (Int32.not_le.mp c1)], ht⟩) (fun q h => nomatch h) dX0_bitOf_18
set_option maxHeartbeats 4000000 in
set_option maxRecDepth 100000 in
/-- negated -/
theorem m_negated (l : Launch) (x : Int32) : Met l yX0_negated wsX0_negated (rmN 0 0 0) (fun v _ => v = ([.int x] : List Value).toArray) (vp_Si (fun r => r = mk_neg x)) 0 0 (fun _ => False) := by
  refine Met.ofW (cc := cX0_negated) (maxL := 1) (ret := (some .int)) (by decide) rfl ?_
  intro p e s m args below meth c s₁ B hml hv
  subst hv
  have hx := B.exec
  have hb := B.bytes
  have hrt := B.returns
  have hlocks := B.notSynchronized
  have hts := atoms_spec (ws := wsX0_negated) B.pre
  have hw : ∀ w ∈ WB, w.before ([.int x] : List Value).toArray s = true := fun w h => hts w (List.mem_cons_of_mem _ h)
  have hown : s.vm.findClass "ProofBench" = some m.cls := findClass_of_methodNamed B.named
  have hl := lv_entry ([.int x]) (n := 1) (Nat.le_of_ble_eq_true rfl)
  rw [lg_entry_eq]
  generalize (lg_sl ([.int x]) ++ List.replicate (1 - (lg_sl ([.int x])).length) Slot.unset).toArray = ls at hl ⊢
  have hl : lv_has ls 1 [(0, .int x)] := hl
  refine lv_iload_n hx hb dX0_negated_0 rfl (lv_at hl 0 rfl) ?_
  refine lv_bipush (v := 16) hx hb dX0_negated_1 (by decide) ?_
  refine lv_ishl hx hb dX0_negated_3 ?_
  refine lv_iload_n hx hb dX0_negated_4 rfl (lv_at hl 0 rfl) ?_
  refine lv_bipush (v := 16) hx hb dX0_negated_5 (by decide) ?_
  refine lv_iushr (v := pb_u x 16) hx hb dX0_negated_7 rfl ?_
  refine lv_ior hx hb dX0_negated_8 ?_
  exact W.iret (v := (x <<< (16 &&& 31)) ||| (pb_u x 16)) hx hb hrt (fun t ht hW => ⟨_, rfl, rfl, ht⟩) (fun q h => nomatch h) dX0_negated_9
set_option maxHeartbeats 4000000 in
set_option maxRecDepth 100000 in
/-- isWrong -/
theorem m_isWrong (l : Launch) (x : Int32) (f : Int32) : Met l yX0_isWrong wsX0_isWrong (rmN 0 0 0) (fun v _ => v = ([.int x, .int f] : List Value).toArray) (vp_Si (fun r => r = if mk_rest x f = 0 then 1 else 0)) 0 0 (fun _ => False) := by
  refine Met.ofW (cc := cX0_isWrong) (maxL := 2) (ret := (some .boolean)) (by decide) rfl ?_
  intro p e s m args below meth c s₁ B hml hv
  subst hv
  have hx := B.exec
  have hb := B.bytes
  have hrt := B.returns
  have hlocks := B.notSynchronized
  have hts := atoms_spec (ws := wsX0_isWrong) B.pre
  have hw : ∀ w ∈ WB, w.before ([.int x, .int f] : List Value).toArray s = true := fun w h => hts w (List.mem_cons_of_mem _ h)
  have hown : s.vm.findClass "ProofBench" = some m.cls := findClass_of_methodNamed B.named
  have hl := lv_entry ([.int x, .int f]) (n := 2) (Nat.le_of_ble_eq_true rfl)
  rw [lg_entry_eq]
  generalize (lg_sl ([.int x, .int f]) ++ List.replicate (2 - (lg_sl ([.int x, .int f])).length) Slot.unset).toArray = ls at hl ⊢
  have hl : lv_has ls 2 [(0, .int x), (1, .int f)] := hl
  refine lv_iload_n hx hb dX0_isWrong_0 rfl (lv_at hl 0 rfl) ?_
  refine lv_iload_n hx hb dX0_isWrong_1 rfl (lv_at hl 1 rfl) ?_
  refine lv_iconst (v := (-1)) hx hb dX0_isWrong_2 (by decide) ?_
  refine lv_ixor hx hb dX0_isWrong_3 ?_
  refine lv_iand hx hb dX0_isWrong_4 ?_
  refine lv_if_ne (tgt := 12) hx hb dX0_isWrong_5 (by decide) (fun c1 => ?_) (fun c1 => ?_)
  · skip
    refine lv_iconst (v := 0) hx hb dX0_isWrong_12 (by decide) ?_
    exact W.zret (v := 0) hx hb hrt (by decide) (fun t ht hW => ⟨_, rfl, by rw [if_neg (show ¬ mk_rest x f = 0 from c1)], ht⟩) (fun q h => nomatch h) dX0_isWrong_13
  · skip
    refine lv_iconst (v := 1) hx hb dX0_isWrong_8 (by decide) ?_
    refine lv_goto (tgt := 13) hx hb dX0_isWrong_9 (by decide) ?_
    exact W.zret (v := 1) hx hb hrt (by decide) (fun t ht hW => ⟨_, rfl, by rw [if_pos (show mk_rest x f = 0 from c1)], ht⟩) (fun q h => nomatch h) dX0_isWrong_13
set_option maxHeartbeats 4000000 in
set_option maxRecDepth 100000 in
/-- toldBy -/
theorem m_toldBy (l : Launch) (x : Int32) (f : Int32) : Met l yX0_toldBy wsX0_toldBy (rmN 2 0 0) (fun v _ => v = ([.int x, .int f] : List Value).toArray) (vp_Si (fun r => r = mk_told x f)) 0 0 (fun _ => False) := by
  refine Met.ofW (cc := cX0_toldBy) (maxL := 4) (ret := (some .int)) (by decide) rfl ?_
  intro p e s m args below meth c s₁ B hml hv
  subst hv
  have hx := B.exec
  have hb := B.bytes
  have hrt := B.returns
  have hlocks := B.notSynchronized
  have hts := atoms_spec (ws := wsX0_toldBy) B.pre
  have hw : ∀ w ∈ WB, w.before ([.int x, .int f] : List Value).toArray s = true := fun w h => hts w (List.mem_cons_of_mem _ h)
  have hown : s.vm.findClass "ProofBench" = some m.cls := findClass_of_methodNamed B.named
  have hl := lv_entry ([.int x, .int f]) (n := 4) (Nat.le_of_ble_eq_true rfl)
  rw [lg_entry_eq]
  generalize (lg_sl ([.int x, .int f]) ++ List.replicate (4 - (lg_sl ([.int x, .int f])).length) Slot.unset).toArray = ls at hl ⊢
  have hl : lv_has ls 4 [(0, .int x), (1, .int f)] := hl
  refine lv_iload_n hx hb dX0_toldBy_0 rfl (lv_at hl 0 rfl) ?_
  refine lv_iload_n hx hb dX0_toldBy_1 rfl (lv_at hl 1 rfl) ?_
  refine lv_iconst (v := (-1)) hx hb dX0_toldBy_2 (by decide) ?_
  refine lv_ixor hx hb dX0_toldBy_3 ?_
  refine lv_iand hx hb dX0_toldBy_4 ?_
  refine lv_topi (fun q eq1 => ?_)
  have eq1 : q = mk_rest x f := eq1
  refine lv_istore_n (lv' := [(2, .int q), (0, .int x), (1, .int f)]) hx hb dX0_toldBy_5 rfl hl (by decide) rfl (fun ls hl => ?_)
  refine lv_iload_n hx hb dX0_toldBy_6 rfl (lv_at hl 0 rfl) ?_
  refine lv_iload_n hx hb dX0_toldBy_7 rfl (lv_at hl 2 rfl) ?_
  refine vp_callSi (W.runS (As := [.int f]) (rest := [.int q]) ⟨hx, hb, hml, hown, hw⟩ (m_negated l f) (va_cwS 1 hw (gw_S wb_78 wb_79 wb_1 wb_80) rfl rfl rfl (by decide +kernel) ⟨Nat.le_of_ble_eq_true rfl, Nat.le_of_ble_eq_true rfl⟩) preEq rfl rfl hl.1 rfl (lv_room (Nat.le_of_ble_eq_true rfl)) dX0_toldBy_8 ⟨Nat.le_refl _, Nat.le_refl _⟩) (fun r1 h1 => ?_)
  refine lv_iand hx hb dX0_toldBy_11 ?_
  refine lv_if_eq (tgt := 19) hx hb dX0_toldBy_12 (by decide) (fun c1 => ?_) (fun c1 => ?_)
  · skip
    refine lv_iconst (v := 0) hx hb dX0_toldBy_19 (by decide) ?_
    refine lv_istore_n (lv' := [(3, .int 0), (2, .int q), (0, .int x), (1, .int f)]) hx hb dX0_toldBy_20 rfl hl (by decide) rfl (fun ls hl => ?_)
    refine lv_iload_n hx hb dX0_toldBy_21 rfl (lv_at hl 1 rfl) ?_
    refine vp_callSi (W.runS (As := [.int q]) (rest := []) ⟨hx, hb, hml, hown, hw⟩ (m_sizeOf l q) (va_cwS 1 hw (gw_S wb_55 wb_56 wb_1 wb_57) rfl rfl rfl (by decide +kernel) ⟨Nat.le_of_ble_eq_true rfl, Nat.le_of_ble_eq_true rfl⟩) preEq rfl rfl hl.1 rfl (lv_room (Nat.le_of_ble_eq_true rfl)) dX0_toldBy_22 ⟨Nat.le_refl _, Nat.le_refl _⟩) (fun r2 h2 => ?_)
    refine lv_iconst (v := 1) hx hb dX0_toldBy_25 (by decide) ?_
    refine lv_icmp_ne (tgt := 37) hx hb dX0_toldBy_26 (by decide) (fun c2 => ?_) (fun c2 => ?_)
    · skip
      refine lv_iconst (v := 0) hx hb dX0_toldBy_37 (by decide) ?_
      exact W.iret (v := 0) hx hb hrt (fun t ht hW => ⟨_, rfl, by rw [mk_told, if_neg (fun h => c2 (by rw [h2, eq1, h.1]; rfl))], ht⟩) (fun q h => nomatch h) dX0_toldBy_38
    · skip
      refine lv_iload_n hx hb dX0_toldBy_29 rfl (lv_at hl 0 rfl) ?_
      refine lv_if_ne (tgt := 37) hx hb dX0_toldBy_30 (by decide) (fun c3 => ?_) (fun c3 => ?_)
      · skip
        exact absurd rfl c3
      · skip
        refine lv_iload_n hx hb dX0_toldBy_33 rfl (lv_at hl 1 rfl) ?_
        refine lv_goto (tgt := 38) hx hb dX0_toldBy_34 (by decide) ?_
        exact W.iret (v := q) hx hb hrt (fun t ht hW => ⟨_, rfl, by rw [mk_told, if_pos ⟨(nI_eq (Nat.lt_of_le_of_lt (pb_sz_n _) (by decide)) (by decide)).mp (by rw [← eq1, ← h2]; exact c2), by rw [← h1, ← eq1]; exact c1⟩]; exact eq1, ht⟩) (fun q h => nomatch h) dX0_toldBy_38
  · skip
    refine lv_iconst (v := 1) hx hb dX0_toldBy_15 (by decide) ?_
    refine lv_goto (tgt := 20) hx hb dX0_toldBy_16 (by decide) ?_
    refine lv_istore_n (lv' := [(3, .int 1), (2, .int q), (0, .int x), (1, .int f)]) hx hb dX0_toldBy_20 rfl hl (by decide) rfl (fun ls hl => ?_)
    refine lv_iload_n hx hb dX0_toldBy_21 rfl (lv_at hl 1 rfl) ?_
    refine vp_callSi (W.runS (As := [.int q]) (rest := []) ⟨hx, hb, hml, hown, hw⟩ (m_sizeOf l q) (va_cwS 1 hw (gw_S wb_55 wb_56 wb_1 wb_57) rfl rfl rfl (by decide +kernel) ⟨Nat.le_of_ble_eq_true rfl, Nat.le_of_ble_eq_true rfl⟩) preEq rfl rfl hl.1 rfl (lv_room (Nat.le_of_ble_eq_true rfl)) dX0_toldBy_22 ⟨Nat.le_refl _, Nat.le_refl _⟩) (fun r2 h2 => ?_)
    refine lv_iconst (v := 1) hx hb dX0_toldBy_25 (by decide) ?_
    refine lv_icmp_ne (tgt := 37) hx hb dX0_toldBy_26 (by decide) (fun c2 => ?_) (fun c2 => ?_)
    · skip
      refine lv_iconst (v := 0) hx hb dX0_toldBy_37 (by decide) ?_
      exact W.iret (v := 0) hx hb hrt (fun t ht hW => ⟨_, rfl, by rw [mk_told, if_neg (fun h => c2 (by rw [h2, eq1, h.1]; rfl))], ht⟩) (fun q h => nomatch h) dX0_toldBy_38
    · skip
      refine lv_iload_n hx hb dX0_toldBy_29 rfl (lv_at hl 0 rfl) ?_
      refine lv_if_ne (tgt := 37) hx hb dX0_toldBy_30 (by decide) (fun c3 => ?_) (fun c3 => ?_)
      · skip
        refine lv_iconst (v := 0) hx hb dX0_toldBy_37 (by decide) ?_
        exact W.iret (v := 0) hx hb hrt (fun t ht hW => ⟨_, rfl, by rw [mk_told, if_neg (fun h => c1 (by rw [h1, eq1]; exact h.2))], ht⟩) (fun q h => nomatch h) dX0_toldBy_38
      · skip
        exact absurd c3 (by decide)
