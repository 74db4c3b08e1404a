/-! the law's loop, and its start -/
set_option maxRecDepth 20000 in
theorem th_start {p : Program} {s : State} {m : MethodId} {meth : Method} {c : Code} {b L : Nat} {xs : Nat → Int32} (C0 : lw_At p s m meth c b L xs) : Th (fun q => s.heap.size ≤ q) s s.heap := by
  obtain ⟨hx, hb, hr, hml, hown, hts, hX, hbl, hlocks, hgv⟩ := C0
  have hs := flat_of_before _ hgv
  have hA : ∀ a : Nat, a < s.heap.size → ¬ (fun q => s.heap.size ≤ q) a := fun a h => Nat.not_le.mpr h
  have hstr : ∀ (k : Nat) (tx : String), (Cond.stringRef "ProofBench" k tx).before #[Value.ref b] s = true → (Cond.exactly (Term.string "ProofBench" k) "java/lang/String").before #[Value.ref b] s = true → ∃ sa, vk_R "ProofBench" k tx sa s := by
    intro k tx h1 h2
    obtain ⟨a, c9, cA, kA, q1, q2, q3, q4, q5, q6, -⟩ := Cond.exactly_spec (args := #[Value.ref b]) (first := s) (o := none) (s := s) (idx := []) (t := Term.string "ProofBench" k) (cls := "java/lang/String") h2
    exact ⟨a, vk_R.of h1 q1⟩
  refine ⟨vx_Zqof (hts _ (List.mem_append_right _ (List.mem_of_getElem? (i := 124) (by decide +kernel)))) (hts _ (List.mem_append_right _ (List.mem_of_getElem? (i := 3) (by decide +kernel)))) (hs _ (by decide +kernel)) hA, vx_Zqof (hts _ (List.mem_append_right _ (List.mem_of_getElem? (i := 126) (by decide +kernel)))) (hts _ (List.mem_append_right _ (List.mem_of_getElem? (i := 3) (by decide +kernel)))) (hs _ (by decide +kernel)) hA, va_Nw.of rfl (hts _ (List.mem_append_right _ (List.mem_of_getElem? (i := 99) (by decide +kernel)))), va_Nw.of rfl (hts _ (List.mem_append_right _ (List.mem_of_getElem? (i := 179) (by decide +kernel)))), va_Nw.of rfl (hts _ (List.mem_append_right _ (List.mem_of_getElem? (i := 101) (by decide +kernel)))), va_Nw.of rfl (hts _ (List.mem_append_right _ (List.mem_of_getElem? (i := 103) (by decide +kernel)))), va_Nw.of rfl (hts _ (List.mem_append_right _ (List.mem_of_getElem? (i := 105) (by decide +kernel)))), ?_, va_Nc.of (hs (Cond.not (.castable "java/lang/IllegalStateException" "java/lang/IllegalArgumentException")) (by decide +kernel))⟩
  intro q hq
  simp only [TX, List.mem_cons, List.not_mem_nil, or_false] at hq
  rcases hq with rfl | rfl | rfl | rfl | rfl | rfl | rfl
  · exact hstr 26 "not a literal" (hts _ (List.mem_append_right _ (List.mem_of_getElem? (i := 137) (by decide +kernel)))) (hs _ (by decide +kernel))
  · exact hstr 42 "the draft has this variable" (hts _ (List.mem_append_right _ (List.mem_of_getElem? (i := 167) (by decide +kernel)))) (hs _ (by decide +kernel))
  · exact hstr 51 "not a clause's number" (hts _ (List.mem_append_right _ (List.mem_of_getElem? (i := 176) (by decide +kernel)))) (hs _ (by decide +kernel))
  · exact hstr 58 "no room for another hint" (hts _ (List.mem_append_right _ (List.mem_of_getElem? (i := 186) (by decide +kernel)))) (hs _ (by decide +kernel))
  · exact hstr 113 "no clause that is there" (hts _ (List.mem_append_right _ (List.mem_of_getElem? (i := 243) (by decide +kernel)))) (hs _ (by decide +kernel))
  · exact hstr 87 "no place in a clause" (hts _ (List.mem_append_right _ (List.mem_of_getElem? (i := 251) (by decide +kernel)))) (hs _ (by decide +kernel))
  · exact hstr 102 "nothing that is counted" (hts _ (List.mem_append_right _ (List.mem_of_getElem? (i := 260) (by decide +kernel)))) (hs _ (by decide +kernel))
theorem lp_c {L B : Nat} (hL : L ≤ 1536) (hB : B ≤ 512) (h : ¬ nI L - 3 < nI (3 * B)) : 3 * B + 3 ≤ L := by
  have h1 := Int32.le_iff_toInt_le.mp (Int32.not_lt.mp h)
  rw [show (3 : Int32) = nI 3 from rfl, pk_sub_toInt (by omega) (by decide), nI_toInt (by omega)] at h1
  omega
set_option maxHeartbeats 1000000 in
set_option maxRecDepth 100000 in
/-- THE LAW'S LOOP: at its head, after B calls -/
theorem law_loop {p : Program} {l : Launch} {e : Env} {s : State} {m : MethodId} {below : List Frame} {meth : Method} {c : Code} {b L : Nat} {xs : Nat → Int32} (hl9 : l.stackTraces = false) (hL : L ≤ 1536) (C0 : lw_At p s m meth c b L xs) (hT : Th (fun q => s.heap.size ≤ q) s s.heap) {dC : Nat → ClassId} {dI : Nat → Nat → Nat} {ax : Nat → Nat} {yx : Nat → ClassId} {am : Nat → Nat} {ym : Nat → ClassId} {qo : Nat} {yo : ClassId} (hK : va_K (dC, dI) cls2 (tysL yx ym yo) s) : ∀ (k B : Nat) (u : XS) (mm : MS) (g : Nat → Int64) (H : Heap) (locs : List Loc), B ≤ 512 → 513 ≤ B + k → Rel B u mm → va_P (dC, dI) cls2 (LWd ax yx am ym qo yo u mm g) H → va_D (fun q => s.heap.size ≤ q) (LWd ax yx am ym qo yo u mm g) → va_S (fun q => s.heap.size ≤ q) s.heap H locs → ∀ ls, lv_has ls 7 [(4, .int (nI (3 * B))), (0, .ref b), (1, .ref (ax 0)), (2, .ref (am 0)), (3, .ref qo)] → LWj p l e s m b below meth c H locs B 23 ls := by
  have C1 := C0
  obtain ⟨hx, hb, hr, hml, hown, hts, hX, hbl, hlocks, hgv⟩ := C0
  have hbA : ¬ (fun q : Nat => s.heap.size ≤ q) b := Nat.not_le.mpr hbl
  intro k
  induction k with
  | zero =>
    intro B u mm g H locs h1 h2
    exact absurd h2 (by omega)
  | succ k ih =>
    intro B u mm g H locs h512 hk hRel hP hD hS ls hl
    refine lv_iload hx hb dL_law_23 (lv_at hl 0 rfl) ?_
    refine lv_aload_n hx hb dL_law_25 rfl (lv_at hl 1 rfl) ?_
    refine va_slen hx hb hX hbl hbA hS dL_law_26 ?_
    rw [show Int32.ofNat L = nI L from rfl]
    refine lv_iconst (v := 3) hx hb dL_law_27 (by decide) ?_
    refine lv_isub hx hb dL_law_28 ?_
    refine lv_icmp_gt (tgt := 582) hx hb dL_law_29 (by decide) (fun c1 => ?_) (fun c1 => ?_)
    · skip
      refine lv_iconst (v := 1) hx hb dL_law_582 (by decide) ?_
      refine va_forget (fun q hq => hS.2.2 q hq) ?_
      refine W.widen (k := 1046) (n := 21409) (by omega) (by omega) ?_
      exact lw_ret hx hb hr hlocks dL_law_583
    · skip
      have hB := lp_c hL h512 c1
      have back : ∀ (u : XS) (mm : MS) (g : Nat → Int64) (H : Heap) (locs : List Loc), Rel (B + 1) u mm → va_P (dC, dI) cls2 (LWd ax yx am ym qo yo u mm g) H → va_D (fun q => s.heap.size ≤ q) (LWd ax yx am ym qo yo u mm g) → va_S (fun q => s.heap.size ≤ q) s.heap H locs → ∀ ls, lv_has ls 7 [(4, .int (nI (3 * B))), (0, .ref b), (1, .ref (ax 0)), (2, .ref (am 0)), (3, .ref qo)] → LWj p l e s m b below meth c H locs (B + 1) 576 ls := by
        intro u mm g H locs hRel hP hD hS ls hl
        refine lv_iinc (v := (nI (3 * B)) + 3) (lv' := [(4, .int ((nI (3 * B)) + 3)), (0, .ref b), (1, .ref (ax 0)), (2, .ref (am 0)), (3, .ref qo)]) hx hb dL_law_576 hl (k := 0) rfl rfl (by decide) rfl (fun ls hl => ?_)
        refine lv_goto (tgt := 23) hx hb dL_law_579 (by decide) ?_
        rw [show nI (3 * B) + 3 = nI (3 * (B + 1)) from (nI_add (3 * B) 3).trans (congrArg nI (by omega))] at hl
        exact ih (B + 1) u mm g H locs (by omega) (by omega) hRel hP hD hS ls hl
      refine lv_aload_n hx hb dL_law_32 rfl (lv_at hl 1 rfl) ?_
      refine lv_iload hx hb dL_law_33 (lv_at hl 0 rfl) ?_
      refine va_sld hx hb hX hbl hbA hS (vp_in_nI (show 3 * B < L by omega) (by omega)) dL_law_35 ?_
      rw [nI_clamp (show 3 * B < 2 ^ 31 by omega)]
      refine lv_bipush (v := 15) hx hb dL_law_36 (by decide) ?_
      refine lv_iand hx hb dL_law_38 ?_
      obtain ⟨j, hj, ej⟩ := pk_andE (xs (3 * B)) (m := 15) 4 (by decide)
      rw [ej]
      have hcases : j = 0 ∨ j = 1 ∨ j = 2 ∨ j = 3 ∨ j = 4 ∨ j = 5 ∨ j = 6 ∨ j = 7 ∨ j = 8 ∨ j = 9 ∨ j = 10 ∨ j = 11 ∨ 12 ≤ j := by omega
      rcases hcases with rfl | rfl | rfl | rfl | rfl | rfl | rfl | rfl | rfl | rfl | rfl | rfl | h12
      · refine lv_tableIn (off := 61) (tgt := 100) hx hb dL_law_39 (by decide) (by decide) (by decide) (by decide) ?_
        exact law_op0 hl9 hL C1 hT hK hB hRel hP hD hS back ls hl
      · refine lv_tableIn (off := 117) (tgt := 156) hx hb dL_law_39 (by decide) (by decide) (by decide) (by decide) ?_
        exact law_op1 hl9 hL C1 hT hK hB hRel hP hD hS back ls hl
      · refine lv_tableIn (off := 173) (tgt := 212) hx hb dL_law_39 (by decide) (by decide) (by decide) (by decide) ?_
        exact law_op2 hl9 hL C1 hT hK hB hRel hP hD hS back ls hl
      · refine lv_tableIn (off := 186) (tgt := 225) hx hb dL_law_39 (by decide) (by decide) (by decide) (by decide) ?_
        exact law_op3 hl9 hL C1 hT hK hB hRel hP hD hS back ls hl
      · refine lv_tableIn (off := 230) (tgt := 269) hx hb dL_law_39 (by decide) (by decide) (by decide) (by decide) ?_
        exact law_op4 hl9 hL C1 hT hK hB hRel hP hD hS back ls hl
      · refine lv_tableIn (off := 274) (tgt := 313) hx hb dL_law_39 (by decide) (by decide) (by decide) (by decide) ?_
        exact law_op5 hl9 hL C1 hT hK hB hRel hP hD hS back ls hl
      · refine lv_tableIn (off := 318) (tgt := 357) hx hb dL_law_39 (by decide) (by decide) (by decide) (by decide) ?_
        exact law_op6 hl9 hL C1 hT hK hB hRel hP hD hS back ls hl
      · refine lv_tableIn (off := 374) (tgt := 413) hx hb dL_law_39 (by decide) (by decide) (by decide) (by decide) ?_
        exact law_op7 hl9 hL C1 hT hK hB hRel hP hD hS back ls hl
      · refine lv_tableIn (off := 442) (tgt := 481) hx hb dL_law_39 (by decide) (by decide) (by decide) (by decide) ?_
        exact law_op8 hl9 hL C1 hT hK hB hRel hP hD hS back ls hl
      · refine lv_tableIn (off := 455) (tgt := 494) hx hb dL_law_39 (by decide) (by decide) (by decide) (by decide) ?_
        exact law_op9 hl9 hL C1 hT hK hB hRel hP hD hS back ls hl
      · refine lv_tableIn (off := 468) (tgt := 507) hx hb dL_law_39 (by decide) (by decide) (by decide) (by decide) ?_
        exact law_op10 hl9 hL C1 hT hK hB hRel hP hD hS back ls hl
      · refine lv_tableIn (off := 481) (tgt := 520) hx hb dL_law_39 (by decide) (by decide) (by decide) (by decide) ?_
        exact law_op11 hl9 hL C1 hT hK hB hRel hP hD hS back ls hl
      · refine lv_tableOut (tgt := 576) hx hb dL_law_39 (Or.inr (by rw [nI_toInt (by omega)]; omega)) (by decide) ?_
        refine W.widen (k := 14 + 2 * (B + 1)) (n := 13169 + 12 * (B + 1)) (by omega) (by omega) ?_
        refine back u mm g H locs ?_ hP hD hS ls hl
        obtain ⟨cc, tc, fc, hc, dr, dO, fC, fO, fT, fH⟩ := u
        obtain ⟨co, ct, th, fo, sg, sz, hc2, fL, fN, fD, fH2, fV, fM, fW⟩ := mm
        obtain ⟨n, d, q, zl, hR⟩ := hRel
        exact ⟨n, d, q, zl, R_up hR⟩
set_option maxHeartbeats 1000000 in
set_option maxRecDepth 100000 in
/-- THE LAW, from its entry -/
theorem whole_start {p : Program} {e : Env} {s : State} {m : MethodId} {below : List Frame} {meth : Method} {c : Code} (l : Launch) (hl9 : l.stackTraces = false) {b L : Nat} {xs : Nat → Int32} (hL : L ≤ 1536) (C0 : lw_At p s m meth c b L xs) : W p l e room_1 s m #[Value.ref b] below meth c s.heap [] 0 0 (lw_Z below #[Value.ref b] s) (entryFrame m ([Value.ref b] : List Value).toArray 7) := by
  have hT := th_start C0
  obtain ⟨hx, hb, hr, hml, hown, hts, hX, hbl, hlocks, hgv⟩ := id C0
  have hw : ∀ w ∈ WB, w.before #[Value.ref b] s = true := fun w h => hts w (WB_lw w h)
  have hA : ∀ q : Nat, s.heap.size ≤ q → (fun q : Nat => s.heap.size ≤ q) q := fun _ h => h
  obtain ⟨c0, iS0, hKn0⟩ := u_known (C := RX0) (T := TX0) (N := 10) (n := 10) hw inX0 (hw _ wb_10)
  obtain ⟨c1, iS1, hKn1⟩ := u_known (C := RX1) (T := TX1) (N := 14) (n := 14) hw inX1 (hw _ wb_262)
  obtain ⟨dC, dI, hKc⟩ : ∃ (dC : Nat → ClassId) (dI : Nat → Nat → Nat), ∀ (k : Nat) (q : vw_C), cls2[k]? = some q → u_Kn s q.1 q.2.1 q.2.2 (dC k) (dI k) := by
    refine ⟨fun k => if k = 0 then c0 else c1, fun k => if k = 0 then iS0 else iS1, ?_⟩
    intro k q hq
    match k, hq with
    | 0, hq => cases hq; exact hKn0
    | 1, hq => cases hq; exact hKn1
    | k + 2, hq => simp [cls2] at hq
  have hS : va_S (fun q : Nat => s.heap.size ≤ q) s.heap s.heap [] := va_S.rf
  have hK : va_K (dC, dI) cls2 [] s := ⟨hKc, fun k q h => by simp at h⟩
  have hP : va_P (dC, dI) cls2 [] s.heap := fun k q h => by simp at h
  have hD : va_D (fun q : Nat => s.heap.size ≤ q) [] := ⟨fun i j p q h => by simp at h, fun k q h => by simp at h⟩
  have hl := lv_entry ([.ref b]) (n := 7) (Nat.le_of_ble_eq_true rfl)
  rw [lg_entry_eq]
  generalize (lg_sl ([.ref b]) ++ List.replicate (7 - (lg_sl ([.ref b])).length) Slot.unset).toArray = ls at hl ⊢
  have hl : lv_has ls 7 [(0, .ref b)] := hl
  refine va_new (ci := 0) (fs := [.null, .null, .null, .null, .int 0, .int 0, .int 0, .int 0, .int 0, .long 0]) (C := RX0) (T := TX0) (N := 10) hx hb hw inX0 tyX0 tyX0_ok hown (hw _ wb_9) (hw _ wb_10) (hw _ wb_1) hK hP hD hS hA rfl (fun j hj => by rcases (show j = 0 ∨ j = 1 ∨ j = 2 ∨ j = 3 ∨ j = 4 ∨ j = 5 ∨ j = 6 ∨ j = 7 ∨ j = 8 ∨ j = 9 by omega) with rfl | rfl | rfl | rfl | rfl | rfl | rfl | rfl | rfl | rfl <;> rfl) (by decide) (by decide) dL_law_0 (fun q0 H hP hD hS => ?_)
  have hP : va_P (dC, dI) cls2 [(q0, .inr (0, [.null, .null, .null, .null, .int 0, .int 0, .int 0, .int 0, .int 0, .long 0]))] H := hP
  have hD : va_D (fun q : Nat => s.heap.size ≤ q) [(q0, .inr (0, [.null, .null, .null, .null, .int 0, .int 0, .int 0, .int 0, .int 0, .long 0]))] := hD
  refine W.widen (k := 1) (n := 10) (by decide) (by decide) ?_
  refine lv_dup hx hb dL_law_3 rfl ?_
  have hPc := hP
  have hDc := hD
  have hKc := hK
  have hFc := va_free (wc := [(q0, .inr (0, [.null, .null, .null, .null, .int 0, .int 0, .int 0, .int 0, .int 0, .long 0]))]) hD hS hA [0] rfl
  refine va_callv (va_runI (As := []) (rest := [.ref q0]) ⟨hx, hb, hml, hown, hw⟩ (m_init l dC dI q0 H.size) (cwI 0 hw (gw_c wb_13) rfl rfl rfl (hw _ wb_1) (hw _ wb_11) (hw _ wb_12) rfl (by decide +kernel) ⟨(Nat.le_of_ble_eq_true rfl), (Nat.le_of_ble_eq_true rfl)⟩) ⟨fun a U g mk q => by obtain ⟨q0, q1, qP, qK, qD⟩ := q; exact ⟨q0, q1, qP, va_K.moved (u := U) (U := U.calling g mk a) (Vm.Alike.refl U.vm) qK, qD⟩, fun U hU hW => ⟨rfl, by rw [hU], by rw [hU]; exact hPc, va_K.moved hW.alike hKc, hDc.weaken (fun _ _ _ _ => trivial)⟩⟩ rfl rfl hl.1 rfl (lv_room (Nat.le_of_ble_eq_true rfl)) dL_law_4 ⟨by decide, by decide⟩) hS (fun q _ h => hFc q h) hFc (fun u t H1 locs ht hvm hq hB9 hz1 hk1 hS => ?_)
  obtain ⟨ax, yx⟩ := u
  replace hq : ax 0 = q0 := hq
  subst hq
  obtain ⟨hP1, hK1, hD1⟩ := hB9
  rw [ht] at hP1
  have hK : va_K (dC, dI) cls2 (tysX yx) s := va_K.moved hvm.symm hK1
  have hP : va_P (dC, dI) cls2 (XW ax yx (0, 0, 0, 0, 0, 0, (fun _ => 0), (fun _ => 0), (fun _ => 0), (fun _ => 0))) H1 := hP1
  have hD : va_D (fun q : Nat => s.heap.size ≤ q) (XW ax yx (0, 0, 0, 0, 0, 0, (fun _ => 0), (fun _ => 0), (fun _ => 0), (fun _ => 0))) := hD1.weaken (fun k q h _ => hFc q.1 (hD1.2 k q h))
  clear hP1 hK1 hD1 hk1 hz1 ht hPc hDc hKc hFc
  generalize H1 = H at hP hS ⊢
  refine W.widen (k := 5) (n := 1850) (by decide) (by decide) ?_
  refine lv_astore_n (lv' := [(1, .ref (ax 0)), (0, .ref b)]) hx hb dL_law_7 rfl hl (by decide) rfl (fun ls hl => ?_)
  refine va_new (ci := 1) (fs := [.int 0, .int 0, .int 0, .int 0, .int 0, .null, .null, .int 0, .null, .int 0, .null, .null, .null, .null]) (C := RX1) (T := TX1) (N := 14) hx hb hw inX1 tyX1 tyX1_ok hown (hw _ wb_261) (hw _ wb_262) (hw _ wb_2) hK hP hD hS hA rfl (fun j hj => by rcases (show j = 0 ∨ j = 1 ∨ j = 2 ∨ j = 3 ∨ j = 4 ∨ j = 5 ∨ j = 6 ∨ j = 7 ∨ j = 8 ∨ j = 9 ∨ j = 10 ∨ j = 11 ∨ j = 12 ∨ j = 13 by omega) with rfl | rfl | rfl | rfl | rfl | rfl | rfl | rfl | rfl | rfl | rfl | rfl | rfl | rfl <;> rfl) (by decide) (by decide) dL_law_8 (fun q1 H hP hD hS => ?_)
  have hP : va_P (dC, dI) cls2 (XW ax yx (0, 0, 0, 0, 0, 0, (fun _ => 0), (fun _ => 0), (fun _ => 0), (fun _ => 0)) ++ [(q1, .inr (1, [.int 0, .int 0, .int 0, .int 0, .int 0, .null, .null, .int 0, .null, .int 0, .null, .null, .null, .null]))]) H := hP
  have hD : va_D (fun q : Nat => s.heap.size ≤ q) (XW ax yx (0, 0, 0, 0, 0, 0, (fun _ => 0), (fun _ => 0), (fun _ => 0), (fun _ => 0)) ++ [(q1, .inr (1, [.int 0, .int 0, .int 0, .int 0, .int 0, .null, .null, .int 0, .null, .int 0, .null, .null, .null, .null]))]) := hD
  refine W.widen (k := 6) (n := 1864) (by decide) (by decide) ?_
  refine lv_dup hx hb dL_law_11 rfl ?_
  have hPc := hP.sub (ws' := [(q1, .inr (1, [.int 0, .int 0, .int 0, .int 0, .int 0, .null, .null, .int 0, .null, .int 0, .null, .null, .null, .null]))]) [5] rfl
  have hDc := hD.sub (ws' := [(q1, .inr (1, [.int 0, .int 0, .int 0, .int 0, .int 0, .null, .null, .int 0, .null, .int 0, .null, .null, .null, .null]))]) [5] (by decide) rfl
  have hKc := hK.sub (tys' := []) [] rfl
  have hFc := va_free (wc := [(q1, .inr (1, [.int 0, .int 0, .int 0, .int 0, .int 0, .null, .null, .int 0, .null, .int 0, .null, .null, .null, .null]))]) hD hS hA [5] rfl
  refine va_callv (va_runI (As := []) (rest := [.ref q1]) ⟨hx, hb, hml, hown, hw⟩ (n_init l dC dI q1 H.size) (cwI 0 hw (gw_c wb_265) rfl rfl rfl (hw _ wb_2) (hw _ wb_263) (hw _ wb_264) rfl (by decide +kernel) ⟨(Nat.le_of_ble_eq_true rfl), (Nat.le_of_ble_eq_true rfl)⟩) ⟨fun a U g mk q => by obtain ⟨q0, q1, qP, qK, qD⟩ := q; exact ⟨q0, q1, qP, va_K.moved (u := U) (U := U.calling g mk a) (Vm.Alike.refl U.vm) qK, qD⟩, fun U hU hW => ⟨rfl, by rw [hU], by rw [hU]; exact hPc, va_K.moved hW.alike hKc, hDc.weaken (fun _ _ _ _ => trivial)⟩⟩ rfl rfl hl.1 rfl (lv_room (Nat.le_of_ble_eq_true rfl)) dL_law_12 ⟨by decide, by decide⟩) hS (fun q _ h => hFc q h) hFc (fun u t H1 locs ht hvm hq hB9 hz1 hk1 hS => ?_)
  obtain ⟨am, ym⟩ := u
  replace hq : am 0 = q1 := hq
  subst hq
  obtain ⟨hP1, hK1, hD1⟩ := hB9
  rw [ht] at hP1
  obtain ⟨hP, hD⟩ := va_join (wr := XW ax yx (0, 0, 0, 0, 0, 0, (fun _ => 0), (fun _ => 0), (fun _ => 0), (fun _ => 0))) (w1 := MW am ym (0, 0, 0, 0, 0, 0, 0, (fun _ => 0), (fun _ => 0), (fun _ => 0), (fun _ => 0), (fun _ => 0), mo_it 1024 0 (fun _ => 0), lw_out 6 1 (fun _ => 0))) hP hD [5] [0, 1, 2, 3, 4] rfl rfl (by decide) (by decide) hk1 hFc hP1 hD1
  have hK := (hK.sub (tys' := tysX yx) [0, 1, 2, 3] rfl).app (va_K.moved hvm.symm hK1)
  clear hP1 hK1 hD1 hk1 hz1 ht hPc hDc hKc hFc
  generalize H1 = H at hP hS ⊢
  refine W.widen (k := 13) (n := 13168) (by decide) (by decide) ?_
  refine lv_astore_n (lv' := [(2, .ref (am 0)), (1, .ref (ax 0)), (0, .ref b)]) hx hb dL_law_15 rfl hl (by decide) rfl (fun ls hl => ?_)
  refine lv_iconst (v := 1) hx hb dL_law_16 (by decide) ?_
  refine va_newa (atype := .long) (ty := .long) (a0 := (1, .inr (.inl (fun _ => 0)))) (N' := 1) hx hb (hw _ wb_49) rfl hK hP hD hS hA (fun _ => rfl) (by decide +kernel) (by decide +kernel) (by decide +kernel) (by decide) (by decide) dL_law_17 (fun qo yo H hK hP hD hS => ?_)
  have hK : va_K (dC, dI) cls2 (tysL yx ym yo) s := hK
  have hP : va_P (dC, dI) cls2 (LWd ax yx am ym qo yo (0, 0, 0, 0, 0, 0, (fun _ => 0), (fun _ => 0), (fun _ => 0), (fun _ => 0)) (0, 0, 0, 0, 0, 0, 0, (fun _ => 0), (fun _ => 0), (fun _ => 0), (fun _ => 0), (fun _ => 0), mo_it 1024 0 (fun _ => 0), lw_out 6 1 (fun _ => 0)) (fun _ => 0)) H := hP
  have hD : va_D (fun q : Nat => s.heap.size ≤ q) (LWd ax yx am ym qo yo (0, 0, 0, 0, 0, 0, (fun _ => 0), (fun _ => 0), (fun _ => 0), (fun _ => 0)) (0, 0, 0, 0, 0, 0, 0, (fun _ => 0), (fun _ => 0), (fun _ => 0), (fun _ => 0), (fun _ => 0), mo_it 1024 0 (fun _ => 0), lw_out 6 1 (fun _ => 0)) (fun _ => 0)) := hD
  refine W.widen (k := 14) (n := 13169) (by decide) (by decide) ?_
  refine lv_astore_n (lv' := [(3, .ref qo), (2, .ref (am 0)), (1, .ref (ax 0)), (0, .ref b)]) hx hb dL_law_19 rfl hl (by decide) rfl (fun ls hl => ?_)
  refine lv_iconst (v := 0) hx hb dL_law_20 (by decide) ?_
  refine lv_istore (lv' := [(4, .int 0), (3, .ref qo), (2, .ref (am 0)), (1, .ref (ax 0)), (0, .ref b)]) hx hb dL_law_21 hl (by decide) rfl (fun ls hl => ?_)
  exact law_loop hl9 hL C0 hT hK 513 0 (0, 0, 0, 0, 0, 0, (fun _ => 0), (fun _ => 0), (fun _ => 0), (fun _ => 0)) (0, 0, 0, 0, 0, 0, 0, (fun _ => 0), (fun _ => 0), (fun _ => 0), (fun _ => 0), (fun _ => 0), mo_it 1024 0 (fun _ => 0), lw_out 6 1 (fun _ => 0)) (fun _ => 0) H _ (by decide) (by decide) ⟨0, 0, 0, fun _ => 0, R_0⟩ hP hD hS ls (lv_sub hl [0, 4, 3, 2, 1] rfl)
