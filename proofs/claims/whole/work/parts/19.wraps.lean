/-! the law's own methods: a call of the class, what it throws told by a number -/
abbrev XOW (ax : Nat → Nat) (yx : Nat → ClassId) (qo : Nat) (yo : ClassId) (u : XS × (Nat → Int64)) : va_W := match u with
  | ((cc, tc, fc, hc, dr, dO, fC, fO, fT, fH), g) => [(ax 0, .inr (0, [.ref (ax 1), .ref (ax 2), .ref (ax 3), .ref (ax 4), .int cc, .int tc, .int fc, .int hc, .int dr, .long dO])), (ax 1, .inl (yx 1, 600, .inl fC)), (ax 2, .inl (yx 2, 600, .inr (.inl fO))), (ax 3, .inl (yx 3, 600, .inl fT)), (ax 4, .inl (yx 4, 40, .inl fH)), (qo, .inl (yo, 1, .inr (.inl g)))]
abbrev tysXO (yx : Nat → ClassId) (yo : ClassId) : List (ClassId × FieldType) := [(yx 1, .int), (yx 2, .long), (yx 3, .boolean), (yx 4, .int), (yo, .long)]
abbrev preXO (dC : Nat → ClassId) (dI : Nat → Nat → Nat) (ax : Nat → Nat) (yx : Nat → ClassId) (qo : Nat) (yo : ClassId) (sz : Nat) (u : XS × (Nat → Int64)) (U : State) : Prop := U.heap.size = sz ∧ va_P (dC, dI) cls2 (XOW ax yx qo yo u) U.heap ∧ va_K (dC, dI) cls2 (tysXO yx yo) U ∧ va_D (fun _ => True) (XOW ax yx qo yo u) ∧ ThU U
abbrev atXO (dC : Nat → ClassId) (dI : Nat → Nat → Nat) (A : Nat → Prop) (ax : Nat → Nat) (yx : Nat → ClassId) (qo : Nat) (yo : ClassId) (u : XS × (Nat → Int64)) (t : State) : Prop := va_P (dC, dI) cls2 (XOW ax yx qo yo u) t.heap ∧ va_K (dC, dI) cls2 (tysXO yx yo) t ∧ va_D A (XOW ax yx qo yo u)
theorem blind_preXO {dC : Nat → ClassId} {dI : Nat → Nat → Nat} {ax : Nat → Nat} {yx : Nat → ClassId} {qo : Nat} {yo : ClassId} {sz : Nat} {u : XS × (Nat → Int64)} {av : List Value} : FrameBlind (va_Pc av (preXO dC dI ax yx qo yo sz u)) := fun a U g mk q => by
  obtain ⟨q0, q1, qP, qK, qD, qT⟩ := q
  exact ⟨q0, q1, qP, va_K.moved (u := U) (U := U.calling g mk a) (Vm.Alike.refl U.vm) qK, qD, qT.calling⟩
theorem in_01 : vp_in (0 : Int32) 1 := vp_in_nI (n := 0) (N := 1) (by decide) (by decide)
abbrev o_set (g : Nat → Int64) (v : Int32) : Nat → Int64 := vp_updL g (0 : Int32).toNatClampNeg v.toInt64
set_option maxHeartbeats 800000 in
set_option maxRecDepth 100000 in
/-- L_literal -/
theorem l_literal (l : Launch) (hl9 : l.stackTraces = false) (dC : Nat → ClassId) (dI : Nat → Nat → Nat) (ax : Nat → Nat) (yx : Nat → ClassId) (qo : Nat) (yo : ClassId) (sz0 : Nat) (cc tc fc hc dr : Int32) (dO : Int64) (fC : Nat → Int32) (fO : Nat → Int64) (fT fH : Nat → Int32) (g : Nat → Int64) (k : Int32) : Met l yL_literal wsL_literal (rmN 8 1 6) (va_Pc [.ref (ax 0), .int k, .ref qo] (preXO dC dI ax yx qo yo sz0 ((cc, tc, fc, hc, dr, dO, fC, fO, fT, fH), g))) (va_Qi (fun (r : Int32) (u : XS × (Nat → Int64)) => (lt_bad dr k ∧ r = 1 ∧ u = ((cc, tc, fc, hc, dr, dO, fC, fO, fT, fH), g)) ∨ (¬ lt_bad dr k ∧ r = 0 ∧ u = ((cc, tc, fc, hc, dr ||| mk_bit k, lt_ord dr dO k, fC, fO, fT, fH), o_set g (nI (pb_sz (dr ||| mk_bit k)))))) (atXO dC dI (va_A (XOW ax yx qo yo ((cc, tc, fc, hc, dr, dO, fC, fO, fT, fH), g)) sz0) ax yx qo yo) (va_A (XOW ax yx qo yo ((cc, tc, fc, hc, dr, dO, fC, fO, fT, fH), g)) sz0)) 1 6 (va_A (XOW ax yx qo yo ((cc, tc, fc, hc, dr, dO, fC, fO, fT, fH), g)) sz0) := by
  refine va_MetW (cc := cL_literal) (maxL := 4) (ret := (some .int)) (by decide) rfl ?_
  intro p e s m args below meth c s₁ B hml hv
  obtain ⟨rfl, hsz, hP, hK, hD0, hT⟩ := hv
  have hx := B.exec
  have hb := B.bytes
  have hrt := B.returns
  have hlocks := B.notSynchronized
  have hts := atoms_spec (ws := wsL_literal) B.pre
  have hw : ∀ w ∈ WB, w.before ([.ref (ax 0), .int k, .ref qo] : List Value).toArray s = true := fun w h => hts w (List.mem_cons_of_mem _ h)
  have hown : s.vm.findClass "ProofBenchLaw" = some m.cls := findClass_of_methodNamed B.named
  have htab := vx_table (x := yL_law) B (hts _ List.mem_cons_self)
  subst hsz
  have hD := hD0.self (sz := s.heap.size)
  generalize hAe : va_A (XOW ax yx qo yo ((cc, tc, fc, hc, dr, dO, fC, fO, fT, fH), g)) s.heap.size = A at hD ⊢
  have hA : ∀ q : Nat, s.heap.size ≤ q → A q := fun q h => by rw [← hAe]; exact Or.inr h
  have hS : va_S A s.heap s.heap [] := va_S.rf
  have hP : va_P (dC, dI) cls2 (XOW ax yx qo yo ((cc, tc, fc, hc, dr, dO, fC, fO, fT, fH), g)) s.heap := hP
  have hl := lv_entry ([.ref (ax 0), .int k, .ref qo]) (n := 4) (Nat.le_of_ble_eq_true rfl)
  rw [lg_entry_eq]
  generalize (lg_sl ([.ref (ax 0), .int k, .ref qo]) ++ List.replicate (4 - (lg_sl ([.ref (ax 0), .int k, .ref qo])).length) Slot.unset).toArray = ls at hl ⊢
  have hl : lv_has ls 4 [(0, .ref (ax 0)), (1, .int k), (2, .ref qo)] := hl
  refine lv_aload_n hx hb dL_literal_0 rfl (lv_at hl 2 rfl) ?_
  refine lv_iconst (v := 0) hx hb dL_literal_1 (by decide) ?_
  refine lv_aload_n hx hb dL_literal_2 rfl (lv_at hl 0 rfl) ?_
  refine lv_iload_n hx hb dL_literal_3 rfl (lv_at hl 1 rfl) ?_
  have hPc := hP.sub (ws' := XW ax yx (cc, tc, fc, hc, dr, dO, fC, fO, fT, fH)) [0, 1, 2, 3, 4] rfl
  have hDc := hD.sub (ws' := XW ax yx (cc, tc, fc, hc, dr, dO, fC, fO, fT, fH)) [0, 1, 2, 3, 4] (by decide) rfl
  have hKc := hK.sub (tys' := tysX yx) [0, 1, 2, 3] rfl
  have hFc := va_free (wc := XW ax yx (cc, tc, fc, hc, dr, dO, fC, fO, fT, fH)) hD hS hA [0, 1, 2, 3, 4] rfl
  refine vx_calli (vx_runV (As := [.int k]) (rest := [.int 0, .ref qo]) ⟨hx, hb, hml, hown, hw⟩ (m_literal l hl9 dC dI ax yx s.heap.size cc tc fc hc dr dO fC fO fT fH k) (cwV 1 hw (gw_V wb_93 wb_94 wb_95 wb_1 wb_96) rfl rfl rfl (by decide +kernel) ⟨Nat.le_of_ble_eq_true rfl, Nat.le_of_ble_eq_true rfl⟩) ⟨blind_preXT, va_recv hKc hPc (ci := 0) (q0 := 0) rfl rfl, fun U hU hW => ⟨rfl, ⟨by rw [hU], by rw [hU]; exact hPc, va_K.moved hW.alike hKc, hDc.weaken (fun _ _ _ _ => trivial)⟩, ThU.at hU hW hT⟩⟩ rfl rfl hl.1 rfl (lv_room (Nat.le_of_ble_eq_true rfl)) dL_literal_4 ⟨(Nat.le_of_ble_eq_true rfl), (Nat.le_of_ble_eq_true rfl)⟩) hS (fun q _ h => hFc q h) hFc (fun q hq h => absurd hq (Nat.not_lt.mpr h)) ?_ ?_
  · intro E ce q9 u t H1 locs ht hvm hpx hBX h1 h2 hS hce hcv hcl
    have hP : va_P (dC, dI) cls2 (XOW ax yx qo yo ((cc, tc, fc, hc, dr, dO, fC, fO, fT, fH), g)) H1 := hP.kept (fun k x hx => h2 x.1 (hP k x hx).lt (Nat.not_le.mpr (hP k x hx).lt))
    subst hBX
    refine vx_catch (own := "ProofBenchLaw") (name := IAE) hown [] ⟨0, 9, 12, 13⟩ [] htab (fun z hz => nomatch hz) (by decide) (by decide) (hw _ wb_92) (va_Nw.use rfl hT.2.2.1) hce hcv hcl ?_
    refine lv_astore_n (lv' := [(3, .ref q9), (0, .ref (ax 0)), (1, .int k), (2, .ref qo)]) hx hb dL_literal_12 rfl hl (by decide) rfl (fun ls hl => ?_)
    refine lv_iconst (v := 1) hx hb dL_literal_13 (by decide) ?_
    refine W.widen (k := 1) (n := 6) (Nat.le_of_ble_eq_true rfl) (Nat.le_of_ble_eq_true rfl) ?_
    exact W.iret (v := 1) hx hb hrt (fun t ht hW => ⟨⟨_, _, rfl, Or.inl ⟨hpx, rfl, rfl⟩, by rw [ht]; exact hP, va_K.moved hW.alike hK, hD⟩, hS.F ht⟩) hS.2.2 dL_literal_14
  · intro r1 u t H1 locs ht hvm hq hB hz1 hk1 hS
    obtain ⟨nb, er1, rfl⟩ := hq
    obtain ⟨hP1, hK1, hD1⟩ := hB
    rw [ht] at hP1
    obtain ⟨hP, hD⟩ := va_join (wr := [(qo, .inl (yo, 1, .inr (.inl g)))]) (w1 := XW ax yx (cc, tc, fc, hc, dr ||| mk_bit k, lt_ord dr dO k, fC, fO, fT, fH)) hP hD [0, 1, 2, 3, 4] [5] rfl rfl (by decide) (by decide) hk1 hFc hP1 hD1
    have hP : va_P (dC, dI) cls2 (XOW ax yx qo yo ((cc, tc, fc, hc, dr ||| mk_bit k, lt_ord dr dO k, fC, fO, fT, fH), g)) H1 := hP.sub [1, 2, 3, 4, 5, 0] rfl
    have hD : va_D A (XOW ax yx qo yo ((cc, tc, fc, hc, dr ||| mk_bit k, lt_ord dr dO k, fC, fO, fT, fH), g)) := hD.sub [1, 2, 3, 4, 5, 0] (by decide) rfl
    generalize H1 = H at hP hS ⊢
    refine lv_i2l (v := r1.toInt64) hx hb dL_literal_7 rfl ?_
    refine va_last hx hb hK hP hD hS 5 4 rfl rfl in_01 dL_literal_8 (fun H locs hP hD hS => ?_)
    have hP : va_P (dC, dI) cls2 (XOW ax yx qo yo ((cc, tc, fc, hc, dr ||| mk_bit k, lt_ord dr dO k, fC, fO, fT, fH), o_set g r1)) H := hP
    have hD : va_D A (XOW ax yx qo yo ((cc, tc, fc, hc, dr ||| mk_bit k, lt_ord dr dO k, fC, fO, fT, fH), o_set g r1)) := hD
    refine lv_goto (tgt := 15) hx hb dL_literal_9 (by decide) ?_
    refine lv_iconst (v := 0) hx hb dL_literal_15 (by decide) ?_
    refine W.widen (k := 1) (n := 6) (Nat.le_of_ble_eq_true rfl) (Nat.le_of_ble_eq_true rfl) ?_
    exact W.iret (v := 0) hx hb hrt (fun t ht hW => ⟨⟨_, _, rfl, Or.inr ⟨nb, rfl, by rw [er1]⟩, by rw [ht]; exact hP, va_K.moved hW.alike hK, hD⟩, hS.F ht⟩) hS.2.2 dL_literal_16
set_option maxHeartbeats 800000 in
set_option maxRecDepth 100000 in
/-- L_hint -/
theorem l_hint (l : Launch) (hl9 : l.stackTraces = false) (dC : Nat → ClassId) (dI : Nat → Nat → Nat) (ax : Nat → Nat) (yx : Nat → ClassId) (qo : Nat) (yo : ClassId) (sz0 : Nat) (cc tc fc hc dr : Int32) (dO : Int64) (fC : Nat → Int32) (fO : Nat → Int64) (fT fH : Nat → Int32) (g : Nat → Int64) (k : Int32) (q : Nat) (ehc : hc = nI q) (hq40 : q ≤ 40) : Met l yL_hint wsL_hint (rmN 8 1 6) (va_Pc [.ref (ax 0), .int k, .ref qo] (preXO dC dI ax yx qo yo sz0 ((cc, tc, fc, hc, dr, dO, fC, fO, fT, fH), g))) (va_Qi (fun (r : Int32) (u : XS × (Nat → Int64)) => ((k < 0 ∨ ¬ k < 600) ∧ r = 1 ∧ u = ((cc, tc, fc, hc, dr, dO, fC, fO, fT, fH), g)) ∨ ((¬ (k < 0 ∨ ¬ k < 600) ∧ ¬ hc < 40) ∧ r = 2 ∧ u = ((cc, tc, fc, hc, dr, dO, fC, fO, fT, fH), g)) ∨ (¬ (k < 0 ∨ ¬ k < 600) ∧ hc < 40 ∧ r = 0 ∧ u = ((cc, tc, fc, hc + 1, dr, dO, fC, fO, fT, upd fH hc.toNatClampNeg k), o_set g (hc + 1)))) (atXO dC dI (va_A (XOW ax yx qo yo ((cc, tc, fc, hc, dr, dO, fC, fO, fT, fH), g)) sz0) ax yx qo yo) (va_A (XOW ax yx qo yo ((cc, tc, fc, hc, dr, dO, fC, fO, fT, fH), g)) sz0)) 1 6 (va_A (XOW ax yx qo yo ((cc, tc, fc, hc, dr, dO, fC, fO, fT, fH), g)) sz0) := by
  refine va_MetW (cc := cL_hint) (maxL := 4) (ret := (some .int)) (by decide) rfl ?_
  intro p e s m args below meth c s₁ B hml hv
  obtain ⟨rfl, hsz, hP, hK, hD0, hT⟩ := hv
  have hx := B.exec
  have hb := B.bytes
  have hrt := B.returns
  have hlocks := B.notSynchronized
  have hts := atoms_spec (ws := wsL_hint) B.pre
  have hw : ∀ w ∈ WB, w.before ([.ref (ax 0), .int k, .ref qo] : List Value).toArray s = true := fun w h => hts w (List.mem_cons_of_mem _ h)
  have hown : s.vm.findClass "ProofBenchLaw" = some m.cls := findClass_of_methodNamed B.named
  have htab := vx_table (x := yL_law) B (hts _ List.mem_cons_self)
  subst hsz
  have hD := hD0.self (sz := s.heap.size)
  generalize hAe : va_A (XOW ax yx qo yo ((cc, tc, fc, hc, dr, dO, fC, fO, fT, fH), g)) s.heap.size = A at hD ⊢
  have hA : ∀ q : Nat, s.heap.size ≤ q → A q := fun q h => by rw [← hAe]; exact Or.inr h
  have hS : va_S A s.heap s.heap [] := va_S.rf
  have hP : va_P (dC, dI) cls2 (XOW ax yx qo yo ((cc, tc, fc, hc, dr, dO, fC, fO, fT, fH), g)) s.heap := hP
  have hl := lv_entry ([.ref (ax 0), .int k, .ref qo]) (n := 4) (Nat.le_of_ble_eq_true rfl)
  rw [lg_entry_eq]
  generalize (lg_sl ([.ref (ax 0), .int k, .ref qo]) ++ List.replicate (4 - (lg_sl ([.ref (ax 0), .int k, .ref qo])).length) Slot.unset).toArray = ls at hl ⊢
  have hl : lv_has ls 4 [(0, .ref (ax 0)), (1, .int k), (2, .ref qo)] := hl
  refine lv_aload_n hx hb dL_hint_0 rfl (lv_at hl 2 rfl) ?_
  refine lv_iconst (v := 0) hx hb dL_hint_1 (by decide) ?_
  refine lv_aload_n hx hb dL_hint_2 rfl (lv_at hl 0 rfl) ?_
  refine lv_iload_n hx hb dL_hint_3 rfl (lv_at hl 1 rfl) ?_
  have hPc := hP.sub (ws' := XW ax yx (cc, tc, fc, hc, dr, dO, fC, fO, fT, fH)) [0, 1, 2, 3, 4] rfl
  have hDc := hD.sub (ws' := XW ax yx (cc, tc, fc, hc, dr, dO, fC, fO, fT, fH)) [0, 1, 2, 3, 4] (by decide) rfl
  have hKc := hK.sub (tys' := tysX yx) [0, 1, 2, 3] rfl
  have hFc := va_free (wc := XW ax yx (cc, tc, fc, hc, dr, dO, fC, fO, fT, fH)) hD hS hA [0, 1, 2, 3, 4] rfl
  refine vx_calli (vx_runV (As := [.int k]) (rest := [.int 0, .ref qo]) ⟨hx, hb, hml, hown, hw⟩ (m_hint l hl9 dC dI ax yx s.heap.size cc tc fc hc dr dO fC fO fT fH k q ehc hq40) (cwV 1 hw (gw_V wb_172 wb_173 wb_174 wb_1 wb_175) rfl rfl rfl (by decide +kernel) ⟨Nat.le_of_ble_eq_true rfl, Nat.le_of_ble_eq_true rfl⟩) ⟨blind_preXT, va_recv hKc hPc (ci := 0) (q0 := 0) rfl rfl, fun U hU hW => ⟨rfl, ⟨by rw [hU], by rw [hU]; exact hPc, va_K.moved hW.alike hKc, hDc.weaken (fun _ _ _ _ => trivial)⟩, ThU.at hU hW hT⟩⟩ rfl rfl hl.1 rfl (lv_room (Nat.le_of_ble_eq_true rfl)) dL_hint_4 ⟨(Nat.le_of_ble_eq_true rfl), (Nat.le_of_ble_eq_true rfl)⟩) hS (fun q _ h => hFc q h) hFc (fun q hq h => absurd hq (Nat.not_lt.mpr h)) ?_ ?_
  · intro E ce q9 u t H1 locs ht hvm hpx hBX h1 h2 hS hce hcv hcl
    have hP : va_P (dC, dI) cls2 (XOW ax yx qo yo ((cc, tc, fc, hc, dr, dO, fC, fO, fT, fH), g)) H1 := hP.kept (fun k x hx => h2 x.1 (hP k x hx).lt (Nat.not_le.mpr (hP k x hx).lt))
    rcases hBX with ⟨eE, hbad⟩ | ⟨eE, hbad⟩
    · subst eE
      refine vx_catch (own := "ProofBenchLaw") (name := IAE) hown [] ⟨0, 9, 12, 13⟩ [⟨0, 9, 15, 18⟩] htab (fun z hz => nomatch hz) (by decide) (by decide) (hw _ wb_92) (va_Nw.use rfl hT.2.2.1) hce hcv hcl ?_
      refine lv_astore_n (lv' := [(3, .ref q9), (0, .ref (ax 0)), (1, .int k), (2, .ref qo)]) hx hb dL_hint_12 rfl hl (by decide) rfl (fun ls hl => ?_)
      refine lv_iconst (v := 1) hx hb dL_hint_13 (by decide) ?_
      refine W.widen (k := 1) (n := 6) (Nat.le_of_ble_eq_true rfl) (Nat.le_of_ble_eq_true rfl) ?_
      exact W.iret (v := 1) hx hb hrt (fun t ht hW => ⟨⟨_, _, rfl, Or.inl ⟨hbad, rfl, rfl⟩, by rw [ht]; exact hP, va_K.moved hW.alike hK, hD⟩, hS.F ht⟩) hS.2.2 dL_hint_14
    · subst eE
      refine vx_catch (own := "ProofBenchLaw") (name := ISE) hown [⟨0, 9, 12, 13⟩] ⟨0, 9, 15, 18⟩ [] htab (fun z hz => by rw [List.mem_singleton.mp hz]; exact Or.inr ⟨by decide, IAE, hw _ wb_92, hT.2.2.2.2.2.2.2.2⟩) (by decide) (by decide) (hw _ wb_171) (va_Nw.use rfl hT.2.2.2.1) hce hcv hcl ?_
      refine lv_astore_n (lv' := [(3, .ref q9), (0, .ref (ax 0)), (1, .int k), (2, .ref qo)]) hx hb dL_hint_15 rfl hl (by decide) rfl (fun ls hl => ?_)
      refine lv_iconst (v := 2) hx hb dL_hint_16 (by decide) ?_
      refine W.widen (k := 1) (n := 6) (Nat.le_of_ble_eq_true rfl) (Nat.le_of_ble_eq_true rfl) ?_
      exact W.iret (v := 2) hx hb hrt (fun t ht hW => ⟨⟨_, _, rfl, Or.inr (Or.inl ⟨hbad, rfl, rfl⟩), by rw [ht]; exact hP, va_K.moved hW.alike hK, hD⟩, hS.F ht⟩) hS.2.2 dL_hint_17
  · intro r1 u t H1 locs ht hvm hq hB hz1 hk1 hS
    obtain ⟨nb, n40, er1, rfl⟩ := hq
    obtain ⟨hP1, hK1, hD1⟩ := hB
    rw [ht] at hP1
    obtain ⟨hP, hD⟩ := va_join (wr := [(qo, .inl (yo, 1, .inr (.inl g)))]) (w1 := XW ax yx (cc, tc, fc, hc + 1, dr, dO, fC, fO, fT, upd fH hc.toNatClampNeg k)) hP hD [0, 1, 2, 3, 4] [5] rfl rfl (by decide) (by decide) hk1 hFc hP1 hD1
    have hP : va_P (dC, dI) cls2 (XOW ax yx qo yo ((cc, tc, fc, hc + 1, dr, dO, fC, fO, fT, upd fH hc.toNatClampNeg k), g)) H1 := hP.sub [1, 2, 3, 4, 5, 0] rfl
    have hD : va_D A (XOW ax yx qo yo ((cc, tc, fc, hc + 1, dr, dO, fC, fO, fT, upd fH hc.toNatClampNeg k), g)) := hD.sub [1, 2, 3, 4, 5, 0] (by decide) rfl
    generalize H1 = H at hP hS ⊢
    refine lv_i2l (v := r1.toInt64) hx hb dL_hint_7 rfl ?_
    refine va_last hx hb hK hP hD hS 5 4 rfl rfl in_01 dL_hint_8 (fun H locs hP hD hS => ?_)
    have hP : va_P (dC, dI) cls2 (XOW ax yx qo yo ((cc, tc, fc, hc + 1, dr, dO, fC, fO, fT, upd fH hc.toNatClampNeg k), o_set g r1)) H := hP
    have hD : va_D A (XOW ax yx qo yo ((cc, tc, fc, hc + 1, dr, dO, fC, fO, fT, upd fH hc.toNatClampNeg k), o_set g r1)) := hD
    refine lv_goto (tgt := 18) hx hb dL_hint_9 (by decide) ?_
    refine lv_iconst (v := 0) hx hb dL_hint_18 (by decide) ?_
    refine W.widen (k := 1) (n := 6) (Nat.le_of_ble_eq_true rfl) (Nat.le_of_ble_eq_true rfl) ?_
    exact W.iret (v := 0) hx hb hrt (fun t ht hW => ⟨⟨_, _, rfl, Or.inr (Or.inr ⟨nb, n40, rfl, by rw [er1]⟩), by rw [ht]; exact hP, va_K.moved hW.alike hK, hD⟩, hS.F ht⟩) hS.2.2 dL_hint_19
set_option maxHeartbeats 800000 in
set_option maxRecDepth 100000 in
/-- L_drop -/
theorem l_drop (l : Launch) (hl9 : l.stackTraces = false) (dC : Nat → ClassId) (dI : Nat → Nat → Nat) (ax : Nat → Nat) (yx : Nat → ClassId) (qo : Nat) (yo : ClassId) (sz0 : Nat) (cc tc fc hc dr : Int32) (dO : Int64) (fC : Nat → Int32) (fO : Nat → Int64) (fT fH : Nat → Int32) (g : Nat → Int64) (k : Int32) (n : Nat) (hn : n ≤ 600) (ecc : cc = nI n) : Met l yL_drop wsL_drop (rmN 8 1 6) (va_Pc [.ref (ax 0), .int k, .ref qo] (preXO dC dI ax yx qo yo sz0 ((cc, tc, fc, hc, dr, dO, fC, fO, fT, fH), g))) (va_Qi (fun (r : Int32) (u : XS × (Nat → Int64)) => (th_b cc fT k = 0 ∧ r = 1 ∧ u = ((cc, tc, fc, hc, dr, dO, fC, fO, fT, fH), g)) ∨ (th_b cc fT k ≠ 0 ∧ r = 0 ∧ u = ((cc, tc - 1, fc, hc, dr, dO, fC, fO, upd fT k.toNatClampNeg (vp_nar .boolean 0), fH), o_set g (nI (pb_sz (fC k.toNatClampNeg)))))) (atXO dC dI (va_A (XOW ax yx qo yo ((cc, tc, fc, hc, dr, dO, fC, fO, fT, fH), g)) sz0) ax yx qo yo) (va_A (XOW ax yx qo yo ((cc, tc, fc, hc, dr, dO, fC, fO, fT, fH), g)) sz0)) 1 6 (va_A (XOW ax yx qo yo ((cc, tc, fc, hc, dr, dO, fC, fO, fT, fH), g)) sz0) := by
  refine va_MetW (cc := cL_drop) (maxL := 4) (ret := (some .int)) (by decide) rfl ?_
  intro p e s m args below meth c s₁ B hml hv
  obtain ⟨rfl, hsz, hP, hK, hD0, hT⟩ := hv
  have hx := B.exec
  have hb := B.bytes
  have hrt := B.returns
  have hlocks := B.notSynchronized
  have hts := atoms_spec (ws := wsL_drop) B.pre
  have hw : ∀ w ∈ WB, w.before ([.ref (ax 0), .int k, .ref qo] : List Value).toArray s = true := fun w h => hts w (List.mem_cons_of_mem _ h)
  have hown : s.vm.findClass "ProofBenchLaw" = some m.cls := findClass_of_methodNamed B.named
  have htab := vx_table (x := yL_law) B (hts _ List.mem_cons_self)
  subst hsz
  have hD := hD0.self (sz := s.heap.size)
  generalize hAe : va_A (XOW ax yx qo yo ((cc, tc, fc, hc, dr, dO, fC, fO, fT, fH), g)) s.heap.size = A at hD ⊢
  have hA : ∀ q : Nat, s.heap.size ≤ q → A q := fun q h => by rw [← hAe]; exact Or.inr h
  have hS : va_S A s.heap s.heap [] := va_S.rf
  have hP : va_P (dC, dI) cls2 (XOW ax yx qo yo ((cc, tc, fc, hc, dr, dO, fC, fO, fT, fH), g)) s.heap := hP
  have hl := lv_entry ([.ref (ax 0), .int k, .ref qo]) (n := 4) (Nat.le_of_ble_eq_true rfl)
  rw [lg_entry_eq]
  generalize (lg_sl ([.ref (ax 0), .int k, .ref qo]) ++ List.replicate (4 - (lg_sl ([.ref (ax 0), .int k, .ref qo])).length) Slot.unset).toArray = ls at hl ⊢
  have hl : lv_has ls 4 [(0, .ref (ax 0)), (1, .int k), (2, .ref qo)] := hl
  refine lv_aload_n hx hb dL_drop_0 rfl (lv_at hl 2 rfl) ?_
  refine lv_iconst (v := 0) hx hb dL_drop_1 (by decide) ?_
  refine lv_aload_n hx hb dL_drop_2 rfl (lv_at hl 0 rfl) ?_
  refine lv_iload_n hx hb dL_drop_3 rfl (lv_at hl 1 rfl) ?_
  have hPc := hP.sub (ws' := XW ax yx (cc, tc, fc, hc, dr, dO, fC, fO, fT, fH)) [0, 1, 2, 3, 4] rfl
  have hDc := hD.sub (ws' := XW ax yx (cc, tc, fc, hc, dr, dO, fC, fO, fT, fH)) [0, 1, 2, 3, 4] (by decide) rfl
  have hKc := hK.sub (tys' := tysX yx) [0, 1, 2, 3] rfl
  have hFc := va_free (wc := XW ax yx (cc, tc, fc, hc, dr, dO, fC, fO, fT, fH)) hD hS hA [0, 1, 2, 3, 4] rfl
  refine vx_calli (vx_runV (As := [.int k]) (rest := [.int 0, .ref qo]) ⟨hx, hb, hml, hown, hw⟩ (m_drop l hl9 dC dI ax yx s.heap.size cc tc fc hc dr dO fC fO fT fH k n hn ecc) (cwV 1 hw (gw_V wb_235 wb_236 wb_237 wb_1 wb_238) rfl rfl rfl (by decide +kernel) ⟨Nat.le_of_ble_eq_true rfl, Nat.le_of_ble_eq_true rfl⟩) ⟨blind_preXT, va_recv hKc hPc (ci := 0) (q0 := 0) rfl rfl, fun U hU hW => ⟨rfl, ⟨by rw [hU], by rw [hU]; exact hPc, va_K.moved hW.alike hKc, hDc.weaken (fun _ _ _ _ => trivial)⟩, ThU.at hU hW hT⟩⟩ rfl rfl hl.1 rfl (lv_room (Nat.le_of_ble_eq_true rfl)) dL_drop_4 ⟨(Nat.le_of_ble_eq_true rfl), (Nat.le_of_ble_eq_true rfl)⟩) hS (fun q _ h => hFc q h) hFc (fun q hq h => absurd hq (Nat.not_lt.mpr h)) ?_ ?_
  · intro E ce q9 u t H1 locs ht hvm hpx hBX h1 h2 hS hce hcv hcl
    have hP : va_P (dC, dI) cls2 (XOW ax yx qo yo ((cc, tc, fc, hc, dr, dO, fC, fO, fT, fH), g)) H1 := hP.kept (fun k x hx => h2 x.1 (hP k x hx).lt (Nat.not_le.mpr (hP k x hx).lt))
    subst hBX
    refine vx_catch (own := "ProofBenchLaw") (name := IAE) hown [] ⟨0, 9, 12, 13⟩ [] htab (fun z hz => nomatch hz) (by decide) (by decide) (hw _ wb_92) (va_Nw.use rfl hT.2.2.1) hce hcv hcl ?_
    refine lv_astore_n (lv' := [(3, .ref q9), (0, .ref (ax 0)), (1, .int k), (2, .ref qo)]) hx hb dL_drop_12 rfl hl (by decide) rfl (fun ls hl => ?_)
    refine lv_iconst (v := 1) hx hb dL_drop_13 (by decide) ?_
    refine W.widen (k := 1) (n := 6) (Nat.le_of_ble_eq_true rfl) (Nat.le_of_ble_eq_true rfl) ?_
    exact W.iret (v := 1) hx hb hrt (fun t ht hW => ⟨⟨_, _, rfl, Or.inl ⟨hpx, rfl, rfl⟩, by rw [ht]; exact hP, va_K.moved hW.alike hK, hD⟩, hS.F ht⟩) hS.2.2 dL_drop_14
  · intro r1 u t H1 locs ht hvm hq hB hz1 hk1 hS
    obtain ⟨nb, er1, rfl⟩ := hq
    obtain ⟨hP1, hK1, hD1⟩ := hB
    rw [ht] at hP1
    obtain ⟨hP, hD⟩ := va_join (wr := [(qo, .inl (yo, 1, .inr (.inl g)))]) (w1 := XW ax yx (cc, tc - 1, fc, hc, dr, dO, fC, fO, upd fT k.toNatClampNeg (vp_nar .boolean 0), fH)) hP hD [0, 1, 2, 3, 4] [5] rfl rfl (by decide) (by decide) hk1 hFc hP1 hD1
    have hP : va_P (dC, dI) cls2 (XOW ax yx qo yo ((cc, tc - 1, fc, hc, dr, dO, fC, fO, upd fT k.toNatClampNeg (vp_nar .boolean 0), fH), g)) H1 := hP.sub [1, 2, 3, 4, 5, 0] rfl
    have hD : va_D A (XOW ax yx qo yo ((cc, tc - 1, fc, hc, dr, dO, fC, fO, upd fT k.toNatClampNeg (vp_nar .boolean 0), fH), g)) := hD.sub [1, 2, 3, 4, 5, 0] (by decide) rfl
    generalize H1 = H at hP hS ⊢
    refine lv_i2l (v := r1.toInt64) hx hb dL_drop_7 rfl ?_
    refine va_last hx hb hK hP hD hS 5 4 rfl rfl in_01 dL_drop_8 (fun H locs hP hD hS => ?_)
    have hP : va_P (dC, dI) cls2 (XOW ax yx qo yo ((cc, tc - 1, fc, hc, dr, dO, fC, fO, upd fT k.toNatClampNeg (vp_nar .boolean 0), fH), o_set g r1)) H := hP
    have hD : va_D A (XOW ax yx qo yo ((cc, tc - 1, fc, hc, dr, dO, fC, fO, upd fT k.toNatClampNeg (vp_nar .boolean 0), fH), o_set g r1)) := hD
    refine lv_goto (tgt := 15) hx hb dL_drop_9 (by decide) ?_
    refine lv_iconst (v := 0) hx hb dL_drop_15 (by decide) ?_
    refine W.widen (k := 1) (n := 6) (Nat.le_of_ble_eq_true rfl) (Nat.le_of_ble_eq_true rfl) ?_
    exact W.iret (v := 0) hx hb hrt (fun t ht hW => ⟨⟨_, _, rfl, Or.inr ⟨nb, rfl, by rw [er1]⟩, by rw [ht]; exact hP, va_K.moved hW.alike hK, hD⟩, hS.F ht⟩) hS.2.2 dL_drop_16
set_option maxHeartbeats 800000 in
set_option maxRecDepth 100000 in
/-- L_at -/
theorem l_at (l : Launch) (hl9 : l.stackTraces = false) (dC : Nat → ClassId) (dI : Nat → Nat → Nat) (ax : Nat → Nat) (yx : Nat → ClassId) (qo : Nat) (yo : ClassId) (sz0 : Nat) (cc tc fc hc dr : Int32) (dO : Int64) (fC : Nat → Int32) (fO : Nat → Int64) (fT fH : Nat → Int32) (g : Nat → Int64) (k : Int32) (i : Int32) (n : Nat) (hn : n ≤ 600) (ecc : cc = nI n) : Met l yL_at wsL_at (rmN 8 2 12) (va_Pc [.ref (ax 0), .int k, .int i, .ref qo] (preXO dC dI ax yx qo yo sz0 ((cc, tc, fc, hc, dr, dO, fC, fO, fT, fH), g))) (va_Qi (fun (r : Int32) (u : XS × (Nat → Int64)) => ((th_b cc fT k = 0 ∨ i < 0) ∧ r = 1 ∧ u = ((cc, tc, fc, hc, dr, dO, fC, fO, fT, fH), g)) ∨ (th_b cc fT k ≠ 0 ∧ ¬ i < 0 ∧ r = 0 ∧ u = ((cc, tc, fc, hc, dr, dO, fC, fO, fT, fH), o_set g (at_val (fC k.toNatClampNeg) (fO k.toNatClampNeg) i)))) (atXO dC dI (va_A (XOW ax yx qo yo ((cc, tc, fc, hc, dr, dO, fC, fO, fT, fH), g)) sz0) ax yx qo yo) (va_A (XOW ax yx qo yo ((cc, tc, fc, hc, dr, dO, fC, fO, fT, fH), g)) sz0)) 2 12 (va_A (XOW ax yx qo yo ((cc, tc, fc, hc, dr, dO, fC, fO, fT, fH), g)) sz0) := by
  refine va_MetW (cc := cL_at) (maxL := 5) (ret := (some .int)) (by decide) rfl ?_
  intro p e s m args below meth c s₁ B hml hv
  obtain ⟨rfl, hsz, hP, hK, hD0, hT⟩ := hv
  have hx := B.exec
  have hb := B.bytes
  have hrt := B.returns
  have hlocks := B.notSynchronized
  have hts := atoms_spec (ws := wsL_at) B.pre
  have hw : ∀ w ∈ WB, w.before ([.ref (ax 0), .int k, .int i, .ref qo] : List Value).toArray s = true := fun w h => hts w (List.mem_cons_of_mem _ h)
  have hown : s.vm.findClass "ProofBenchLaw" = some m.cls := findClass_of_methodNamed B.named
  have htab := vx_table (x := yL_law) B (hts _ List.mem_cons_self)
  subst hsz
  have hD := hD0.self (sz := s.heap.size)
  generalize hAe : va_A (XOW ax yx qo yo ((cc, tc, fc, hc, dr, dO, fC, fO, fT, fH), g)) s.heap.size = A at hD ⊢
  have hA : ∀ q : Nat, s.heap.size ≤ q → A q := fun q h => by rw [← hAe]; exact Or.inr h
  have hS : va_S A s.heap s.heap [] := va_S.rf
  have hP : va_P (dC, dI) cls2 (XOW ax yx qo yo ((cc, tc, fc, hc, dr, dO, fC, fO, fT, fH), g)) s.heap := hP
  have hl := lv_entry ([.ref (ax 0), .int k, .int i, .ref qo]) (n := 5) (Nat.le_of_ble_eq_true rfl)
  rw [lg_entry_eq]
  generalize (lg_sl ([.ref (ax 0), .int k, .int i, .ref qo]) ++ List.replicate (5 - (lg_sl ([.ref (ax 0), .int k, .int i, .ref qo])).length) Slot.unset).toArray = ls at hl ⊢
  have hl : lv_has ls 5 [(0, .ref (ax 0)), (1, .int k), (2, .int i), (3, .ref qo)] := hl
  refine lv_aload_n hx hb dL_at_0 rfl (lv_at hl 3 rfl) ?_
  refine lv_iconst (v := 0) hx hb dL_at_1 (by decide) ?_
  refine lv_aload_n hx hb dL_at_2 rfl (lv_at hl 0 rfl) ?_
  refine lv_iload_n hx hb dL_at_3 rfl (lv_at hl 1 rfl) ?_
  refine lv_iload_n hx hb dL_at_4 rfl (lv_at hl 2 rfl) ?_
  have hPc := hP.sub (ws' := XW ax yx (cc, tc, fc, hc, dr, dO, fC, fO, fT, fH)) [0, 1, 2, 3, 4] rfl
  have hDc := hD.sub (ws' := XW ax yx (cc, tc, fc, hc, dr, dO, fC, fO, fT, fH)) [0, 1, 2, 3, 4] (by decide) rfl
  have hKc := hK.sub (tys' := tysX yx) [0, 1, 2, 3] rfl
  have hFc := va_free (wc := XW ax yx (cc, tc, fc, hc, dr, dO, fC, fO, fT, fH)) hD hS hA [0, 1, 2, 3, 4] rfl
  refine vx_csi (vx_runV (As := [.int k, .int i]) (rest := [.int 0, .ref qo]) ⟨hx, hb, hml, hown, hw⟩ (m_at l hl9 dC dI ax yx s.heap.size cc tc fc hc dr dO fC fO fT fH k i n hn ecc) (cwV 2 hw (gw_V wb_247 wb_248 wb_249 wb_1 wb_250) rfl rfl rfl (by decide +kernel) ⟨Nat.le_of_ble_eq_true rfl, Nat.le_of_ble_eq_true rfl⟩) ⟨blind_rdXT, va_recv hKc hPc (ci := 0) (q0 := 0) rfl rfl, fun U hU hW => ⟨rfl, by rw [hU], ⟨by rw [hU]; exact hPc, va_K.moved hW.alike hKc⟩, ThU.at hU hW hT⟩⟩ rfl rfl hl.1 rfl (lv_room (Nat.le_of_ble_eq_true rfl)) dL_at_5 ⟨(Nat.le_of_ble_eq_true rfl), (Nat.le_of_ble_eq_true rfl)⟩) hS (fun q hq h => absurd hq (Nat.not_lt.mpr h)) ?_ ?_
  · intro E ce q9 u t H1 ht hvm hpx hBX h1 h2 hS hce hcv hcl
    have hP : va_P (dC, dI) cls2 (XOW ax yx qo yo ((cc, tc, fc, hc, dr, dO, fC, fO, fT, fH), g)) H1 := hP.kept (fun k x hx => h2 x.1 (hP k x hx).lt (Nat.not_le.mpr (hP k x hx).lt))
    subst hBX
    refine vx_catch (own := "ProofBenchLaw") (name := IAE) hown [] ⟨0, 10, 13, 13⟩ [] htab (fun z hz => nomatch hz) (by decide) (by decide) (hw _ wb_92) (va_Nw.use rfl hT.2.2.1) hce hcv hcl ?_
    refine lv_astore (lv' := [(4, .ref q9), (0, .ref (ax 0)), (1, .int k), (2, .int i), (3, .ref qo)]) hx hb dL_at_13 hl (by decide) rfl (fun ls hl => ?_)
    refine lv_iconst (v := 1) hx hb dL_at_15 (by decide) ?_
    refine W.widen (k := 2) (n := 12) (Nat.le_of_ble_eq_true rfl) (Nat.le_of_ble_eq_true rfl) ?_
    exact W.iret (v := 1) hx hb hrt (fun t ht hW => ⟨⟨_, _, rfl, Or.inl ⟨hpx, rfl, rfl⟩, by rw [ht]; exact hP, va_K.moved hW.alike hK, hD⟩, hS.F ht⟩) hS.2.2 dL_at_16
  · intro r1 hq
    refine lv_i2l (v := r1.toInt64) hx hb dL_at_8 rfl ?_
    refine va_last hx hb hK hP hD hS 5 4 rfl rfl in_01 dL_at_9 (fun H locs hP hD hS => ?_)
    have hP : va_P (dC, dI) cls2 (XOW ax yx qo yo ((cc, tc, fc, hc, dr, dO, fC, fO, fT, fH), o_set g r1)) H := hP
    have hD : va_D A (XOW ax yx qo yo ((cc, tc, fc, hc, dr, dO, fC, fO, fT, fH), o_set g r1)) := hD
    refine lv_goto (tgt := 17) hx hb dL_at_10 (by decide) ?_
    refine lv_iconst (v := 0) hx hb dL_at_17 (by decide) ?_
    refine W.widen (k := 2) (n := 12) (Nat.le_of_ble_eq_true rfl) (Nat.le_of_ble_eq_true rfl) ?_
    exact W.iret (v := 0) hx hb hrt (fun t ht hW => ⟨⟨_, _, rfl, Or.inr ⟨hq.1, hq.2.1, rfl, by rw [hq.2.2]⟩, by rw [ht]; exact hP, va_K.moved hW.alike hK, hD⟩, hS.F ht⟩) hS.2.2 dL_at_18
set_option maxHeartbeats 800000 in
set_option maxRecDepth 100000 in
/-- L_count -/
theorem l_count (l : Launch) (hl9 : l.stackTraces = false) (dC : Nat → ClassId) (dI : Nat → Nat → Nat) (ax : Nat → Nat) (yx : Nat → ClassId) (qo : Nat) (yo : ClassId) (sz0 : Nat) (cc tc fc hc dr : Int32) (dO : Int64) (fC : Nat → Int32) (fO : Nat → Int64) (fT fH : Nat → Int32) (g : Nat → Int64) (k : Int32) : Met l yL_count wsL_count (rmN 8 1 6) (va_Pc [.ref (ax 0), .int k, .ref qo] (preXO dC dI ax yx qo yo sz0 ((cc, tc, fc, hc, dr, dO, fC, fO, fT, fH), g))) (va_Qi (fun (r : Int32) (u : XS × (Nat → Int64)) => ((k < 0 ∨ 4 < k) ∧ r = 1 ∧ u = ((cc, tc, fc, hc, dr, dO, fC, fO, fT, fH), g)) ∨ (¬ (k < 0 ∨ 4 < k) ∧ r = 0 ∧ u = ((cc, tc, fc, hc, dr, dO, fC, fO, fT, fH), o_set g (cn_val cc tc fc hc dr k)))) (atXO dC dI (va_A (XOW ax yx qo yo ((cc, tc, fc, hc, dr, dO, fC, fO, fT, fH), g)) sz0) ax yx qo yo) (va_A (XOW ax yx qo yo ((cc, tc, fc, hc, dr, dO, fC, fO, fT, fH), g)) sz0)) 1 6 (va_A (XOW ax yx qo yo ((cc, tc, fc, hc, dr, dO, fC, fO, fT, fH), g)) sz0) := by
  refine va_MetW (cc := cL_count) (maxL := 4) (ret := (some .int)) (by decide) rfl ?_
  intro p e s m args below meth c s₁ B hml hv
  obtain ⟨rfl, hsz, hP, hK, hD0, hT⟩ := hv
  have hx := B.exec
  have hb := B.bytes
  have hrt := B.returns
  have hlocks := B.notSynchronized
  have hts := atoms_spec (ws := wsL_count) B.pre
  have hw : ∀ w ∈ WB, w.before ([.ref (ax 0), .int k, .ref qo] : List Value).toArray s = true := fun w h => hts w (List.mem_cons_of_mem _ h)
  have hown : s.vm.findClass "ProofBenchLaw" = some m.cls := findClass_of_methodNamed B.named
  have htab := vx_table (x := yL_law) B (hts _ List.mem_cons_self)
  subst hsz
  have hD := hD0.self (sz := s.heap.size)
  generalize hAe : va_A (XOW ax yx qo yo ((cc, tc, fc, hc, dr, dO, fC, fO, fT, fH), g)) s.heap.size = A at hD ⊢
  have hA : ∀ q : Nat, s.heap.size ≤ q → A q := fun q h => by rw [← hAe]; exact Or.inr h
  have hS : va_S A s.heap s.heap [] := va_S.rf
  have hP : va_P (dC, dI) cls2 (XOW ax yx qo yo ((cc, tc, fc, hc, dr, dO, fC, fO, fT, fH), g)) s.heap := hP
  have hl := lv_entry ([.ref (ax 0), .int k, .ref qo]) (n := 4) (Nat.le_of_ble_eq_true rfl)
  rw [lg_entry_eq]
  generalize (lg_sl ([.ref (ax 0), .int k, .ref qo]) ++ List.replicate (4 - (lg_sl ([.ref (ax 0), .int k, .ref qo])).length) Slot.unset).toArray = ls at hl ⊢
  have hl : lv_has ls 4 [(0, .ref (ax 0)), (1, .int k), (2, .ref qo)] := hl
  refine lv_aload_n hx hb dL_count_0 rfl (lv_at hl 2 rfl) ?_
  refine lv_iconst (v := 0) hx hb dL_count_1 (by decide) ?_
  refine lv_aload_n hx hb dL_count_2 rfl (lv_at hl 0 rfl) ?_
  refine lv_iload_n hx hb dL_count_3 rfl (lv_at hl 1 rfl) ?_
  have hPc := hP.sub (ws' := XW ax yx (cc, tc, fc, hc, dr, dO, fC, fO, fT, fH)) [0, 1, 2, 3, 4] rfl
  have hDc := hD.sub (ws' := XW ax yx (cc, tc, fc, hc, dr, dO, fC, fO, fT, fH)) [0, 1, 2, 3, 4] (by decide) rfl
  have hKc := hK.sub (tys' := tysX yx) [0, 1, 2, 3] rfl
  have hFc := va_free (wc := XW ax yx (cc, tc, fc, hc, dr, dO, fC, fO, fT, fH)) hD hS hA [0, 1, 2, 3, 4] rfl
  refine vx_csi (vx_runV (As := [.int k]) (rest := [.int 0, .ref qo]) ⟨hx, hb, hml, hown, hw⟩ (m_count l hl9 dC dI ax yx s.heap.size cc tc fc hc dr dO fC fO fT fH k) (cwV 1 hw (gw_V wb_256 wb_257 wb_258 wb_1 wb_259) rfl rfl rfl (by decide +kernel) ⟨Nat.le_of_ble_eq_true rfl, Nat.le_of_ble_eq_true rfl⟩) ⟨blind_rdXT, va_recv hKc hPc (ci := 0) (q0 := 0) rfl rfl, fun U hU hW => ⟨rfl, by rw [hU], ⟨by rw [hU]; exact hPc, va_K.moved hW.alike hKc⟩, ThU.at hU hW hT⟩⟩ rfl rfl hl.1 rfl (lv_room (Nat.le_of_ble_eq_true rfl)) dL_count_4 ⟨(Nat.le_of_ble_eq_true rfl), (Nat.le_of_ble_eq_true rfl)⟩) hS (fun q hq h => absurd hq (Nat.not_lt.mpr h)) ?_ ?_
  · intro E ce q9 u t H1 ht hvm hpx hBX h1 h2 hS hce hcv hcl
    have hP : va_P (dC, dI) cls2 (XOW ax yx qo yo ((cc, tc, fc, hc, dr, dO, fC, fO, fT, fH), g)) H1 := hP.kept (fun k x hx => h2 x.1 (hP k x hx).lt (Nat.not_le.mpr (hP k x hx).lt))
    subst hBX
    refine vx_catch (own := "ProofBenchLaw") (name := IAE) hown [] ⟨0, 9, 12, 13⟩ [] htab (fun z hz => nomatch hz) (by decide) (by decide) (hw _ wb_92) (va_Nw.use rfl hT.2.2.1) hce hcv hcl ?_
    refine lv_astore_n (lv' := [(3, .ref q9), (0, .ref (ax 0)), (1, .int k), (2, .ref qo)]) hx hb dL_count_12 rfl hl (by decide) rfl (fun ls hl => ?_)
    refine lv_iconst (v := 1) hx hb dL_count_13 (by decide) ?_
    refine W.widen (k := 1) (n := 6) (Nat.le_of_ble_eq_true rfl) (Nat.le_of_ble_eq_true rfl) ?_
    exact W.iret (v := 1) hx hb hrt (fun t ht hW => ⟨⟨_, _, rfl, Or.inl ⟨hpx, rfl, rfl⟩, by rw [ht]; exact hP, va_K.moved hW.alike hK, hD⟩, hS.F ht⟩) hS.2.2 dL_count_14
  · intro r1 hq
    refine lv_i2l (v := r1.toInt64) hx hb dL_count_7 rfl ?_
    refine va_last hx hb hK hP hD hS 5 4 rfl rfl in_01 dL_count_8 (fun H locs hP hD hS => ?_)
    have hP : va_P (dC, dI) cls2 (XOW ax yx qo yo ((cc, tc, fc, hc, dr, dO, fC, fO, fT, fH), o_set g r1)) H := hP
    have hD : va_D A (XOW ax yx qo yo ((cc, tc, fc, hc, dr, dO, fC, fO, fT, fH), o_set g r1)) := hD
    refine lv_goto (tgt := 15) hx hb dL_count_9 (by decide) ?_
    refine lv_iconst (v := 0) hx hb dL_count_15 (by decide) ?_
    refine W.widen (k := 1) (n := 6) (Nat.le_of_ble_eq_true rfl) (Nat.le_of_ble_eq_true rfl) ?_
    exact W.iret (v := 0) hx hb hrt (fun t ht hW => ⟨⟨_, _, rfl, Or.inr ⟨hq.1, rfl, by rw [hq.2]⟩, by rw [ht]; exact hP, va_K.moved hW.alike hK, hD⟩, hS.F ht⟩) hS.2.2 dL_count_16
set_option maxHeartbeats 800000 in
set_option maxRecDepth 100000 in
/-- L_give -/
theorem l_give (l : Launch) (hl9 : l.stackTraces = false) (dC : Nat → ClassId) (dI : Nat → Nat → Nat) (ax : Nat → Nat) (yx : Nat → ClassId) (qo : Nat) (yo : ClassId) (sz0 : Nat) (cc tc fc hc dr : Int32) (dO : Int64) (fC : Nat → Int32) (fO : Nat → Int64) (fT fH : Nat → Int32) (g : Nat → Int64)  (n : Nat) (hn : n < 600) (ecc : cc = nI n) : Met l yL_give wsL_give (rmN 8 0 0) (va_Pc [.ref (ax 0), .ref qo] (preXO dC dI ax yx qo yo sz0 ((cc, tc, fc, hc, dr, dO, fC, fO, fT, fH), g))) (va_Qi (fun (r : Int32) (u : XS × (Nat → Int64)) => (r = 0 ∧ u = (kp_S (cc, tc, fc, hc, dr, dO, fC, fO, fT, fH), o_set g cc))) (atXO dC dI (va_A (XOW ax yx qo yo ((cc, tc, fc, hc, dr, dO, fC, fO, fT, fH), g)) sz0) ax yx qo yo) (va_A (XOW ax yx qo yo ((cc, tc, fc, hc, dr, dO, fC, fO, fT, fH), g)) sz0)) 0 0 (va_A (XOW ax yx qo yo ((cc, tc, fc, hc, dr, dO, fC, fO, fT, fH), g)) sz0) := by
  refine va_MetW (cc := cL_give) (maxL := 3) (ret := (some .int)) (by decide) rfl ?_
  intro p e s m args below meth c s₁ B hml hv
  obtain ⟨rfl, hsz, hP, hK, hD0, hT⟩ := hv
  have hx := B.exec
  have hb := B.bytes
  have hrt := B.returns
  have hlocks := B.notSynchronized
  have hts := atoms_spec (ws := wsL_give) B.pre
  have hw : ∀ w ∈ WB, w.before ([.ref (ax 0), .ref qo] : List Value).toArray s = true := fun w h => hts w (List.mem_cons_of_mem _ h)
  have hown : s.vm.findClass "ProofBenchLaw" = some m.cls := findClass_of_methodNamed B.named
  have htab := vx_table (x := yL_law) B (hts _ List.mem_cons_self)
  subst hsz
  have hD := hD0.self (sz := s.heap.size)
  generalize hAe : va_A (XOW ax yx qo yo ((cc, tc, fc, hc, dr, dO, fC, fO, fT, fH), g)) s.heap.size = A at hD ⊢
  have hA : ∀ q : Nat, s.heap.size ≤ q → A q := fun q h => by rw [← hAe]; exact Or.inr h
  have hS : va_S A s.heap s.heap [] := va_S.rf
  have hP : va_P (dC, dI) cls2 (XOW ax yx qo yo ((cc, tc, fc, hc, dr, dO, fC, fO, fT, fH), g)) s.heap := hP
  have hl := lv_entry ([.ref (ax 0), .ref qo]) (n := 3) (Nat.le_of_ble_eq_true rfl)
  rw [lg_entry_eq]
  generalize (lg_sl ([.ref (ax 0), .ref qo]) ++ List.replicate (3 - (lg_sl ([.ref (ax 0), .ref qo])).length) Slot.unset).toArray = ls at hl ⊢
  have hl : lv_has ls 3 [(0, .ref (ax 0)), (1, .ref qo)] := hl
  refine lv_aload_n hx hb dL_give_0 rfl (lv_at hl 1 rfl) ?_
  refine lv_iconst (v := 0) hx hb dL_give_1 (by decide) ?_
  refine lv_aload_n hx hb dL_give_2 rfl (lv_at hl 0 rfl) ?_
  have hPc := hP.sub (ws' := XW ax yx (cc, tc, fc, hc, dr, dO, fC, fO, fT, fH)) [0, 1, 2, 3, 4] rfl
  have hDc := hD.sub (ws' := XW ax yx (cc, tc, fc, hc, dr, dO, fC, fO, fT, fH)) [0, 1, 2, 3, 4] (by decide) rfl
  have hKc := hK.sub (tys' := tysX yx) [0, 1, 2, 3] rfl
  have hFc := va_free (wc := XW ax yx (cc, tc, fc, hc, dr, dO, fC, fO, fT, fH)) hD hS hA [0, 1, 2, 3, 4] rfl
  refine va_calli (va_runV (As := []) (rest := [.int 0, .ref qo]) ⟨hx, hb, hml, hown, hw⟩ (m_give l dC dI ax yx s.heap.size cc tc fc hc dr dO fC fO fT fH n hn ecc) (cwV 0 hw (gw_V wb_196 wb_197 wb_198 wb_1 wb_199) rfl rfl rfl (by decide +kernel) ⟨Nat.le_of_ble_eq_true rfl, Nat.le_of_ble_eq_true rfl⟩) ⟨blind_preX, va_recv hKc hPc (ci := 0) (q0 := 0) rfl rfl, fun U hU hW => ⟨rfl, ⟨by rw [hU], by rw [hU]; exact hPc, va_K.moved hW.alike hKc, hDc.weaken (fun _ _ _ _ => trivial)⟩⟩⟩ rfl rfl hl.1 rfl (lv_room (Nat.le_of_ble_eq_true rfl)) dL_give_3 ⟨(Nat.le_of_ble_eq_true rfl), (Nat.le_of_ble_eq_true rfl)⟩) hS (fun q _ h => hFc q h) hFc ?_
  intro r1 u t H1 locs ht hvm hq hB hz1 hk1 hS
  obtain ⟨er1, rfl⟩ := hq
  obtain ⟨hP1, hK1, hD1⟩ := hB
  rw [ht] at hP1
  obtain ⟨hP, hD⟩ := va_join (wr := [(qo, .inl (yo, 1, .inr (.inl g)))]) (w1 := XW ax yx (kp_S (cc, tc, fc, hc, dr, dO, fC, fO, fT, fH))) hP hD [0, 1, 2, 3, 4] [5] rfl rfl (by decide) (by decide) hk1 hFc hP1 hD1
  have hP : va_P (dC, dI) cls2 (XOW ax yx qo yo ((kp_S (cc, tc, fc, hc, dr, dO, fC, fO, fT, fH)), g)) H1 := hP.sub [1, 2, 3, 4, 5, 0] rfl
  have hD : va_D A (XOW ax yx qo yo ((kp_S (cc, tc, fc, hc, dr, dO, fC, fO, fT, fH)), g)) := hD.sub [1, 2, 3, 4, 5, 0] (by decide) rfl
  generalize H1 = H at hP hS ⊢
  refine lv_i2l (v := r1.toInt64) hx hb dL_give_6 rfl ?_
  refine va_last hx hb hK hP hD hS 5 4 rfl rfl in_01 dL_give_7 (fun H locs hP hD hS => ?_)
  have hP : va_P (dC, dI) cls2 (XOW ax yx qo yo ((kp_S (cc, tc, fc, hc, dr, dO, fC, fO, fT, fH)), o_set g r1)) H := hP
  have hD : va_D A (XOW ax yx qo yo ((kp_S (cc, tc, fc, hc, dr, dO, fC, fO, fT, fH)), o_set g r1)) := hD
  refine lv_goto (tgt := 14) hx hb dL_give_8 (by decide) ?_
  refine lv_iconst (v := 0) hx hb dL_give_14 (by decide) ?_
  refine W.widen (k := 0) (n := 0) (Nat.le_of_ble_eq_true rfl) (Nat.le_of_ble_eq_true rfl) ?_
  exact W.iret (v := 0) hx hb hrt (fun t ht hW => ⟨⟨_, _, rfl, ⟨rfl, by rw [er1]⟩, by rw [ht]; exact hP, va_K.moved hW.alike hK, hD⟩, hS.F ht⟩) hS.2.2 dL_give_15
set_option maxHeartbeats 800000 in
set_option maxRecDepth 100000 in
/-- L_step -/
theorem l_step (l : Launch) (hl9 : l.stackTraces = false) (dC : Nat → ClassId) (dI : Nat → Nat → Nat) (ax : Nat → Nat) (yx : Nat → ClassId) (qo : Nat) (yo : ClassId) (sz0 : Nat) (cc tc fc hc dr : Int32) (dO : Int64) (fC : Nat → Int32) (fO : Nat → Int64) (fT fH : Nat → Int32) (g : Nat → Int64)  (n : Nat) (hn : n < 600) (ecc : cc = nI n) : Met l yL_step wsL_step (rmN 8 0 0) (va_Pc [.ref (ax 0), .ref qo] (preXO dC dI ax yx qo yo sz0 ((cc, tc, fc, hc, dr, dO, fC, fO, fT, fH), g))) (va_Qi (fun (r : Int32) (u : XS × (Nat → Int64)) => ((td_val (tl_rounds fC fT n 17 dr) dr = 17 ∧ r = 0 ∧ u = (kp_S (cc, tc, fc + 1, hc, dr, dO, fC, fO, fT, fH), o_set g cc)) ∨ (¬ td_val (tl_rounds fC fT n 17 dr) dr = 17 ∧ r = 0 ∧ u = ((cc, tc, fc, hc, dr, dO, fC, fO, fT, fH), o_set g (-1))))) (atXO dC dI (va_A (XOW ax yx qo yo ((cc, tc, fc, hc, dr, dO, fC, fO, fT, fH), g)) sz0) ax yx qo yo) (va_A (XOW ax yx qo yo ((cc, tc, fc, hc, dr, dO, fC, fO, fT, fH), g)) sz0)) 0 0 (va_A (XOW ax yx qo yo ((cc, tc, fc, hc, dr, dO, fC, fO, fT, fH), g)) sz0) := by
  refine va_MetW (cc := cL_step) (maxL := 3) (ret := (some .int)) (by decide) rfl ?_
  intro p e s m args below meth c s₁ B hml hv
  obtain ⟨rfl, hsz, hP, hK, hD0, hT⟩ := hv
  have hx := B.exec
  have hb := B.bytes
  have hrt := B.returns
  have hlocks := B.notSynchronized
  have hts := atoms_spec (ws := wsL_step) B.pre
  have hw : ∀ w ∈ WB, w.before ([.ref (ax 0), .ref qo] : List Value).toArray s = true := fun w h => hts w (List.mem_cons_of_mem _ h)
  have hown : s.vm.findClass "ProofBenchLaw" = some m.cls := findClass_of_methodNamed B.named
  have htab := vx_table (x := yL_law) B (hts _ List.mem_cons_self)
  subst hsz
  have hD := hD0.self (sz := s.heap.size)
  generalize hAe : va_A (XOW ax yx qo yo ((cc, tc, fc, hc, dr, dO, fC, fO, fT, fH), g)) s.heap.size = A at hD ⊢
  have hA : ∀ q : Nat, s.heap.size ≤ q → A q := fun q h => by rw [← hAe]; exact Or.inr h
  have hS : va_S A s.heap s.heap [] := va_S.rf
  have hP : va_P (dC, dI) cls2 (XOW ax yx qo yo ((cc, tc, fc, hc, dr, dO, fC, fO, fT, fH), g)) s.heap := hP
  have hl := lv_entry ([.ref (ax 0), .ref qo]) (n := 3) (Nat.le_of_ble_eq_true rfl)
  rw [lg_entry_eq]
  generalize (lg_sl ([.ref (ax 0), .ref qo]) ++ List.replicate (3 - (lg_sl ([.ref (ax 0), .ref qo])).length) Slot.unset).toArray = ls at hl ⊢
  have hl : lv_has ls 3 [(0, .ref (ax 0)), (1, .ref qo)] := hl
  refine lv_aload_n hx hb dL_step_0 rfl (lv_at hl 1 rfl) ?_
  refine lv_iconst (v := 0) hx hb dL_step_1 (by decide) ?_
  refine lv_aload_n hx hb dL_step_2 rfl (lv_at hl 0 rfl) ?_
  have hPc := hP.sub (ws' := XW ax yx (cc, tc, fc, hc, dr, dO, fC, fO, fT, fH)) [0, 1, 2, 3, 4] rfl
  have hDc := hD.sub (ws' := XW ax yx (cc, tc, fc, hc, dr, dO, fC, fO, fT, fH)) [0, 1, 2, 3, 4] (by decide) rfl
  have hKc := hK.sub (tys' := tysX yx) [0, 1, 2, 3] rfl
  have hFc := va_free (wc := XW ax yx (cc, tc, fc, hc, dr, dO, fC, fO, fT, fH)) hD hS hA [0, 1, 2, 3, 4] rfl
  refine va_calli (va_runV (As := []) (rest := [.int 0, .ref qo]) ⟨hx, hb, hml, hown, hw⟩ (m_step l dC dI ax yx s.heap.size cc tc fc hc dr dO fC fO fT fH n hn ecc) (cwV 0 hw (gw_V wb_212 wb_213 wb_214 wb_1 wb_215) rfl rfl rfl (by decide +kernel) ⟨Nat.le_of_ble_eq_true rfl, Nat.le_of_ble_eq_true rfl⟩) ⟨blind_preX, va_recv hKc hPc (ci := 0) (q0 := 0) rfl rfl, fun U hU hW => ⟨rfl, ⟨by rw [hU], by rw [hU]; exact hPc, va_K.moved hW.alike hKc, hDc.weaken (fun _ _ _ _ => trivial)⟩⟩⟩ rfl rfl hl.1 rfl (lv_room (Nat.le_of_ble_eq_true rfl)) dL_step_3 ⟨(Nat.le_of_ble_eq_true rfl), (Nat.le_of_ble_eq_true rfl)⟩) hS (fun q _ h => hFc q h) hFc ?_
  intro r1 u t H1 locs ht hvm hq hB hz1 hk1 hS
  rcases hq with ⟨c1, er1, rfl⟩ | ⟨c1, er1, rfl⟩
  · skip
    obtain ⟨hP1, hK1, hD1⟩ := hB
    rw [ht] at hP1
    obtain ⟨hP, hD⟩ := va_join (wr := [(qo, .inl (yo, 1, .inr (.inl g)))]) (w1 := XW ax yx (kp_S (cc, tc, fc + 1, hc, dr, dO, fC, fO, fT, fH))) hP hD [0, 1, 2, 3, 4] [5] rfl rfl (by decide) (by decide) hk1 hFc hP1 hD1
    have hP : va_P (dC, dI) cls2 (XOW ax yx qo yo ((kp_S (cc, tc, fc + 1, hc, dr, dO, fC, fO, fT, fH)), g)) H1 := hP.sub [1, 2, 3, 4, 5, 0] rfl
    have hD : va_D A (XOW ax yx qo yo ((kp_S (cc, tc, fc + 1, hc, dr, dO, fC, fO, fT, fH)), g)) := hD.sub [1, 2, 3, 4, 5, 0] (by decide) rfl
    generalize H1 = H at hP hS ⊢
    refine lv_i2l (v := r1.toInt64) hx hb dL_step_6 rfl ?_
    refine va_last hx hb hK hP hD hS 5 4 rfl rfl in_01 dL_step_7 (fun H locs hP hD hS => ?_)
    have hP : va_P (dC, dI) cls2 (XOW ax yx qo yo ((kp_S (cc, tc, fc + 1, hc, dr, dO, fC, fO, fT, fH)), o_set g r1)) H := hP
    have hD : va_D A (XOW ax yx qo yo ((kp_S (cc, tc, fc + 1, hc, dr, dO, fC, fO, fT, fH)), o_set g r1)) := hD
    refine lv_goto (tgt := 14) hx hb dL_step_8 (by decide) ?_
    refine lv_iconst (v := 0) hx hb dL_step_14 (by decide) ?_
    refine W.widen (k := 0) (n := 0) (Nat.le_of_ble_eq_true rfl) (Nat.le_of_ble_eq_true rfl) ?_
    exact W.iret (v := 0) hx hb hrt (fun t ht hW => ⟨⟨_, _, rfl, Or.inl ⟨c1, rfl, by rw [er1]⟩, by rw [ht]; exact hP, va_K.moved hW.alike hK, hD⟩, hS.F ht⟩) hS.2.2 dL_step_15
  · skip
    obtain ⟨hP1, hK1, hD1⟩ := hB
    rw [ht] at hP1
    obtain ⟨hP, hD⟩ := va_join (wr := [(qo, .inl (yo, 1, .inr (.inl g)))]) (w1 := XW ax yx (cc, tc, fc, hc, dr, dO, fC, fO, fT, fH)) hP hD [0, 1, 2, 3, 4] [5] rfl rfl (by decide) (by decide) hk1 hFc hP1 hD1
    have hP : va_P (dC, dI) cls2 (XOW ax yx qo yo ((cc, tc, fc, hc, dr, dO, fC, fO, fT, fH), g)) H1 := hP.sub [1, 2, 3, 4, 5, 0] rfl
    have hD : va_D A (XOW ax yx qo yo ((cc, tc, fc, hc, dr, dO, fC, fO, fT, fH), g)) := hD.sub [1, 2, 3, 4, 5, 0] (by decide) rfl
    generalize H1 = H at hP hS ⊢
    refine lv_i2l (v := r1.toInt64) hx hb dL_step_6 rfl ?_
    refine va_last hx hb hK hP hD hS 5 4 rfl rfl in_01 dL_step_7 (fun H locs hP hD hS => ?_)
    have hP : va_P (dC, dI) cls2 (XOW ax yx qo yo ((cc, tc, fc, hc, dr, dO, fC, fO, fT, fH), o_set g r1)) H := hP
    have hD : va_D A (XOW ax yx qo yo ((cc, tc, fc, hc, dr, dO, fC, fO, fT, fH), o_set g r1)) := hD
    refine lv_goto (tgt := 14) hx hb dL_step_8 (by decide) ?_
    refine lv_iconst (v := 0) hx hb dL_step_14 (by decide) ?_
    refine W.widen (k := 0) (n := 0) (Nat.le_of_ble_eq_true rfl) (Nat.le_of_ble_eq_true rfl) ?_
    exact W.iret (v := 0) hx hb hrt (fun t ht hW => ⟨⟨_, _, rfl, Or.inr ⟨c1, rfl, by rw [er1]⟩, by rw [ht]; exact hP, va_K.moved hW.alike hK, hD⟩, hS.F ht⟩) hS.2.2 dL_step_15
set_option maxHeartbeats 800000 in
set_option maxRecDepth 100000 in
/-- L_along -/
theorem l_along (l : Launch) (hl9 : l.stackTraces = false) (dC : Nat → ClassId) (dI : Nat → Nat → Nat) (ax : Nat → Nat) (yx : Nat → ClassId) (qo : Nat) (yo : ClassId) (sz0 : Nat) (cc tc fc hc dr : Int32) (dO : Int64) (fC : Nat → Int32) (fO : Nat → Int64) (fT fH : Nat → Int32) (g : Nat → Int64)  (n : Nat) (hn : n < 600) (ecc : cc = nI n) (q : Nat) (hq40 : q ≤ 40) (ehc : hc = nI q) : Met l yL_along wsL_along (rmN 8 0 0) (va_Pc [.ref (ax 0), .ref qo] (preXO dC dI ax yx qo yo sz0 ((cc, tc, fc, hc, dr, dO, fC, fO, fT, fH), g))) (va_Qi (fun (r : Int32) (u : XS × (Nat → Int64)) => ((bh_scan cc fC fT fH q 0 dr = -1 ∧ r = 0 ∧ u = (kp_S (cc, tc, fc + 1, 0, dr, dO, fC, fO, fT, fH), o_set g cc)) ∨ (¬ bh_scan cc fC fT fH q 0 dr = -1 ∧ r = 0 ∧ u = ((cc, tc, fc, hc, dr, dO, fC, fO, fT, fH), o_set g (-1 - bh_scan cc fC fT fH q 0 dr))))) (atXO dC dI (va_A (XOW ax yx qo yo ((cc, tc, fc, hc, dr, dO, fC, fO, fT, fH), g)) sz0) ax yx qo yo) (va_A (XOW ax yx qo yo ((cc, tc, fc, hc, dr, dO, fC, fO, fT, fH), g)) sz0)) 0 0 (va_A (XOW ax yx qo yo ((cc, tc, fc, hc, dr, dO, fC, fO, fT, fH), g)) sz0) := by
  refine va_MetW (cc := cL_along) (maxL := 3) (ret := (some .int)) (by decide) rfl ?_
  intro p e s m args below meth c s₁ B hml hv
  obtain ⟨rfl, hsz, hP, hK, hD0, hT⟩ := hv
  have hx := B.exec
  have hb := B.bytes
  have hrt := B.returns
  have hlocks := B.notSynchronized
  have hts := atoms_spec (ws := wsL_along) B.pre
  have hw : ∀ w ∈ WB, w.before ([.ref (ax 0), .ref qo] : List Value).toArray s = true := fun w h => hts w (List.mem_cons_of_mem _ h)
  have hown : s.vm.findClass "ProofBenchLaw" = some m.cls := findClass_of_methodNamed B.named
  have htab := vx_table (x := yL_law) B (hts _ List.mem_cons_self)
  subst hsz
  have hD := hD0.self (sz := s.heap.size)
  generalize hAe : va_A (XOW ax yx qo yo ((cc, tc, fc, hc, dr, dO, fC, fO, fT, fH), g)) s.heap.size = A at hD ⊢
  have hA : ∀ q : Nat, s.heap.size ≤ q → A q := fun q h => by rw [← hAe]; exact Or.inr h
  have hS : va_S A s.heap s.heap [] := va_S.rf
  have hP : va_P (dC, dI) cls2 (XOW ax yx qo yo ((cc, tc, fc, hc, dr, dO, fC, fO, fT, fH), g)) s.heap := hP
  have hl := lv_entry ([.ref (ax 0), .ref qo]) (n := 3) (Nat.le_of_ble_eq_true rfl)
  rw [lg_entry_eq]
  generalize (lg_sl ([.ref (ax 0), .ref qo]) ++ List.replicate (3 - (lg_sl ([.ref (ax 0), .ref qo])).length) Slot.unset).toArray = ls at hl ⊢
  have hl : lv_has ls 3 [(0, .ref (ax 0)), (1, .ref qo)] := hl
  refine lv_aload_n hx hb dL_along_0 rfl (lv_at hl 1 rfl) ?_
  refine lv_iconst (v := 0) hx hb dL_along_1 (by decide) ?_
  refine lv_aload_n hx hb dL_along_2 rfl (lv_at hl 0 rfl) ?_
  have hPc := hP.sub (ws' := XW ax yx (cc, tc, fc, hc, dr, dO, fC, fO, fT, fH)) [0, 1, 2, 3, 4] rfl
  have hDc := hD.sub (ws' := XW ax yx (cc, tc, fc, hc, dr, dO, fC, fO, fT, fH)) [0, 1, 2, 3, 4] (by decide) rfl
  have hKc := hK.sub (tys' := tysX yx) [0, 1, 2, 3] rfl
  have hFc := va_free (wc := XW ax yx (cc, tc, fc, hc, dr, dO, fC, fO, fT, fH)) hD hS hA [0, 1, 2, 3, 4] rfl
  refine va_calli (va_runV (As := []) (rest := [.int 0, .ref qo]) ⟨hx, hb, hml, hown, hw⟩ (m_along l dC dI ax yx s.heap.size cc tc fc hc dr dO fC fO fT fH n hn ecc q hq40 ehc) (cwV 0 hw (gw_V wb_220 wb_221 wb_222 wb_1 wb_223) rfl rfl rfl (by decide +kernel) ⟨Nat.le_of_ble_eq_true rfl, Nat.le_of_ble_eq_true rfl⟩) ⟨blind_preX, va_recv hKc hPc (ci := 0) (q0 := 0) rfl rfl, fun U hU hW => ⟨rfl, ⟨by rw [hU], by rw [hU]; exact hPc, va_K.moved hW.alike hKc, hDc.weaken (fun _ _ _ _ => trivial)⟩⟩⟩ rfl rfl hl.1 rfl (lv_room (Nat.le_of_ble_eq_true rfl)) dL_along_3 ⟨(Nat.le_of_ble_eq_true rfl), (Nat.le_of_ble_eq_true rfl)⟩) hS (fun q _ h => hFc q h) hFc ?_
  intro r1 u t H1 locs ht hvm hq hB hz1 hk1 hS
  rcases hq with ⟨c1, er1, rfl⟩ | ⟨c1, er1, rfl⟩
  · skip
    obtain ⟨hP1, hK1, hD1⟩ := hB
    rw [ht] at hP1
    obtain ⟨hP, hD⟩ := va_join (wr := [(qo, .inl (yo, 1, .inr (.inl g)))]) (w1 := XW ax yx (kp_S (cc, tc, fc + 1, 0, dr, dO, fC, fO, fT, fH))) hP hD [0, 1, 2, 3, 4] [5] rfl rfl (by decide) (by decide) hk1 hFc hP1 hD1
    have hP : va_P (dC, dI) cls2 (XOW ax yx qo yo ((kp_S (cc, tc, fc + 1, 0, dr, dO, fC, fO, fT, fH)), g)) H1 := hP.sub [1, 2, 3, 4, 5, 0] rfl
    have hD : va_D A (XOW ax yx qo yo ((kp_S (cc, tc, fc + 1, 0, dr, dO, fC, fO, fT, fH)), g)) := hD.sub [1, 2, 3, 4, 5, 0] (by decide) rfl
    generalize H1 = H at hP hS ⊢
    refine lv_i2l (v := r1.toInt64) hx hb dL_along_6 rfl ?_
    refine va_last hx hb hK hP hD hS 5 4 rfl rfl in_01 dL_along_7 (fun H locs hP hD hS => ?_)
    have hP : va_P (dC, dI) cls2 (XOW ax yx qo yo ((kp_S (cc, tc, fc + 1, 0, dr, dO, fC, fO, fT, fH)), o_set g r1)) H := hP
    have hD : va_D A (XOW ax yx qo yo ((kp_S (cc, tc, fc + 1, 0, dr, dO, fC, fO, fT, fH)), o_set g r1)) := hD
    refine lv_goto (tgt := 14) hx hb dL_along_8 (by decide) ?_
    refine lv_iconst (v := 0) hx hb dL_along_14 (by decide) ?_
    refine W.widen (k := 0) (n := 0) (Nat.le_of_ble_eq_true rfl) (Nat.le_of_ble_eq_true rfl) ?_
    exact W.iret (v := 0) hx hb hrt (fun t ht hW => ⟨⟨_, _, rfl, Or.inl ⟨c1, rfl, by rw [er1]⟩, by rw [ht]; exact hP, va_K.moved hW.alike hK, hD⟩, hS.F ht⟩) hS.2.2 dL_along_15
  · skip
    obtain ⟨hP1, hK1, hD1⟩ := hB
    rw [ht] at hP1
    obtain ⟨hP, hD⟩ := va_join (wr := [(qo, .inl (yo, 1, .inr (.inl g)))]) (w1 := XW ax yx (cc, tc, fc, hc, dr, dO, fC, fO, fT, fH)) hP hD [0, 1, 2, 3, 4] [5] rfl rfl (by decide) (by decide) hk1 hFc hP1 hD1
    have hP : va_P (dC, dI) cls2 (XOW ax yx qo yo ((cc, tc, fc, hc, dr, dO, fC, fO, fT, fH), g)) H1 := hP.sub [1, 2, 3, 4, 5, 0] rfl
    have hD : va_D A (XOW ax yx qo yo ((cc, tc, fc, hc, dr, dO, fC, fO, fT, fH), g)) := hD.sub [1, 2, 3, 4, 5, 0] (by decide) rfl
    generalize H1 = H at hP hS ⊢
    refine lv_i2l (v := r1.toInt64) hx hb dL_along_6 rfl ?_
    refine va_last hx hb hK hP hD hS 5 4 rfl rfl in_01 dL_along_7 (fun H locs hP hD hS => ?_)
    have hP : va_P (dC, dI) cls2 (XOW ax yx qo yo ((cc, tc, fc, hc, dr, dO, fC, fO, fT, fH), o_set g r1)) H := hP
    have hD : va_D A (XOW ax yx qo yo ((cc, tc, fc, hc, dr, dO, fC, fO, fT, fH), o_set g r1)) := hD
    refine lv_goto (tgt := 14) hx hb dL_along_8 (by decide) ?_
    refine lv_iconst (v := 0) hx hb dL_along_14 (by decide) ?_
    refine W.widen (k := 0) (n := 0) (Nat.le_of_ble_eq_true rfl) (Nat.le_of_ble_eq_true rfl) ?_
    exact W.iret (v := 0) hx hb hrt (fun t ht hW => ⟨⟨_, _, rfl, Or.inr ⟨c1, rfl, by rw [er1]⟩, by rw [ht]; exact hP, va_K.moved hW.alike hK, hD⟩, hS.F ht⟩) hS.2.2 dL_along_15
