/-! the reference's loops: literal, add, truths of a draft, give, accept, setting out, what a clause says -/
/-- -16 .. 16 -/
def rng (k : Int32) : Prop := ¬ k < -16 ∧ ¬ 16 < k
theorem rng33 {k : Int32} (h : rng k) : ∃ j : Nat, j < 33 ∧ k = nI j - 16 := lit33 h.1 h.2
theorem rng_neg {k : Int32} (h : rng k) : rng (-k) := by
  obtain ⟨j, hj, e⟩ := rng33 h
  rw [e]
  exact (by decide +kernel : ∀ j, j < 33 → ¬ -(nI j - 16) < -16 ∧ ¬ 16 < -(nI j - 16)) j hj
theorem rng_nn {k : Int32} (h : rng k) (h2 : ¬ 0 < k) : ¬ -k < 0 := by
  obtain ⟨j, hj, e⟩ := rng33 h
  rw [e] at h2 ⊢
  exact (by decide +kernel : ∀ j, j < 33 → ¬ 0 < nI j - 16 → ¬ -(nI j - 16) < 0) j hj h2
def li_0 (k : Int32) : Int32 := if k = 0 ∨ k < -16 ∨ 16 < k then 0 else 1
/-- literal(k): is its variable not in the draft, places i .. i + a - 1 -/
def li_it (fD : Nat → Int32) (k : Int32) : Nat → Nat → Int32 → Int32
  | 0, _, r => r
  | a + 1, i, r => if r = 0 then 0 else li_it fD k a (i + 1) (if fD i = k ∨ fD i = -k then 0 else 1)
def ad_it (fD : Nat → Int32) (n : Nat) : Nat → Nat → (Nat → Int32) → Nat → Int32
  | 0, _, f => f
  | a + 1, i, f => ad_it fD n a (i + 1) (upd f (16 * n + i) (fD i))
def ti_it (fD : Nat → Int32) (fW : Nat → Int64) (c : Int32) : Nat → Nat → Int64 → Int64
  | 0, _, f => f
  | a + 1, i, f => ti_it fD fW c a (i + 1) (f ||| (if 0 < fD i then tr_v fW (fD i) c else tr_v fW (-(fD i)) c ^^^ (-1)))
def gm_it (ti : Nat → Int64) : Nat → Nat → (Nat → Int64) → Nat → Int64
  | 0, _, f => f
  | a + 1, i, f => gm_it ti a (i + 1) (vp_updL f i (f i &&& (if f i = 0 then 0 else ti i)))
def ac_it (ti fM : Nat → Int64) : Nat → Nat → Int32 → Int32
  | 0, _, f => f
  | a + 1, i, f => if f = 0 then 0 else ac_it ti fM a (i + 1) (if fM i = 0 ∨ fM i &&& (ti i ^^^ (-1)) = 0 then 1 else 0)
def zv_it : Nat → Nat → (Nat → Int32) → Nat → Int32
  | 0, _, f => f
  | a + 1, i, f => zv_it a (i + 1) (upd f i 0)
def so_it (fD : Nat → Int32) : Nat → Nat → (Nat → Int32) → Nat → Int32
  | 0, _, f => f
  | a + 1, i, f => so_it fD a (i + 1) (tell_v f (-(fD i)))
def sy_it (fL fV : Nat → Int32) : Nat → Nat → Int32 → Int32 → Int32
  | 0, _, op, la => if op = 0 then 17 else if op = 1 then la else 0
  | a + 1, i, op, la => if of_v fV (fL i) = 1 then 0 else sy_it fL fV a (i + 1) (op + (if of_v fV (fL i) = 0 then 1 else 0)) (if of_v fV (fL i) = 0 then fL i else la)
/-- the reference, the draft made a clause -/
abbrev ad_S (n d : Nat) (u : MS) : MS := match u with
  | (co, ct, th, fo, sg, sz, hc, fL, fN, fD, fH, fV, fM, fW) => (co, ct + 1, th + 1, fo, sg, 0, hc, ad_it fD n d 0 fL, upd fN n sz, fD, fH, fV, fM, fW)
set_option maxHeartbeats 4000000 in
set_option maxRecDepth 100000 in
/-- literal -/
theorem n_literal (l : Launch) (dC : Nat → ClassId) (dI : Nat → Nat → Nat) (am : Nat → Nat) (ym : Nat → ClassId) (sz0 : Nat) (co ct th fo sg sz hc : Int32) (fL fN fD fH fV : Nat → Int32) (fM fW : Nat → Int64) (k : Int32) (d : Nat) (hd : d ≤ 16) (esz : sz = nI d) (hd16 : li_it fD k d 0 (li_0 k) ≠ 0 → d < 16) : Met l yX1_literal wsX1_literal (rmN 0 0 0) (va_Pc [.ref (am 0), .int k] (preM dC dI am ym sz0 (co, ct, th, fo, sg, sz, hc, fL, fN, fD, fH, fV, fM, fW))) (va_Qi (fun (r : Int32) (u : MS) => (li_it fD k d 0 (li_0 k) = 0 ∧ r = 0 ∧ u = (1, ct, th, fo, sg, sz, hc, fL, fN, fD, fH, fV, fM, fW)) ∨ (li_it fD k d 0 (li_0 k) ≠ 0 ∧ r = sz + 1 ∧ u = (0, ct, th, fo, sg, sz + 1, hc, fL, fN, upd fD sz.toNatClampNeg k, fH, fV, fM, fW))) (atM dC dI (va_A (MW am ym (co, ct, th, fo, sg, sz, hc, fL, fN, fD, fH, fV, fM, fW)) sz0) am ym) (va_A (MW am ym (co, ct, th, fo, sg, sz, hc, fL, fN, fD, fH, fV, fM, fW)) sz0)) 0 0 (va_A (MW am ym (co, ct, th, fo, sg, sz, hc, fL, fN, fD, fH, fV, fM, fW)) sz0) := by
  refine Met.ofW (cc := cX1_literal) (maxL := 4) (ret := (some .int)) (by decide) rfl ?_
  intro p e s m args below meth c s₁ B hml hv
  obtain ⟨rfl, hsz, hP, hK, hD0⟩ := hv
  have hx := B.exec
  have hb := B.bytes
  have hrt := B.returns
  have hlocks := B.notSynchronized
  have hts := atoms_spec (ws := wsX1_literal) B.pre
  have hw : ∀ w ∈ WB, w.before ([.ref (am 0), .int k] : List Value).toArray s = true := fun w h => hts w (List.mem_cons_of_mem _ h)
  have hown : s.vm.findClass "ProofBenchModel" = some m.cls := findClass_of_methodNamed B.named
  subst hsz
  have hD := hD0.self (sz := s.heap.size)
  generalize hAe : va_A (MW am ym (co, ct, th, fo, sg, sz, hc, fL, fN, fD, fH, fV, fM, fW)) s.heap.size = A at hD ⊢
  have hA : ∀ q : Nat, s.heap.size ≤ q → A q := fun q h => by rw [← hAe]; exact Or.inr h
  have hS : va_S A s.heap s.heap [] := va_S.rf
  have hP : va_P (dC, dI) cls2 (MW am ym (co, ct, th, fo, sg, sz, hc, fL, fN, fD, fH, fV, fM, fW)) s.heap := hP
  have hl := lv_entry ([.ref (am 0), .int k]) (n := 4) (Nat.le_of_ble_eq_true rfl)
  rw [lg_entry_eq]
  generalize (lg_sl ([.ref (am 0), .int k]) ++ List.replicate (4 - (lg_sl ([.ref (am 0), .int k])).length) Slot.unset).toArray = ls at hl ⊢
  have hl : lv_has ls 4 [(0, .ref (am 0)), (1, .int k)] := hl
  have fin : ∀ rt : Int32, li_it fD k d 0 (li_0 k) = rt → ∀ ls, lv_has ls 4 [(2, .int rt), (0, .ref (am 0)), (1, .int k)] → W p l e (headSpec wsX1_literal (rmN 0 0 0)).room s m ([.ref (am 0), .int k] : List Value).toArray below meth c s.heap [] 0 0 (MQ below (va_Qi (fun (r : Int32) (u : MS) => (li_it fD k d 0 (li_0 k) = 0 ∧ r = 0 ∧ u = (1, ct, th, fo, sg, sz, hc, fL, fN, fD, fH, fV, fM, fW)) ∨ (li_it fD k d 0 (li_0 k) ≠ 0 ∧ r = sz + 1 ∧ u = (0, ct, th, fo, sg, sz + 1, hc, fL, fN, upd fD sz.toNatClampNeg k, fH, fV, fM, fW))) (atM dC dI A am ym) A) ([.ref (am 0), .int k] : List Value).toArray s 0 0 A) (F0 m 69 ls []) := by
    intro rt hq ls hl
    refine lv_aload_n hx hb dX1_literal_69 rfl (lv_at hl 1 rfl) ?_
    refine lv_iload_n hx hb dX1_literal_70 rfl (lv_at hl 0 rfl) ?_
    refine lv_if_eq (tgt := 78) hx hb dX1_literal_71 (by decide) (fun c1 => ?_) (fun c1 => ?_)
    · skip
      refine lv_iconst (v := 1) hx hb dX1_literal_78 (by decide) ?_
      refine va_put (D := (dC, dI)) (ci := 1) (v := .int 1) (ty := .int) (C := RX1) (T := TX1) (N := 14) hx hb hw inX1 tyX1 tyX1_ok nmX1 hown hK hP hD hS 0 rfl rfl 0 (by decide) (hw _ wb_268) (fun _ h9 => h9) rfl (by decide +kernel) rfl rfl (Nat.le_of_ble_eq_true rfl) dX1_literal_79 (fun H locs hP hD hS => ?_)
      have hP : va_P (dC, dI) cls2 (MW am ym (1, ct, th, fo, sg, sz, hc, fL, fN, fD, fH, fV, fM, fW)) H := hP
      have hD : va_D A (MW am ym (1, ct, th, fo, sg, sz, hc, fL, fN, fD, fH, fV, fM, fW)) := hD
      refine lv_aload_n hx hb dX1_literal_82 rfl (lv_at hl 1 rfl) ?_
      refine va_get (D := (dC, dI)) (ci := 1) (v := .int 1) (C := RX1) (T := TX1) (N := 14) hx hb hw inX1 hown hK hP 0 rfl rfl 0 (by decide) (hw _ wb_268) (fun _ h9 => h9) rfl dX1_literal_83 ?_
      refine lv_if_le (tgt := 91) hx hb dX1_literal_86 (by decide) (fun c9 => ?_) (fun c9 => ?_)
      · skip
        exact absurd c9 (by decide)
      · skip
        refine lv_iconst (v := 0) hx hb dX1_literal_89 (by decide) ?_
        exact W.iret (v := 0) hx hb hrt (fun t ht hW => ⟨⟨_, _, rfl, Or.inl ⟨by rw [hq]; exact c1, rfl, rfl⟩, by rw [ht]; exact hP, va_K.moved hW.alike hK, hD⟩, hS.F ht⟩) hS.2.2 dX1_literal_90
    · skip
      refine lv_iconst (v := 0) hx hb dX1_literal_74 (by decide) ?_
      refine lv_goto (tgt := 79) hx hb dX1_literal_75 (by decide) ?_
      refine va_put (D := (dC, dI)) (ci := 1) (v := .int 0) (ty := .int) (C := RX1) (T := TX1) (N := 14) hx hb hw inX1 tyX1 tyX1_ok nmX1 hown hK hP hD hS 0 rfl rfl 0 (by decide) (hw _ wb_268) (fun _ h9 => h9) rfl (by decide +kernel) rfl rfl (Nat.le_of_ble_eq_true rfl) dX1_literal_79 (fun H locs hP hD hS => ?_)
      have hP : va_P (dC, dI) cls2 (MW am ym (0, ct, th, fo, sg, sz, hc, fL, fN, fD, fH, fV, fM, fW)) H := hP
      have hD : va_D A (MW am ym (0, ct, th, fo, sg, sz, hc, fL, fN, fD, fH, fV, fM, fW)) := hD
      refine lv_aload_n hx hb dX1_literal_82 rfl (lv_at hl 1 rfl) ?_
      refine va_get (D := (dC, dI)) (ci := 1) (v := .int 0) (C := RX1) (T := TX1) (N := 14) hx hb hw inX1 hown hK hP 0 rfl rfl 0 (by decide) (hw _ wb_268) (fun _ h9 => h9) rfl dX1_literal_83 ?_
      refine lv_if_le (tgt := 91) hx hb dX1_literal_86 (by decide) (fun c9 => ?_) (fun c9 => ?_)
      · skip
        have d16 : d < 16 := hd16 (by rw [hq]; exact c1)
        refine lv_aload_n hx hb dX1_literal_91 rfl (lv_at hl 1 rfl) ?_
        refine va_get (D := (dC, dI)) (ci := 1) (v := .ref (am 3)) (C := RX1) (T := TX1) (N := 14) hx hb hw inX1 hown hK hP 0 rfl rfl 8 (by decide) (hw _ wb_276) (fun _ h9 => h9) rfl dX1_literal_92 ?_
        refine lv_aload_n hx hb dX1_literal_95 rfl (lv_at hl 1 rfl) ?_
        refine va_get (D := (dC, dI)) (ci := 1) (v := .int sz) (C := RX1) (T := TX1) (N := 14) hx hb hw inX1 hown hK hP 0 rfl rfl 7 (by decide) (hw _ wb_275) (fun _ h9 => h9) rfl dX1_literal_96 ?_
        refine lv_iload_n hx hb dX1_literal_99 rfl (lv_at hl 2 rfl) ?_
        refine va_iast hx hb hK hP hD hS 3 2 rfl rfl (by rw [esz]; exact vp_in_nI d16 (by decide)) dX1_literal_100 (fun H locs hP hD hS => ?_)
        have hP : va_P (dC, dI) cls2 (MW am ym (0, ct, th, fo, sg, sz, hc, fL, fN, upd fD sz.toNatClampNeg k, fH, fV, fM, fW)) H := hP
        have hD : va_D A (MW am ym (0, ct, th, fo, sg, sz, hc, fL, fN, upd fD sz.toNatClampNeg k, fH, fV, fM, fW)) := hD
        refine lv_aload_n hx hb dX1_literal_101 rfl (lv_at hl 1 rfl) ?_
        refine lv_dup hx hb dX1_literal_102 rfl ?_
        refine va_get (D := (dC, dI)) (ci := 1) (v := .int sz) (C := RX1) (T := TX1) (N := 14) hx hb hw inX1 hown hK hP 0 rfl rfl 7 (by decide) (hw _ wb_275) (fun _ h9 => h9) rfl dX1_literal_103 ?_
        refine lv_iconst (v := 1) hx hb dX1_literal_106 (by decide) ?_
        refine lv_iadd hx hb dX1_literal_107 ?_
        refine va_put (D := (dC, dI)) (ci := 1) (v := .int (sz + 1)) (ty := .int) (C := RX1) (T := TX1) (N := 14) hx hb hw inX1 tyX1 tyX1_ok nmX1 hown hK hP hD hS 0 rfl rfl 7 (by decide) (hw _ wb_275) (fun _ h9 => h9) rfl (by decide +kernel) rfl rfl (Nat.le_of_ble_eq_true rfl) dX1_literal_108 (fun H locs hP hD hS => ?_)
        have hP : va_P (dC, dI) cls2 (MW am ym (0, ct, th, fo, sg, sz + 1, hc, fL, fN, upd fD sz.toNatClampNeg k, fH, fV, fM, fW)) H := hP
        have hD : va_D A (MW am ym (0, ct, th, fo, sg, sz + 1, hc, fL, fN, upd fD sz.toNatClampNeg k, fH, fV, fM, fW)) := hD
        refine lv_aload_n hx hb dX1_literal_111 rfl (lv_at hl 1 rfl) ?_
        refine va_get (D := (dC, dI)) (ci := 1) (v := .int (sz + 1)) (C := RX1) (T := TX1) (N := 14) hx hb hw inX1 hown hK hP 0 rfl rfl 7 (by decide) (hw _ wb_275) (fun _ h9 => h9) rfl dX1_literal_112 ?_
        exact W.iret (v := sz + 1) hx hb hrt (fun t ht hW => ⟨⟨_, _, rfl, Or.inr ⟨by rw [hq]; exact c1, rfl, rfl⟩, by rw [ht]; exact hP, va_K.moved hW.alike hK, hD⟩, hS.F ht⟩) hS.2.2 dX1_literal_115
      · skip
        exact absurd (by decide) c9
  have loop : ∀ (a i : Nat) (rt : Int32), i + a = d → li_it fD k d 0 (li_0 k) = li_it fD k a i rt → ∀ ls, lv_has ls 4 [(3, .int (nI i)), (2, .int rt), (0, .ref (am 0)), (1, .int k)] → W p l e (headSpec wsX1_literal (rmN 0 0 0)).room s m ([.ref (am 0), .int k] : List Value).toArray below meth c s.heap [] 0 0 (MQ below (va_Qi (fun (r : Int32) (u : MS) => (li_it fD k d 0 (li_0 k) = 0 ∧ r = 0 ∧ u = (1, ct, th, fo, sg, sz, hc, fL, fN, fD, fH, fV, fM, fW)) ∨ (li_it fD k d 0 (li_0 k) ≠ 0 ∧ r = sz + 1 ∧ u = (0, ct, th, fo, sg, sz + 1, hc, fL, fN, upd fD sz.toNatClampNeg k, fH, fV, fM, fW))) (atM dC dI A am ym) A) ([.ref (am 0), .int k] : List Value).toArray s 0 0 A) (F0 m 24 ls []) := by
    intro a
    induction a with
    | zero =>
      intro i rt hk hq ls hl
      have e0 : i = d := by omega
      refine lv_iload_n hx hb dX1_literal_24 rfl (lv_at hl 0 rfl) ?_
      refine lv_aload_n hx hb dX1_literal_25 rfl (lv_at hl 2 rfl) ?_
      refine va_get (D := (dC, dI)) (ci := 1) (v := .int sz) (C := RX1) (T := TX1) (N := 14) hx hb hw inX1 hown hK hP 0 rfl rfl 7 (by decide) (hw _ wb_275) (fun _ h9 => h9) rfl dX1_literal_26 ?_
      refine lv_icmp_ge (tgt := 69) hx hb dX1_literal_29 (by decide) (fun c1 => ?_) (fun c1 => ?_)
      · skip
        exact fin rt hq ls (lv_sub hl [1, 2, 3] rfl)
      · skip
        exact absurd (by rw [esz, e0]; exact Int32.le_refl _) c1
    | succ a ih =>
      intro i rt hk hq ls hl
      have ci : (nI i).toNatClampNeg = i := nI_clamp (by omega)
      have hin : vp_in (nI i) 16 := vp_in_nI (by omega) (by decide)
      refine lv_iload_n hx hb dX1_literal_24 rfl (lv_at hl 0 rfl) ?_
      refine lv_aload_n hx hb dX1_literal_25 rfl (lv_at hl 2 rfl) ?_
      refine va_get (D := (dC, dI)) (ci := 1) (v := .int sz) (C := RX1) (T := TX1) (N := 14) hx hb hw inX1 hown hK hP 0 rfl rfl 7 (by decide) (hw _ wb_275) (fun _ h9 => h9) rfl dX1_literal_26 ?_
      refine lv_icmp_ge (tgt := 69) hx hb dX1_literal_29 (by decide) (fun c1 => ?_) (fun c1 => ?_)
      · skip
        exact absurd (by rw [esz] at c1; exact c1) (nI_ge (by omega) (by omega))
      · skip
        refine lv_iload_n hx hb dX1_literal_32 rfl (lv_at hl 1 rfl) ?_
        refine lv_if_eq (tgt := 69) hx hb dX1_literal_33 (by decide) (fun c2 => ?_) (fun c2 => ?_)
        · skip
          exact fin rt (by rw [hq, c2]; rfl) ls (lv_sub hl [1, 2, 3] rfl)
        · skip
          refine lv_aload_n hx hb dX1_literal_36 rfl (lv_at hl 2 rfl) ?_
          refine va_get (D := (dC, dI)) (ci := 1) (v := .ref (am 3)) (C := RX1) (T := TX1) (N := 14) hx hb hw inX1 hown hK hP 0 rfl rfl 8 (by decide) (hw _ wb_276) (fun _ h9 => h9) rfl dX1_literal_37 ?_
          refine lv_iload_n hx hb dX1_literal_40 rfl (lv_at hl 0 rfl) ?_
          refine va_iald hx hb hK hP 3 2 rfl rfl hin dX1_literal_41 ?_
          rw [ci]
          refine lv_iload_n hx hb dX1_literal_42 rfl (lv_at hl 3 rfl) ?_
          refine lv_icmp_eq (tgt := 61) hx hb dX1_literal_43 (by decide) (fun c3 => ?_) (fun c3 => ?_)
          · skip
            have es : li_it fD k (a + 1) i rt = li_it fD k a (i + 1) 0 := (if_neg c2).trans (by rw [if_pos (Or.inl c3)])
            refine lv_iconst (v := 0) hx hb dX1_literal_61 (by decide) ?_
            refine lv_istore_n (lv' := [(2, .int 0), (3, .int (nI i)), (0, .ref (am 0)), (1, .int k)]) hx hb dX1_literal_62 rfl hl (by decide) rfl (fun ls hl => ?_)
            refine lv_iinc (v := (nI i) + 1) (lv' := [(3, .int ((nI i) + 1)), (2, .int 0), (0, .ref (am 0)), (1, .int k)]) hx hb dX1_literal_63 hl (k := 1) rfl rfl (by decide) rfl (fun ls hl => ?_)
            refine lv_goto (tgt := 24) hx hb dX1_literal_66 (by decide) ?_
            rw [nI_1] at hl
            exact ih (i + 1) 0 (by omega) (hq.trans es) ls hl
          · skip
            refine lv_aload_n hx hb dX1_literal_46 rfl (lv_at hl 2 rfl) ?_
            refine va_get (D := (dC, dI)) (ci := 1) (v := .ref (am 3)) (C := RX1) (T := TX1) (N := 14) hx hb hw inX1 hown hK hP 0 rfl rfl 8 (by decide) (hw _ wb_276) (fun _ h9 => h9) rfl dX1_literal_47 ?_
            refine lv_iload_n hx hb dX1_literal_50 rfl (lv_at hl 0 rfl) ?_
            refine va_iald hx hb hK hP 3 2 rfl rfl hin dX1_literal_51 ?_
            rw [ci]
            refine lv_iload_n hx hb dX1_literal_52 rfl (lv_at hl 3 rfl) ?_
            refine lv_ineg hx hb dX1_literal_53 ?_
            refine lv_icmp_eq (tgt := 61) hx hb dX1_literal_54 (by decide) (fun c4 => ?_) (fun c4 => ?_)
            · skip
              have es : li_it fD k (a + 1) i rt = li_it fD k a (i + 1) 0 := (if_neg c2).trans (by rw [if_pos (Or.inr c4)])
              refine lv_iconst (v := 0) hx hb dX1_literal_61 (by decide) ?_
              refine lv_istore_n (lv' := [(2, .int 0), (3, .int (nI i)), (0, .ref (am 0)), (1, .int k)]) hx hb dX1_literal_62 rfl hl (by decide) rfl (fun ls hl => ?_)
              refine lv_iinc (v := (nI i) + 1) (lv' := [(3, .int ((nI i) + 1)), (2, .int 0), (0, .ref (am 0)), (1, .int k)]) hx hb dX1_literal_63 hl (k := 1) rfl rfl (by decide) rfl (fun ls hl => ?_)
              refine lv_goto (tgt := 24) hx hb dX1_literal_66 (by decide) ?_
              rw [nI_1] at hl
              exact ih (i + 1) 0 (by omega) (hq.trans es) ls hl
            · skip
              have es : li_it fD k (a + 1) i rt = li_it fD k a (i + 1) 1 := (if_neg c2).trans (by rw [if_neg (fun h => h.elim c3 c4)])
              refine lv_iconst (v := 1) hx hb dX1_literal_57 (by decide) ?_
              refine lv_goto (tgt := 62) hx hb dX1_literal_58 (by decide) ?_
              refine lv_istore_n (lv' := [(2, .int 1), (3, .int (nI i)), (0, .ref (am 0)), (1, .int k)]) hx hb dX1_literal_62 rfl hl (by decide) rfl (fun ls hl => ?_)
              refine lv_iinc (v := (nI i) + 1) (lv' := [(3, .int ((nI i) + 1)), (2, .int 1), (0, .ref (am 0)), (1, .int k)]) hx hb dX1_literal_63 hl (k := 1) rfl rfl (by decide) rfl (fun ls hl => ?_)
              refine lv_goto (tgt := 24) hx hb dX1_literal_66 (by decide) ?_
              rw [nI_1] at hl
              exact ih (i + 1) 1 (by omega) (hq.trans es) ls hl
  refine lv_iload_n hx hb dX1_literal_0 rfl (lv_at hl 1 rfl) ?_
  refine lv_if_eq (tgt := 20) hx hb dX1_literal_1 (by decide) (fun c1 => ?_) (fun c1 => ?_)
  · skip
    have e0 : li_0 k = 0 := by rw [li_0, if_pos (Or.inl c1)]
    refine lv_iconst (v := 0) hx hb dX1_literal_20 (by decide) ?_
    refine lv_istore_n (lv' := [(2, .int 0), (0, .ref (am 0)), (1, .int k)]) hx hb dX1_literal_21 rfl hl (by decide) rfl (fun ls hl => ?_)
    refine lv_iconst (v := 0) hx hb dX1_literal_22 (by decide) ?_
    refine lv_istore_n (lv' := [(3, .int 0), (2, .int 0), (0, .ref (am 0)), (1, .int k)]) hx hb dX1_literal_23 rfl hl (by decide) rfl (fun ls hl => ?_)
    exact loop d 0 0 (by omega) (by rw [e0]) ls hl
  · skip
    refine lv_iload_n hx hb dX1_literal_4 rfl (lv_at hl 1 rfl) ?_
    refine lv_bipush (v := (-16)) hx hb dX1_literal_5 (by decide) ?_
    refine lv_icmp_lt (tgt := 20) hx hb dX1_literal_7 (by decide) (fun c2 => ?_) (fun c2 => ?_)
    · skip
      have e0 : li_0 k = 0 := by rw [li_0, if_pos (Or.inr (Or.inl c2))]
      refine lv_iconst (v := 0) hx hb dX1_literal_20 (by decide) ?_
      refine lv_istore_n (lv' := [(2, .int 0), (0, .ref (am 0)), (1, .int k)]) hx hb dX1_literal_21 rfl hl (by decide) rfl (fun ls hl => ?_)
      refine lv_iconst (v := 0) hx hb dX1_literal_22 (by decide) ?_
      refine lv_istore_n (lv' := [(3, .int 0), (2, .int 0), (0, .ref (am 0)), (1, .int k)]) hx hb dX1_literal_23 rfl hl (by decide) rfl (fun ls hl => ?_)
      exact loop d 0 0 (by omega) (by rw [e0]) ls hl
    · skip
      refine lv_iload_n hx hb dX1_literal_10 rfl (lv_at hl 1 rfl) ?_
      refine lv_bipush (v := 16) hx hb dX1_literal_11 (by decide) ?_
      refine lv_icmp_gt (tgt := 20) hx hb dX1_literal_13 (by decide) (fun c3 => ?_) (fun c3 => ?_)
      · skip
        have e0 : li_0 k = 0 := by rw [li_0, if_pos (Or.inr (Or.inr c3))]
        refine lv_iconst (v := 0) hx hb dX1_literal_20 (by decide) ?_
        refine lv_istore_n (lv' := [(2, .int 0), (0, .ref (am 0)), (1, .int k)]) hx hb dX1_literal_21 rfl hl (by decide) rfl (fun ls hl => ?_)
        refine lv_iconst (v := 0) hx hb dX1_literal_22 (by decide) ?_
        refine lv_istore_n (lv' := [(3, .int 0), (2, .int 0), (0, .ref (am 0)), (1, .int k)]) hx hb dX1_literal_23 rfl hl (by decide) rfl (fun ls hl => ?_)
        exact loop d 0 0 (by omega) (by rw [e0]) ls hl
      · skip
        have e0 : li_0 k = 1 := by rw [li_0, if_neg (fun h => h.elim c1 (fun h => h.elim c2 c3))]
        refine lv_iconst (v := 1) hx hb dX1_literal_16 (by decide) ?_
        refine lv_goto (tgt := 21) hx hb dX1_literal_17 (by decide) ?_
        refine lv_istore_n (lv' := [(2, .int 1), (0, .ref (am 0)), (1, .int k)]) hx hb dX1_literal_21 rfl hl (by decide) rfl (fun ls hl => ?_)
        refine lv_iconst (v := 0) hx hb dX1_literal_22 (by decide) ?_
        refine lv_istore_n (lv' := [(3, .int 0), (2, .int 1), (0, .ref (am 0)), (1, .int k)]) hx hb dX1_literal_23 rfl hl (by decide) rfl (fun ls hl => ?_)
        exact loop d 0 1 (by omega) (by rw [e0]) ls hl
set_option maxHeartbeats 4000000 in
set_option maxRecDepth 100000 in
/-- add -/
theorem n_add (l : Launch) (dC : Nat → ClassId) (dI : Nat → Nat → Nat) (am : Nat → Nat) (ym : Nat → ClassId) (sz0 : Nat) (co ct th fo sg sz hc : Int32) (fL fN fD fH fV : Nat → Int32) (fM fW : Nat → Int64)  (n : Nat) (hn : n < 600) (ect : ct = nI n) (d : Nat) (hd : d ≤ 16) (esz : sz = nI d) : Met l yX1_add wsX1_add (rmN 0 0 0) (va_Pc [.ref (am 0)] (preM dC dI am ym sz0 (co, ct, th, fo, sg, sz, hc, fL, fN, fD, fH, fV, fM, fW))) (va_Qi (fun (r : Int32) (u : MS) => r = ct + 1 - 1 ∧ u = ad_S n d (co, ct, th, fo, sg, sz, hc, fL, fN, fD, fH, fV, fM, fW)) (atM dC dI (va_A (MW am ym (co, ct, th, fo, sg, sz, hc, fL, fN, fD, fH, fV, fM, fW)) sz0) am ym) (va_A (MW am ym (co, ct, th, fo, sg, sz, hc, fL, fN, fD, fH, fV, fM, fW)) sz0)) 0 0 (va_A (MW am ym (co, ct, th, fo, sg, sz, hc, fL, fN, fD, fH, fV, fM, fW)) sz0) := by
  refine Met.ofW (cc := cX1_add) (maxL := 2) (ret := (some .int)) (by decide) rfl ?_
  intro p e s m args below meth c s₁ B hml hv
  obtain ⟨rfl, hsz, hP, hK, hD0⟩ := hv
  have hx := B.exec
  have hb := B.bytes
  have hrt := B.returns
  have hlocks := B.notSynchronized
  have hts := atoms_spec (ws := wsX1_add) B.pre
  have hw : ∀ w ∈ WB, w.before ([.ref (am 0)] : List Value).toArray s = true := fun w h => hts w (List.mem_cons_of_mem _ h)
  have hown : s.vm.findClass "ProofBenchModel" = some m.cls := findClass_of_methodNamed B.named
  subst hsz
  have hD := hD0.self (sz := s.heap.size)
  generalize hAe : va_A (MW am ym (co, ct, th, fo, sg, sz, hc, fL, fN, fD, fH, fV, fM, fW)) s.heap.size = A at hD ⊢
  have hA : ∀ q : Nat, s.heap.size ≤ q → A q := fun q h => by rw [← hAe]; exact Or.inr h
  have hS : va_S A s.heap s.heap [] := va_S.rf
  have hP : va_P (dC, dI) cls2 (MW am ym (co, ct, th, fo, sg, sz, hc, fL, fN, fD, fH, fV, fM, fW)) s.heap := hP
  have hl := lv_entry ([.ref (am 0)]) (n := 2) (Nat.le_of_ble_eq_true rfl)
  rw [lg_entry_eq]
  generalize (lg_sl ([.ref (am 0)]) ++ List.replicate (2 - (lg_sl ([.ref (am 0)])).length) Slot.unset).toArray = ls at hl ⊢
  have hl : lv_has ls 2 [(0, .ref (am 0))] := hl
  refine lv_iconst (v := 0) hx hb dX1_add_0 (by decide) ?_
  refine lv_istore_n (lv' := [(1, .int 0), (0, .ref (am 0))]) hx hb dX1_add_1 rfl hl (by decide) rfl (fun ls hl => ?_)
  have loop : ∀ (a i : Nat) (f : Nat → Int32) (H : Heap) (locs : List Loc), i + a = d → ad_it fD n d 0 fL = ad_it fD n a i f → va_P (dC, dI) cls2 (MW am ym (co, ct, th, fo, sg, sz, hc, f, fN, fD, fH, fV, fM, fW)) H → va_D A (MW am ym (co, ct, th, fo, sg, sz, hc, f, fN, fD, fH, fV, fM, fW)) → va_S A s.heap H locs → ∀ ls, lv_has ls 2 [(1, .int (nI i)), (0, .ref (am 0))] → W p l e (headSpec wsX1_add (rmN 0 0 0)).room s m ([.ref (am 0)] : List Value).toArray below meth c H locs 0 0 (MQ below (va_Qi (fun (r : Int32) (u : MS) => r = ct + 1 - 1 ∧ u = ad_S n d (co, ct, th, fo, sg, sz, hc, fL, fN, fD, fH, fV, fM, fW)) (atM dC dI A am ym) A) ([.ref (am 0)] : List Value).toArray s 0 0 A) (F0 m 2 ls []) := by
    intro a
    induction a with
    | zero =>
      intro i f H locs hk hq hP hD hS ls hl
      have e0 : i = d := by omega
      have cn : ct.toNatClampNeg = n := by rw [ect]; exact nI_clamp (by omega)
      have hin : vp_in ct 600 := by rw [ect]; exact vp_in_nI hn (by decide)
      refine lv_iload_n hx hb dX1_add_2 rfl (lv_at hl 0 rfl) ?_
      refine lv_aload_n hx hb dX1_add_3 rfl (lv_at hl 1 rfl) ?_
      refine va_get (D := (dC, dI)) (ci := 1) (v := .int sz) (C := RX1) (T := TX1) (N := 14) hx hb hw inX1 hown hK hP 0 rfl rfl 7 (by decide) (hw _ wb_275) (fun _ h9 => h9) rfl dX1_add_4 ?_
      refine lv_icmp_ge (tgt := 36) hx hb dX1_add_7 (by decide) (fun c1 => ?_) (fun c1 => ?_)
      · skip
        refine lv_aload_n hx hb dX1_add_36 rfl (lv_at hl 1 rfl) ?_
        refine va_get (D := (dC, dI)) (ci := 1) (v := .ref (am 2)) (C := RX1) (T := TX1) (N := 14) hx hb hw inX1 hown hK hP 0 rfl rfl 6 (by decide) (hw _ wb_274) (fun _ h9 => h9) rfl dX1_add_37 ?_
        refine lv_aload_n hx hb dX1_add_40 rfl (lv_at hl 1 rfl) ?_
        refine va_get (D := (dC, dI)) (ci := 1) (v := .int ct) (C := RX1) (T := TX1) (N := 14) hx hb hw inX1 hown hK hP 0 rfl rfl 1 (by decide) (hw _ wb_269) (fun _ h9 => h9) rfl dX1_add_41 ?_
        refine lv_aload_n hx hb dX1_add_44 rfl (lv_at hl 1 rfl) ?_
        refine va_get (D := (dC, dI)) (ci := 1) (v := .int sz) (C := RX1) (T := TX1) (N := 14) hx hb hw inX1 hown hK hP 0 rfl rfl 7 (by decide) (hw _ wb_275) (fun _ h9 => h9) rfl dX1_add_45 ?_
        refine va_iast hx hb hK hP hD hS 2 1 rfl rfl hin dX1_add_48 (fun H locs hP hD hS => ?_)
        have hP : va_P (dC, dI) cls2 (MW am ym (co, ct, th, fo, sg, sz, hc, f, upd fN ct.toNatClampNeg sz, fD, fH, fV, fM, fW)) H := hP
        have hD : va_D A (MW am ym (co, ct, th, fo, sg, sz, hc, f, upd fN ct.toNatClampNeg sz, fD, fH, fV, fM, fW)) := hD
        rw [cn] at hP hD
        refine lv_aload_n hx hb dX1_add_49 rfl (lv_at hl 1 rfl) ?_
        refine lv_iconst (v := 0) hx hb dX1_add_50 (by decide) ?_
        refine va_put (D := (dC, dI)) (ci := 1) (v := .int 0) (ty := .int) (C := RX1) (T := TX1) (N := 14) hx hb hw inX1 tyX1 tyX1_ok nmX1 hown hK hP hD hS 0 rfl rfl 7 (by decide) (hw _ wb_275) (fun _ h9 => h9) rfl (by decide +kernel) rfl rfl (Nat.le_of_ble_eq_true rfl) dX1_add_51 (fun H locs hP hD hS => ?_)
        have hP : va_P (dC, dI) cls2 (MW am ym (co, ct, th, fo, sg, 0, hc, f, upd fN n sz, fD, fH, fV, fM, fW)) H := hP
        have hD : va_D A (MW am ym (co, ct, th, fo, sg, 0, hc, f, upd fN n sz, fD, fH, fV, fM, fW)) := hD
        refine lv_aload_n hx hb dX1_add_54 rfl (lv_at hl 1 rfl) ?_
        refine lv_dup hx hb dX1_add_55 rfl ?_
        refine va_get (D := (dC, dI)) (ci := 1) (v := .int th) (C := RX1) (T := TX1) (N := 14) hx hb hw inX1 hown hK hP 0 rfl rfl 2 (by decide) (hw _ wb_270) (fun _ h9 => h9) rfl dX1_add_56 ?_
        refine lv_iconst (v := 1) hx hb dX1_add_59 (by decide) ?_
        refine lv_iadd hx hb dX1_add_60 ?_
        refine va_put (D := (dC, dI)) (ci := 1) (v := .int (th + 1)) (ty := .int) (C := RX1) (T := TX1) (N := 14) hx hb hw inX1 tyX1 tyX1_ok nmX1 hown hK hP hD hS 0 rfl rfl 2 (by decide) (hw _ wb_270) (fun _ h9 => h9) rfl (by decide +kernel) rfl rfl (Nat.le_of_ble_eq_true rfl) dX1_add_61 (fun H locs hP hD hS => ?_)
        have hP : va_P (dC, dI) cls2 (MW am ym (co, ct, th + 1, fo, sg, 0, hc, f, upd fN n sz, fD, fH, fV, fM, fW)) H := hP
        have hD : va_D A (MW am ym (co, ct, th + 1, fo, sg, 0, hc, f, upd fN n sz, fD, fH, fV, fM, fW)) := hD
        refine lv_aload_n hx hb dX1_add_64 rfl (lv_at hl 1 rfl) ?_
        refine lv_dup hx hb dX1_add_65 rfl ?_
        refine va_get (D := (dC, dI)) (ci := 1) (v := .int ct) (C := RX1) (T := TX1) (N := 14) hx hb hw inX1 hown hK hP 0 rfl rfl 1 (by decide) (hw _ wb_269) (fun _ h9 => h9) rfl dX1_add_66 ?_
        refine lv_iconst (v := 1) hx hb dX1_add_69 (by decide) ?_
        refine lv_iadd hx hb dX1_add_70 ?_
        refine va_put (D := (dC, dI)) (ci := 1) (v := .int (ct + 1)) (ty := .int) (C := RX1) (T := TX1) (N := 14) hx hb hw inX1 tyX1 tyX1_ok nmX1 hown hK hP hD hS 0 rfl rfl 1 (by decide) (hw _ wb_269) (fun _ h9 => h9) rfl (by decide +kernel) rfl rfl (Nat.le_of_ble_eq_true rfl) dX1_add_71 (fun H locs hP hD hS => ?_)
        have hP : va_P (dC, dI) cls2 (MW am ym (co, ct + 1, th + 1, fo, sg, 0, hc, f, upd fN n sz, fD, fH, fV, fM, fW)) H := hP
        have hD : va_D A (MW am ym (co, ct + 1, th + 1, fo, sg, 0, hc, f, upd fN n sz, fD, fH, fV, fM, fW)) := hD
        refine lv_aload_n hx hb dX1_add_74 rfl (lv_at hl 1 rfl) ?_
        refine va_get (D := (dC, dI)) (ci := 1) (v := .int (ct + 1)) (C := RX1) (T := TX1) (N := 14) hx hb hw inX1 hown hK hP 0 rfl rfl 1 (by decide) (hw _ wb_269) (fun _ h9 => h9) rfl dX1_add_75 ?_
        refine lv_iconst (v := 1) hx hb dX1_add_78 (by decide) ?_
        refine lv_isub hx hb dX1_add_79 ?_
        exact W.iret (v := (ct + 1) - 1) hx hb hrt (fun t ht hW => ⟨⟨_, _, rfl, ⟨rfl, by rw [ad_S, hq]; rfl⟩, by rw [ht]; exact hP, va_K.moved hW.alike hK, hD⟩, hS.F ht⟩) hS.2.2 dX1_add_80
      · skip
        exact absurd (by rw [esz, e0]; exact Int32.le_refl _) c1
    | succ a ih =>
      intro i f H locs hk hq hP hD hS ls hl
      have ci : (nI i).toNatClampNeg = i := nI_clamp (by omega)
      have cj : (nI (16 * n + i)).toNatClampNeg = 16 * n + i := nI_clamp (by omega)
      have ej : 16 * ct + nI i = nI (16 * n + i) := by rw [ect, show (16 : Int32) = nI 16 from rfl, pk_mul, nI_add]
      refine lv_iload_n hx hb dX1_add_2 rfl (lv_at hl 0 rfl) ?_
      refine lv_aload_n hx hb dX1_add_3 rfl (lv_at hl 1 rfl) ?_
      refine va_get (D := (dC, dI)) (ci := 1) (v := .int sz) (C := RX1) (T := TX1) (N := 14) hx hb hw inX1 hown hK hP 0 rfl rfl 7 (by decide) (hw _ wb_275) (fun _ h9 => h9) rfl dX1_add_4 ?_
      refine lv_icmp_ge (tgt := 36) hx hb dX1_add_7 (by decide) (fun c1 => ?_) (fun c1 => ?_)
      · skip
        exact absurd (by rw [esz] at c1; exact c1) (nI_ge (by omega) (by omega))
      · skip
        refine lv_aload_n hx hb dX1_add_10 rfl (lv_at hl 1 rfl) ?_
        refine va_get (D := (dC, dI)) (ci := 1) (v := .ref (am 1)) (C := RX1) (T := TX1) (N := 14) hx hb hw inX1 hown hK hP 0 rfl rfl 5 (by decide) (hw _ wb_273) (fun _ h9 => h9) rfl dX1_add_11 ?_
        refine lv_bipush (v := 16) hx hb dX1_add_14 (by decide) ?_
        refine lv_aload_n hx hb dX1_add_16 rfl (lv_at hl 1 rfl) ?_
        refine va_get (D := (dC, dI)) (ci := 1) (v := .int ct) (C := RX1) (T := TX1) (N := 14) hx hb hw inX1 hown hK hP 0 rfl rfl 1 (by decide) (hw _ wb_269) (fun _ h9 => h9) rfl dX1_add_17 ?_
        refine lv_imul hx hb dX1_add_20 ?_
        refine lv_iload_n hx hb dX1_add_21 rfl (lv_at hl 0 rfl) ?_
        refine lv_iadd hx hb dX1_add_22 ?_
        rw [ej]
        refine lv_aload_n hx hb dX1_add_23 rfl (lv_at hl 1 rfl) ?_
        refine va_get (D := (dC, dI)) (ci := 1) (v := .ref (am 3)) (C := RX1) (T := TX1) (N := 14) hx hb hw inX1 hown hK hP 0 rfl rfl 8 (by decide) (hw _ wb_276) (fun _ h9 => h9) rfl dX1_add_24 ?_
        refine lv_iload_n hx hb dX1_add_27 rfl (lv_at hl 0 rfl) ?_
        refine va_iald hx hb hK hP 3 2 rfl rfl (vp_in_nI (by omega) (by decide)) dX1_add_28 ?_
        rw [ci]
        refine va_iast hx hb hK hP hD hS 1 0 rfl rfl (vp_in_nI (by omega) (by decide)) dX1_add_29 (fun H locs hP hD hS => ?_)
        have hP : va_P (dC, dI) cls2 (MW am ym (co, ct, th, fo, sg, sz, hc, upd f (nI (16 * n + i)).toNatClampNeg (fD i), fN, fD, fH, fV, fM, fW)) H := hP
        have hD : va_D A (MW am ym (co, ct, th, fo, sg, sz, hc, upd f (nI (16 * n + i)).toNatClampNeg (fD i), fN, fD, fH, fV, fM, fW)) := hD
        rw [cj] at hP hD
        refine lv_iinc (v := (nI i) + 1) (lv' := [(1, .int ((nI i) + 1)), (0, .ref (am 0))]) hx hb dX1_add_30 hl (k := 0) rfl rfl (by decide) rfl (fun ls hl => ?_)
        refine lv_goto (tgt := 2) hx hb dX1_add_33 (by decide) ?_
        rw [nI_1] at hl
        exact ih (i + 1) _ H _ (by omega) hq hP hD hS ls hl
  exact loop d 0 fL s.heap [] (by omega) rfl hP hD hS ls hl
set_option maxHeartbeats 4000000 in
set_option maxRecDepth 100000 in
/-- trueIn -/
theorem n_trueIn (l : Launch) (dC : Nat → ClassId) (dI : Nat → Nat → Nat) (am : Nat → Nat) (ym : Nat → ClassId) (co ct th fo sg sz hc : Int32) (fL fN fD fH fV : Nat → Int32) (fM fW : Nat → Int64) (k : Int32) (d : Nat) (hd : d ≤ 16) (esz : sz = nI d) (hR : ∀ j, j < d → rng (fD j)) : Met l yX1_trueIn wsX1_trueIn (rmN 1 0 0) (va_Pc [.ref (am 0), .int k] (rdM dC dI am ym (co, ct, th, fo, sg, sz, hc, fL, fN, fD, fH, fV, fM, fW))) (vp_Sl (fun r => r = ti_it fD fW k d 0 0)) 0 0 (fun _ => False) := by
  refine Met.ofW (cc := cX1_trueIn) (maxL := 6) (ret := (some .long)) (by decide) rfl ?_
  intro p e s m args below meth c s₁ B hml hv
  obtain ⟨rfl, hP, hK⟩ := hv
  have hx := B.exec
  have hb := B.bytes
  have hrt := B.returns
  have hlocks := B.notSynchronized
  have hts := atoms_spec (ws := wsX1_trueIn) B.pre
  have hw : ∀ w ∈ WB, w.before ([.ref (am 0), .int k] : List Value).toArray s = true := fun w h => hts w (List.mem_cons_of_mem _ h)
  have hown : s.vm.findClass "ProofBenchModel" = some m.cls := findClass_of_methodNamed B.named
  have hP : va_P (dC, dI) cls2 (MW am ym (co, ct, th, fo, sg, sz, hc, fL, fN, fD, fH, fV, fM, fW)) s.heap := hP
  have hl := lv_entry ([.ref (am 0), .int k]) (n := 6) (Nat.le_of_ble_eq_true rfl)
  rw [lg_entry_eq]
  generalize (lg_sl ([.ref (am 0), .int k]) ++ List.replicate (6 - (lg_sl ([.ref (am 0), .int k])).length) Slot.unset).toArray = ls at hl ⊢
  have hl : lv_has ls 6 [(0, .ref (am 0)), (1, .int k)] := hl
  refine lv_lconst (v := 0) hx hb dX1_trueIn_0 (by decide) ?_
  refine lv_lstore_n (lv' := [(2, .long 0), (0, .ref (am 0)), (1, .int k)]) hx hb dX1_trueIn_1 rfl hl (by decide) rfl (fun ls hl => ?_)
  refine lv_iconst (v := 0) hx hb dX1_trueIn_2 (by decide) ?_
  refine lv_istore (lv' := [(4, .int 0), (2, .long 0), (0, .ref (am 0)), (1, .int k)]) hx hb dX1_trueIn_3 hl (by decide) rfl (fun ls hl => ?_)
  have loop : ∀ (a i : Nat) (f : Int64), i + a = d → ti_it fD fW k d 0 0 = ti_it fD fW k a i f → ∀ ls, lv_has ls 6 [(4, .int (nI i)), (2, .long f), (0, .ref (am 0)), (1, .int k)] → W p l e (headSpec wsX1_trueIn (rmN 1 0 0)).room s m ([.ref (am 0), .int k] : List Value).toArray below meth c s.heap [] 0 0 (MQ below (vp_Sl (fun r => r = ti_it fD fW k d 0 0)) ([.ref (am 0), .int k] : List Value).toArray s 0 0 (fun _ => False)) (F0 m 5 ls []) := by
    intro a
    induction a with
    | zero =>
      intro i f hk hq ls hl
      have e0 : i = d := by omega
      refine lv_iload hx hb dX1_trueIn_5 (lv_at hl 0 rfl) ?_
      refine lv_aload_n hx hb dX1_trueIn_7 rfl (lv_at hl 2 rfl) ?_
      refine va_get (D := (dC, dI)) (ci := 1) (v := .int sz) (C := RX1) (T := TX1) (N := 14) hx hb hw inX1 hown hK hP 0 rfl rfl 7 (by decide) (hw _ wb_275) (fun _ h9 => h9) rfl dX1_trueIn_8 ?_
      refine lv_icmp_ge (tgt := 59) hx hb dX1_trueIn_11 (by decide) (fun c1 => ?_) (fun c1 => ?_)
      · skip
        refine lv_lload_n hx hb dX1_trueIn_59 rfl (lv_at hl 1 rfl) ?_
        exact W.lret (v := f) hx hb hrt (fun t ht hW => ⟨_, rfl, hq.symm, ht⟩) (fun q h => nomatch h) dX1_trueIn_60
      · skip
        exact absurd (by rw [esz, e0]; exact Int32.le_refl _) c1
    | succ a ih =>
      intro i f hk hq ls hl
      have ci : (nI i).toNatClampNeg = i := nI_clamp (by omega)
      refine lv_iload hx hb dX1_trueIn_5 (lv_at hl 0 rfl) ?_
      refine lv_aload_n hx hb dX1_trueIn_7 rfl (lv_at hl 2 rfl) ?_
      refine va_get (D := (dC, dI)) (ci := 1) (v := .int sz) (C := RX1) (T := TX1) (N := 14) hx hb hw inX1 hown hK hP 0 rfl rfl 7 (by decide) (hw _ wb_275) (fun _ h9 => h9) rfl dX1_trueIn_8 ?_
      refine lv_icmp_ge (tgt := 59) hx hb dX1_trueIn_11 (by decide) (fun c1 => ?_) (fun c1 => ?_)
      · skip
        exact absurd (by rw [esz] at c1; exact c1) (nI_ge (by omega) (by omega))
      · skip
        refine lv_aload_n hx hb dX1_trueIn_14 rfl (lv_at hl 2 rfl) ?_
        refine va_get (D := (dC, dI)) (ci := 1) (v := .ref (am 3)) (C := RX1) (T := TX1) (N := 14) hx hb hw inX1 hown hK hP 0 rfl rfl 8 (by decide) (hw _ wb_276) (fun _ h9 => h9) rfl dX1_trueIn_15 ?_
        refine lv_iload hx hb dX1_trueIn_18 (lv_at hl 0 rfl) ?_
        refine va_iald hx hb hK hP 3 2 rfl rfl (vp_in_nI (by omega) (by decide)) dX1_trueIn_20 ?_
        rw [ci]
        refine lv_istore (lv' := [(5, .int (fD i)), (4, .int (nI i)), (2, .long f), (0, .ref (am 0)), (1, .int k)]) hx hb dX1_trueIn_21 hl (by decide) rfl (fun ls hl => ?_)
        refine lv_lload_n hx hb dX1_trueIn_23 rfl (lv_at hl 2 rfl) ?_
        refine lv_iload hx hb dX1_trueIn_24 (lv_at hl 0 rfl) ?_
        refine lv_if_le (tgt := 39) hx hb dX1_trueIn_26 (by decide) (fun c2 => ?_) (fun c2 => ?_)
        · skip
          refine lv_aload_n hx hb dX1_trueIn_39 rfl (lv_at hl 3 rfl) ?_
          refine lv_iload hx hb dX1_trueIn_40 (lv_at hl 0 rfl) ?_
          refine lv_ineg hx hb dX1_trueIn_42 ?_
          refine lv_iload_n hx hb dX1_trueIn_43 rfl (lv_at hl 4 rfl) ?_
          refine vp_callSl (W.runV (As := [.int (-(fD i)), .int k]) (rest := [.long f]) ⟨hx, hb, hml, hown, hw⟩ (n_truths l dC dI am ym co ct th fo sg sz hc fL fN fD fH fV fM fW (-fD i) k (rng_nn (hR i (by omega)) (Int32.not_lt.mpr c2))) (cwV 2 hw (gw_V wb_335 wb_337 wbs_8 wb_2 wb_338) rfl rfl rfl (by decide +kernel) ⟨Nat.le_of_ble_eq_true rfl, Nat.le_of_ble_eq_true rfl⟩) ⟨blind_rdM, va_recv hK hP (ci := 1) (q0 := 0) rfl rfl, fun U hU hW => ⟨rfl, by rw [hU]; exact hP, va_K.moved hW.alike hK⟩⟩ rfl rfl hl.1 rfl (lv_room (Nat.le_of_ble_eq_true rfl)) dX1_trueIn_44 ⟨Nat.le_of_ble_eq_true rfl, Nat.le_of_ble_eq_true rfl⟩) (fun r1 h1 => ?_)
          subst h1
          have es : ti_it fD fW k (a + 1) i f = ti_it fD fW k a (i + 1) (f ||| (tr_v fW (-fD i) k ^^^ (-1))) := by rw [ti_it, if_neg (Int32.not_lt.mpr c2)]
          refine lv_ldc2 (v := (-1)) hx hb hown (hw _ wb_267) dX1_trueIn_47 ?_
          refine lv_lxor hx hb dX1_trueIn_50 ?_
          refine lv_lor hx hb dX1_trueIn_51 ?_
          refine lv_lstore_n (lv' := [(2, .long (f ||| ((tr_v fW (-fD i) k) ^^^ (-1)))), (5, .int (fD i)), (4, .int (nI i)), (0, .ref (am 0)), (1, .int k)]) hx hb dX1_trueIn_52 rfl hl (by decide) rfl (fun ls hl => ?_)
          refine lv_iinc (v := (nI i) + 1) (lv' := [(4, .int ((nI i) + 1)), (2, .long (f ||| ((tr_v fW (-fD i) k) ^^^ (-1)))), (5, .int (fD i)), (0, .ref (am 0)), (1, .int k)]) hx hb dX1_trueIn_53 hl (k := 2) rfl rfl (by decide) rfl (fun ls hl => ?_)
          refine lv_goto (tgt := 5) hx hb dX1_trueIn_56 (by decide) ?_
          rw [nI_1] at hl
          exact ih (i + 1) _ (by omega) (hq.trans es) ls (lv_sub hl [0, 1, 3, 4] rfl)
        · skip
          refine lv_aload_n hx hb dX1_trueIn_29 rfl (lv_at hl 3 rfl) ?_
          refine lv_iload hx hb dX1_trueIn_30 (lv_at hl 0 rfl) ?_
          refine lv_iload_n hx hb dX1_trueIn_32 rfl (lv_at hl 4 rfl) ?_
          refine vp_callSl (W.runV (As := [.int (fD i), .int k]) (rest := [.long f]) ⟨hx, hb, hml, hown, hw⟩ (n_truths l dC dI am ym co ct th fo sg sz hc fL fN fD fH fV fM fW (fD i) k (fun h => c2 (Int32.le_of_lt h))) (cwV 2 hw (gw_V wb_335 wb_337 wbs_8 wb_2 wb_338) rfl rfl rfl (by decide +kernel) ⟨Nat.le_of_ble_eq_true rfl, Nat.le_of_ble_eq_true rfl⟩) ⟨blind_rdM, va_recv hK hP (ci := 1) (q0 := 0) rfl rfl, fun U hU hW => ⟨rfl, by rw [hU]; exact hP, va_K.moved hW.alike hK⟩⟩ rfl rfl hl.1 rfl (lv_room (Nat.le_of_ble_eq_true rfl)) dX1_trueIn_33 ⟨Nat.le_of_ble_eq_true rfl, Nat.le_of_ble_eq_true rfl⟩) (fun r1 h1 => ?_)
          subst h1
          have es : ti_it fD fW k (a + 1) i f = ti_it fD fW k a (i + 1) (f ||| (tr_v fW (fD i) k)) := by rw [ti_it, if_pos (Int32.not_le.mp c2)]
          refine lv_goto (tgt := 51) hx hb dX1_trueIn_36 (by decide) ?_
          refine lv_lor hx hb dX1_trueIn_51 ?_
          refine lv_lstore_n (lv' := [(2, .long (f ||| (tr_v fW (fD i) k))), (5, .int (fD i)), (4, .int (nI i)), (0, .ref (am 0)), (1, .int k)]) hx hb dX1_trueIn_52 rfl hl (by decide) rfl (fun ls hl => ?_)
          refine lv_iinc (v := (nI i) + 1) (lv' := [(4, .int ((nI i) + 1)), (2, .long (f ||| (tr_v fW (fD i) k))), (5, .int (fD i)), (0, .ref (am 0)), (1, .int k)]) hx hb dX1_trueIn_53 hl (k := 2) rfl rfl (by decide) rfl (fun ls hl => ?_)
          refine lv_goto (tgt := 5) hx hb dX1_trueIn_56 (by decide) ?_
          rw [nI_1] at hl
          exact ih (i + 1) _ (by omega) (hq.trans es) ls (lv_sub hl [0, 1, 3, 4] rfl)
  exact loop d 0 0 (by omega) rfl ls hl
set_option maxHeartbeats 4000000 in
set_option maxRecDepth 100000 in
/-- give -/
theorem n_give (l : Launch) (dC : Nat → ClassId) (dI : Nat → Nat → Nat) (am : Nat → Nat) (ym : Nat → ClassId) (sz0 : Nat) (co ct th fo sg sz hc : Int32) (fL fN fD fH fV : Nat → Int32) (fM fW : Nat → Int64)  (n : Nat) (hn : n < 600) (ect : ct = nI n) (d : Nat) (hd : d ≤ 16) (esz : sz = nI d) (hR : ∀ j, j < d → rng (fD j)) : Met l yX1_give wsX1_give (rmN 2 0 0) (va_Pc [.ref (am 0)] (preM dC dI am ym sz0 (co, ct, th, fo, sg, sz, hc, fL, fN, fD, fH, fV, fM, fW))) (va_Qi (fun (r : Int32) (u : MS) => r = ct + 1 - 1 ∧ u = ad_S n d (0, ct, th, fo, sg, sz, hc, fL, fN, fD, fH, fV, gm_it (fun j => ti_it fD fW (nI j) d 0 0) 1024 0 fM, fW)) (atM dC dI (va_A (MW am ym (co, ct, th, fo, sg, sz, hc, fL, fN, fD, fH, fV, fM, fW)) sz0) am ym) (va_A (MW am ym (co, ct, th, fo, sg, sz, hc, fL, fN, fD, fH, fV, fM, fW)) sz0)) 0 0 (va_A (MW am ym (co, ct, th, fo, sg, sz, hc, fL, fN, fD, fH, fV, fM, fW)) sz0) := by
  refine Met.ofW (cc := cX1_give) (maxL := 2) (ret := (some .int)) (by decide) rfl ?_
  intro p e s m args below meth c s₁ B hml hv
  obtain ⟨rfl, hsz, hP, hK, hD0⟩ := hv
  have hx := B.exec
  have hb := B.bytes
  have hrt := B.returns
  have hlocks := B.notSynchronized
  have hts := atoms_spec (ws := wsX1_give) B.pre
  have hw : ∀ w ∈ WB, w.before ([.ref (am 0)] : List Value).toArray s = true := fun w h => hts w (List.mem_cons_of_mem _ h)
  have hown : s.vm.findClass "ProofBenchModel" = some m.cls := findClass_of_methodNamed B.named
  subst hsz
  have hD := hD0.self (sz := s.heap.size)
  generalize hAe : va_A (MW am ym (co, ct, th, fo, sg, sz, hc, fL, fN, fD, fH, fV, fM, fW)) s.heap.size = A at hD ⊢
  have hA : ∀ q : Nat, s.heap.size ≤ q → A q := fun q h => by rw [← hAe]; exact Or.inr h
  have hS : va_S A s.heap s.heap [] := va_S.rf
  have hP : va_P (dC, dI) cls2 (MW am ym (co, ct, th, fo, sg, sz, hc, fL, fN, fD, fH, fV, fM, fW)) s.heap := hP
  have hl := lv_entry ([.ref (am 0)]) (n := 2) (Nat.le_of_ble_eq_true rfl)
  rw [lg_entry_eq]
  generalize (lg_sl ([.ref (am 0)]) ++ List.replicate (2 - (lg_sl ([.ref (am 0)])).length) Slot.unset).toArray = ls at hl ⊢
  have hl : lv_has ls 2 [(0, .ref (am 0))] := hl
  have loop : ∀ (a i : Nat) (f : Nat → Int64) (H : Heap) (locs : List Loc), i + a = 1024 → gm_it (fun j => ti_it fD fW (nI j) d 0 0) 1024 0 fM = gm_it (fun j => ti_it fD fW (nI j) d 0 0) a i f → va_P (dC, dI) cls2 (MW am ym (0, ct, th, fo, sg, sz, hc, fL, fN, fD, fH, fV, f, fW)) H → va_D A (MW am ym (0, ct, th, fo, sg, sz, hc, fL, fN, fD, fH, fV, f, fW)) → va_S A s.heap H locs → ∀ ls, lv_has ls 2 [(1, .int (nI i)), (0, .ref (am 0))] → W p l e (headSpec wsX1_give (rmN 2 0 0)).room s m ([.ref (am 0)] : List Value).toArray below meth c H locs 0 0 (MQ below (va_Qi (fun (r : Int32) (u : MS) => r = ct + 1 - 1 ∧ u = ad_S n d (0, ct, th, fo, sg, sz, hc, fL, fN, fD, fH, fV, gm_it (fun j => ti_it fD fW (nI j) d 0 0) 1024 0 fM, fW)) (atM dC dI A am ym) A) ([.ref (am 0)] : List Value).toArray s 0 0 A) (F0 m 30 ls []) := by
    intro a
    induction a with
    | zero =>
      intro i f H locs hk hq hP hD hS ls hl
      have e0 : i = 1024 := by omega
      subst e0
      refine lv_iload_n hx hb dX1_give_30 rfl (lv_at hl 0 rfl) ?_
      refine lv_sipush (v := 1024) hx hb dX1_give_31 (by decide) ?_
      refine lv_icmp_ge (tgt := 72) hx hb dX1_give_34 (by decide) (fun c1 => ?_) (fun c1 => ?_)
      · skip
        refine lv_aload_n hx hb dX1_give_72 rfl (lv_at hl 1 rfl) ?_
        have hFc := va_free (wc := MW am ym (0, ct, th, fo, sg, sz, hc, fL, fN, fD, fH, fV, f, fW)) hD hS hA [0, 1, 2, 3, 4, 5, 6, 7] rfl
        refine va_calli (va_runV (As := []) (rest := []) ⟨hx, hb, hml, hown, hw⟩ (n_add l dC dI am ym H.size 0 ct th fo sg sz hc fL fN fD fH fV f fW n hn ect d hd esz) (cwV 0 hw (gw_V wb_339 wb_341 wbs_9 wb_2 wb_342) rfl rfl rfl (by decide +kernel) ⟨Nat.le_of_ble_eq_true rfl, Nat.le_of_ble_eq_true rfl⟩) ⟨blind_preM, va_recv hK hP (ci := 1) (q0 := 0) rfl rfl, fun U hU hW => ⟨rfl, by rw [hU], by rw [hU]; exact hP, va_K.moved hW.alike hK, hD.weaken (fun _ _ _ _ => trivial)⟩⟩ rfl rfl hl.1 rfl (lv_room (Nat.le_of_ble_eq_true rfl)) dX1_give_73 ⟨Nat.le_of_ble_eq_true rfl, Nat.le_of_ble_eq_true rfl⟩) hS (fun q _ h => hFc q h) hFc (fun r1 u t H1 locs ht hvm hq hB hz1 hk1 hS => ?_)
        obtain ⟨hr1, rfl⟩ := hq
        obtain ⟨hP1, hK1, hD1⟩ := hB
        rw [ht] at hP1
        have hP : va_P (dC, dI) cls2 (MW am ym (0, ct + 1, th + 1, fo, sg, 0, hc, ad_it fD n d 0 fL, upd fN n sz, fD, fH, fV, f, fW)) H1 := hP1
        have hD : va_D A (MW am ym (0, ct + 1, th + 1, fo, sg, 0, hc, ad_it fD n d 0 fL, upd fN n sz, fD, fH, fV, f, fW)) := hD1.weaken (fun k q h _ => hFc q.1 (hD1.2 k q h))
        generalize H1 = H at hP hS ⊢
        exact W.iret (v := r1) hx hb hrt (fun t ht hW => ⟨⟨_, _, rfl, ⟨hr1, by rw [hq]; rfl⟩, by rw [ht]; exact hP, va_K.moved hW.alike hK, hD⟩, hS.F ht⟩) hS.2.2 dX1_give_76
      · skip
        exact absurd (by decide) c1
    | succ a ih =>
      intro i f H locs hk hq hP hD hS ls hl
      have ci : (nI i).toNatClampNeg = i := nI_clamp (by omega)
      have hin : vp_in (nI i) 1024 := vp_in_nI (by omega) (by decide)
      refine lv_iload_n hx hb dX1_give_30 rfl (lv_at hl 0 rfl) ?_
      refine lv_sipush (v := 1024) hx hb dX1_give_31 (by decide) ?_
      refine lv_icmp_ge (tgt := 72) hx hb dX1_give_34 (by decide) (fun c1 => ?_) (fun c1 => ?_)
      · skip
        exact absurd (show nI 1024 ≤ nI i from c1) (nI_ge (by omega) (by omega))
      · skip
        refine lv_aload_n hx hb dX1_give_37 rfl (lv_at hl 1 rfl) ?_
        refine va_get (D := (dC, dI)) (ci := 1) (v := .ref (am 6)) (C := RX1) (T := TX1) (N := 14) hx hb hw inX1 hown hK hP 0 rfl rfl 12 (by decide) (hw _ wb_280) (fun _ h9 => h9) rfl dX1_give_38 ?_
        refine lv_iload_n hx hb dX1_give_41 rfl (lv_at hl 0 rfl) ?_
        refine lv_dup2_11 hx hb dX1_give_42 rfl rfl ?_
        refine va_lald hx hb hK hP 6 5 rfl rfl hin dX1_give_43 ?_
        refine lv_aload_n hx hb dX1_give_44 rfl (lv_at hl 1 rfl) ?_
        refine va_get (D := (dC, dI)) (ci := 1) (v := .ref (am 6)) (C := RX1) (T := TX1) (N := 14) hx hb hw inX1 hown hK hP 0 rfl rfl 12 (by decide) (hw _ wb_280) (fun _ h9 => h9) rfl dX1_give_45 ?_
        refine lv_iload_n hx hb dX1_give_48 rfl (lv_at hl 0 rfl) ?_
        refine va_lald hx hb hK hP 6 5 rfl rfl hin dX1_give_49 ?_
        refine lv_lconst (v := 0) hx hb dX1_give_50 (by decide) ?_
        refine W.lcmp hx hb dX1_give_51 ?_
        rw [ci]
        refine lv_if_ne (tgt := 59) hx hb dX1_give_52 (by decide) (fun c2 => ?_) (fun c2 => ?_)
        · skip
          have c2 : ¬ f i = 0 := fun h => c2 ((lg_cmp_eq _ _).mpr h)
          refine lv_aload_n hx hb dX1_give_59 rfl (lv_at hl 1 rfl) ?_
          refine lv_iload_n hx hb dX1_give_60 rfl (lv_at hl 0 rfl) ?_
          refine vp_callSl (W.runV (As := [.int (nI i)]) (rest := [.long (f i), .int (nI i), .ref (am 6)]) ⟨hx, hb, hml, hown, hw⟩ (n_trueIn l dC dI am ym 0 ct th fo sg sz hc fL fN fD fH fV f fW (nI i) d hd esz hR) (cwV 1 hw (gw_V wb_331 wb_333 wbs_7 wb_2 wb_334) rfl rfl rfl (by decide +kernel) ⟨Nat.le_of_ble_eq_true rfl, Nat.le_of_ble_eq_true rfl⟩) ⟨blind_rdM, va_recv hK hP (ci := 1) (q0 := 0) rfl rfl, fun U hU hW => ⟨rfl, by rw [hU]; exact hP, va_K.moved hW.alike hK⟩⟩ rfl rfl hl.1 rfl (lv_room (Nat.le_of_ble_eq_true rfl)) dX1_give_61 ⟨Nat.le_of_ble_eq_true rfl, Nat.le_of_ble_eq_true rfl⟩) (fun r1 h1 => ?_)
          subst h1
          have es : gm_it (fun j => ti_it fD fW (nI j) d 0 0) (a + 1) i f = gm_it (fun j => ti_it fD fW (nI j) d 0 0) a (i + 1) (vp_updL f i (f i &&& (ti_it fD fW (nI i) d 0 0))) := by rw [gm_it, if_neg c2]
          refine lv_land hx hb dX1_give_64 ?_
          refine va_last hx hb hK hP hD hS 6 5 rfl rfl hin dX1_give_65 (fun H locs hP hD hS => ?_)
          have hP : va_P (dC, dI) cls2 (MW am ym (0, ct, th, fo, sg, sz, hc, fL, fN, fD, fH, fV, vp_updL f (nI i).toNatClampNeg ((f i) &&& (ti_it fD fW (nI i) d 0 0)), fW)) H := hP
          have hD : va_D A (MW am ym (0, ct, th, fo, sg, sz, hc, fL, fN, fD, fH, fV, vp_updL f (nI i).toNatClampNeg ((f i) &&& (ti_it fD fW (nI i) d 0 0)), fW)) := hD
          rw [ci] at hP hD
          refine lv_iinc (v := (nI i) + 1) (lv' := [(1, .int ((nI i) + 1)), (0, .ref (am 0))]) hx hb dX1_give_66 hl (k := 0) rfl rfl (by decide) rfl (fun ls hl => ?_)
          refine lv_goto (tgt := 30) hx hb dX1_give_69 (by decide) ?_
          rw [nI_1] at hl
          exact ih (i + 1) _ H _ (by omega) (hq.trans es) hP hD hS ls hl
        · skip
          have c2 : f i = 0 := (lg_cmp_eq _ _).mp c2
          have es : gm_it (fun j => ti_it fD fW (nI j) d 0 0) (a + 1) i f = gm_it (fun j => ti_it fD fW (nI j) d 0 0) a (i + 1) (vp_updL f i (f i &&& 0)) := by rw [gm_it, if_pos c2]
          refine lv_lconst (v := 0) hx hb dX1_give_55 (by decide) ?_
          refine lv_goto (tgt := 64) hx hb dX1_give_56 (by decide) ?_
          refine lv_land hx hb dX1_give_64 ?_
          refine va_last hx hb hK hP hD hS 6 5 rfl rfl hin dX1_give_65 (fun H locs hP hD hS => ?_)
          have hP : va_P (dC, dI) cls2 (MW am ym (0, ct, th, fo, sg, sz, hc, fL, fN, fD, fH, fV, vp_updL f (nI i).toNatClampNeg ((f i) &&& 0), fW)) H := hP
          have hD : va_D A (MW am ym (0, ct, th, fo, sg, sz, hc, fL, fN, fD, fH, fV, vp_updL f (nI i).toNatClampNeg ((f i) &&& 0), fW)) := hD
          rw [ci] at hP hD
          refine lv_iinc (v := (nI i) + 1) (lv' := [(1, .int ((nI i) + 1)), (0, .ref (am 0))]) hx hb dX1_give_66 hl (k := 0) rfl rfl (by decide) rfl (fun ls hl => ?_)
          refine lv_goto (tgt := 30) hx hb dX1_give_69 (by decide) ?_
          rw [nI_1] at hl
          exact ih (i + 1) _ H _ (by omega) (hq.trans es) hP hD hS ls hl
  refine lv_aload_n hx hb dX1_give_0 rfl (lv_at hl 0 rfl) ?_
  refine lv_aload_n hx hb dX1_give_1 rfl (lv_at hl 0 rfl) ?_
  refine va_get (D := (dC, dI)) (ci := 1) (v := .int ct) (C := RX1) (T := TX1) (N := 14) hx hb hw inX1 hown hK hP 0 rfl rfl 1 (by decide) (hw _ wb_269) (fun _ h9 => h9) rfl dX1_give_2 ?_
  refine lv_sipush (v := 600) hx hb dX1_give_5 (by decide) ?_
  refine lv_icmp_ne (tgt := 15) hx hb dX1_give_8 (by decide) (fun c1 => ?_) (fun c1 => ?_)
  · skip
    refine lv_iconst (v := 0) hx hb dX1_give_15 (by decide) ?_
    refine va_put (D := (dC, dI)) (ci := 1) (v := .int 0) (ty := .int) (C := RX1) (T := TX1) (N := 14) hx hb hw inX1 tyX1 tyX1_ok nmX1 hown hK hP hD hS 0 rfl rfl 0 (by decide) (hw _ wb_268) (fun _ h9 => h9) rfl (by decide +kernel) rfl rfl (Nat.le_of_ble_eq_true rfl) dX1_give_16 (fun H locs hP hD hS => ?_)
    have hP : va_P (dC, dI) cls2 (MW am ym (0, ct, th, fo, sg, sz, hc, fL, fN, fD, fH, fV, fM, fW)) H := hP
    have hD : va_D A (MW am ym (0, ct, th, fo, sg, sz, hc, fL, fN, fD, fH, fV, fM, fW)) := hD
    refine lv_aload_n hx hb dX1_give_19 rfl (lv_at hl 0 rfl) ?_
    refine va_get (D := (dC, dI)) (ci := 1) (v := .int 0) (C := RX1) (T := TX1) (N := 14) hx hb hw inX1 hown hK hP 0 rfl rfl 0 (by decide) (hw _ wb_268) (fun _ h9 => h9) rfl dX1_give_20 ?_
    refine lv_if_le (tgt := 28) hx hb dX1_give_23 (by decide) (fun c9 => ?_) (fun c9 => ?_)
    · skip
      refine lv_iconst (v := 0) hx hb dX1_give_28 (by decide) ?_
      refine lv_istore_n (lv' := [(1, .int 0), (0, .ref (am 0))]) hx hb dX1_give_29 rfl hl (by decide) rfl (fun ls hl => ?_)
      exact loop 1024 0 fM H _ rfl rfl hP hD hS ls hl
    · skip
      exact absurd (by decide) c9
  · skip
    exact absurd ((nI_eq (a := n) (b := 600) (by omega) (by decide)).mp (by rw [← ect]; exact c1)) (by omega)
set_option maxHeartbeats 4000000 in
set_option maxRecDepth 100000 in
/-- accept -/
theorem n_accept (l : Launch) (dC : Nat → ClassId) (dI : Nat → Nat → Nat) (am : Nat → Nat) (ym : Nat → ClassId) (sz0 : Nat) (co ct th fo sg sz hc : Int32) (fL fN fD fH fV : Nat → Int32) (fM fW : Nat → Int64)  (n : Nat) (hn : n < 600) (ect : ct = nI n) (d : Nat) (hd : d ≤ 16) (esz : sz = nI d) (hR : ∀ j, j < d → rng (fD j)) : Met l yX1_accept wsX1_accept (rmN 2 0 0) (va_Pc [.ref (am 0)] (preM dC dI am ym sz0 (co, ct, th, fo, sg, sz, hc, fL, fN, fD, fH, fV, fM, fW))) (va_Qi (fun (r : Int32) (u : MS) => r = ct + 1 - 1 ∧ u = ad_S n d (co, ct, th, fo + 1, sg + (if ac_it (fun j => ti_it fD fW (nI j) d 0 0) fM 1024 0 1 = 0 then 1 else 0), sz, hc, fL, fN, fD, fH, fV, fM, fW)) (atM dC dI (va_A (MW am ym (co, ct, th, fo, sg, sz, hc, fL, fN, fD, fH, fV, fM, fW)) sz0) am ym) (va_A (MW am ym (co, ct, th, fo, sg, sz, hc, fL, fN, fD, fH, fV, fM, fW)) sz0)) 0 0 (va_A (MW am ym (co, ct, th, fo, sg, sz, hc, fL, fN, fD, fH, fV, fM, fW)) sz0) := by
  refine Met.ofW (cc := cX1_accept) (maxL := 3) (ret := (some .int)) (by decide) rfl ?_
  intro p e s m args below meth c s₁ B hml hv
  obtain ⟨rfl, hsz, hP, hK, hD0⟩ := hv
  have hx := B.exec
  have hb := B.bytes
  have hrt := B.returns
  have hlocks := B.notSynchronized
  have hts := atoms_spec (ws := wsX1_accept) B.pre
  have hw : ∀ w ∈ WB, w.before ([.ref (am 0)] : List Value).toArray s = true := fun w h => hts w (List.mem_cons_of_mem _ h)
  have hown : s.vm.findClass "ProofBenchModel" = some m.cls := findClass_of_methodNamed B.named
  subst hsz
  have hD := hD0.self (sz := s.heap.size)
  generalize hAe : va_A (MW am ym (co, ct, th, fo, sg, sz, hc, fL, fN, fD, fH, fV, fM, fW)) s.heap.size = A at hD ⊢
  have hA : ∀ q : Nat, s.heap.size ≤ q → A q := fun q h => by rw [← hAe]; exact Or.inr h
  have hS : va_S A s.heap s.heap [] := va_S.rf
  have hP : va_P (dC, dI) cls2 (MW am ym (co, ct, th, fo, sg, sz, hc, fL, fN, fD, fH, fV, fM, fW)) s.heap := hP
  have hl := lv_entry ([.ref (am 0)]) (n := 3) (Nat.le_of_ble_eq_true rfl)
  rw [lg_entry_eq]
  generalize (lg_sl ([.ref (am 0)]) ++ List.replicate (3 - (lg_sl ([.ref (am 0)])).length) Slot.unset).toArray = ls at hl ⊢
  have hl : lv_has ls 3 [(0, .ref (am 0))] := hl
  have fin : ∀ g : Int32, ac_it (fun j => ti_it fD fW (nI j) d 0 0) fM 1024 0 1 = g → ∀ ls, lv_has ls 3 [(1, .int g), (0, .ref (am 0))] → W p l e (headSpec wsX1_accept (rmN 2 0 0)).room s m ([.ref (am 0)] : List Value).toArray below meth c s.heap [] 0 0 (MQ below (va_Qi (fun (r : Int32) (u : MS) => r = ct + 1 - 1 ∧ u = ad_S n d (co, ct, th, fo + 1, sg + (if ac_it (fun j => ti_it fD fW (nI j) d 0 0) fM 1024 0 1 = 0 then 1 else 0), sz, hc, fL, fN, fD, fH, fV, fM, fW)) (atM dC dI A am ym) A) ([.ref (am 0)] : List Value).toArray s 0 0 A) (F0 m 59 ls []) := by
    intro g hq ls hl
    rw [hq]
    refine lv_aload_n hx hb dX1_accept_59 rfl (lv_at hl 1 rfl) ?_
    refine lv_dup hx hb dX1_accept_60 rfl ?_
    refine va_get (D := (dC, dI)) (ci := 1) (v := .int sg) (C := RX1) (T := TX1) (N := 14) hx hb hw inX1 hown hK hP 0 rfl rfl 4 (by decide) (hw _ wb_272) (fun _ h9 => h9) rfl dX1_accept_61 ?_
    refine lv_iload_n hx hb dX1_accept_64 rfl (lv_at hl 0 rfl) ?_
    refine lv_if_eq (tgt := 72) hx hb dX1_accept_65 (by decide) (fun c1 => ?_) (fun c1 => ?_)
    · skip
      rw [if_pos c1]
      refine lv_iconst (v := 1) hx hb dX1_accept_72 (by decide) ?_
      refine lv_iadd hx hb dX1_accept_73 ?_
      refine va_put (D := (dC, dI)) (ci := 1) (v := .int (sg + 1)) (ty := .int) (C := RX1) (T := TX1) (N := 14) hx hb hw inX1 tyX1 tyX1_ok nmX1 hown hK hP hD hS 0 rfl rfl 4 (by decide) (hw _ wb_272) (fun _ h9 => h9) rfl (by decide +kernel) rfl rfl (Nat.le_of_ble_eq_true rfl) dX1_accept_74 (fun H locs hP hD hS => ?_)
      have hP : va_P (dC, dI) cls2 (MW am ym (co, ct, th, fo, sg + 1, sz, hc, fL, fN, fD, fH, fV, fM, fW)) H := hP
      have hD : va_D A (MW am ym (co, ct, th, fo, sg + 1, sz, hc, fL, fN, fD, fH, fV, fM, fW)) := hD
      refine lv_aload_n hx hb dX1_accept_77 rfl (lv_at hl 1 rfl) ?_
      refine lv_dup hx hb dX1_accept_78 rfl ?_
      refine va_get (D := (dC, dI)) (ci := 1) (v := .int fo) (C := RX1) (T := TX1) (N := 14) hx hb hw inX1 hown hK hP 0 rfl rfl 3 (by decide) (hw _ wb_271) (fun _ h9 => h9) rfl dX1_accept_79 ?_
      refine lv_iconst (v := 1) hx hb dX1_accept_82 (by decide) ?_
      refine lv_iadd hx hb dX1_accept_83 ?_
      refine va_put (D := (dC, dI)) (ci := 1) (v := .int (fo + 1)) (ty := .int) (C := RX1) (T := TX1) (N := 14) hx hb hw inX1 tyX1 tyX1_ok nmX1 hown hK hP hD hS 0 rfl rfl 3 (by decide) (hw _ wb_271) (fun _ h9 => h9) rfl (by decide +kernel) rfl rfl (Nat.le_of_ble_eq_true rfl) dX1_accept_84 (fun H locs hP hD hS => ?_)
      have hP : va_P (dC, dI) cls2 (MW am ym (co, ct, th, fo + 1, sg + 1, sz, hc, fL, fN, fD, fH, fV, fM, fW)) H := hP
      have hD : va_D A (MW am ym (co, ct, th, fo + 1, sg + 1, sz, hc, fL, fN, fD, fH, fV, fM, fW)) := hD
      refine lv_aload_n hx hb dX1_accept_87 rfl (lv_at hl 1 rfl) ?_
      have hFc := va_free (wc := MW am ym (co, ct, th, fo + 1, sg + 1, sz, hc, fL, fN, fD, fH, fV, fM, fW)) hD hS hA [0, 1, 2, 3, 4, 5, 6, 7] rfl
      refine va_calli (va_runV (As := []) (rest := []) ⟨hx, hb, hml, hown, hw⟩ (n_add l dC dI am ym H.size co ct th (fo + 1) (sg + 1) sz hc fL fN fD fH fV fM fW n hn ect d hd esz) (cwV 0 hw (gw_V wb_339 wb_341 wbs_9 wb_2 wb_342) rfl rfl rfl (by decide +kernel) ⟨Nat.le_of_ble_eq_true rfl, Nat.le_of_ble_eq_true rfl⟩) ⟨blind_preM, va_recv hK hP (ci := 1) (q0 := 0) rfl rfl, fun U hU hW => ⟨rfl, by rw [hU], by rw [hU]; exact hP, va_K.moved hW.alike hK, hD.weaken (fun _ _ _ _ => trivial)⟩⟩ rfl rfl hl.1 rfl (lv_room (Nat.le_of_ble_eq_true rfl)) dX1_accept_88 ⟨Nat.le_of_ble_eq_true rfl, Nat.le_of_ble_eq_true rfl⟩) hS (fun q _ h => hFc q h) hFc (fun r1 u t H1 locs ht hvm hq hB hz1 hk1 hS => ?_)
      obtain ⟨hr1, rfl⟩ := hq
      obtain ⟨hP1, hK1, hD1⟩ := hB
      rw [ht] at hP1
      have hP : va_P (dC, dI) cls2 (MW am ym (co, ct + 1, th + 1, fo + 1, sg + 1, 0, hc, ad_it fD n d 0 fL, upd fN n sz, fD, fH, fV, fM, fW)) H1 := hP1
      have hD : va_D A (MW am ym (co, ct + 1, th + 1, fo + 1, sg + 1, 0, hc, ad_it fD n d 0 fL, upd fN n sz, fD, fH, fV, fM, fW)) := hD1.weaken (fun k q h _ => hFc q.1 (hD1.2 k q h))
      generalize H1 = H at hP hS ⊢
      exact W.iret (v := r1) hx hb hrt (fun t ht hW => ⟨⟨_, _, rfl, ⟨hr1, rfl⟩, by rw [ht]; exact hP, va_K.moved hW.alike hK, hD⟩, hS.F ht⟩) hS.2.2 dX1_accept_91
    · skip
      rw [if_neg c1]
      refine lv_iconst (v := 0) hx hb dX1_accept_68 (by decide) ?_
      refine lv_goto (tgt := 73) hx hb dX1_accept_69 (by decide) ?_
      refine lv_iadd hx hb dX1_accept_73 ?_
      refine va_put (D := (dC, dI)) (ci := 1) (v := .int (sg + 0)) (ty := .int) (C := RX1) (T := TX1) (N := 14) hx hb hw inX1 tyX1 tyX1_ok nmX1 hown hK hP hD hS 0 rfl rfl 4 (by decide) (hw _ wb_272) (fun _ h9 => h9) rfl (by decide +kernel) rfl rfl (Nat.le_of_ble_eq_true rfl) dX1_accept_74 (fun H locs hP hD hS => ?_)
      have hP : va_P (dC, dI) cls2 (MW am ym (co, ct, th, fo, sg + 0, sz, hc, fL, fN, fD, fH, fV, fM, fW)) H := hP
      have hD : va_D A (MW am ym (co, ct, th, fo, sg + 0, sz, hc, fL, fN, fD, fH, fV, fM, fW)) := hD
      refine lv_aload_n hx hb dX1_accept_77 rfl (lv_at hl 1 rfl) ?_
      refine lv_dup hx hb dX1_accept_78 rfl ?_
      refine va_get (D := (dC, dI)) (ci := 1) (v := .int fo) (C := RX1) (T := TX1) (N := 14) hx hb hw inX1 hown hK hP 0 rfl rfl 3 (by decide) (hw _ wb_271) (fun _ h9 => h9) rfl dX1_accept_79 ?_
      refine lv_iconst (v := 1) hx hb dX1_accept_82 (by decide) ?_
      refine lv_iadd hx hb dX1_accept_83 ?_
      refine va_put (D := (dC, dI)) (ci := 1) (v := .int (fo + 1)) (ty := .int) (C := RX1) (T := TX1) (N := 14) hx hb hw inX1 tyX1 tyX1_ok nmX1 hown hK hP hD hS 0 rfl rfl 3 (by decide) (hw _ wb_271) (fun _ h9 => h9) rfl (by decide +kernel) rfl rfl (Nat.le_of_ble_eq_true rfl) dX1_accept_84 (fun H locs hP hD hS => ?_)
      have hP : va_P (dC, dI) cls2 (MW am ym (co, ct, th, fo + 1, sg + 0, sz, hc, fL, fN, fD, fH, fV, fM, fW)) H := hP
      have hD : va_D A (MW am ym (co, ct, th, fo + 1, sg + 0, sz, hc, fL, fN, fD, fH, fV, fM, fW)) := hD
      refine lv_aload_n hx hb dX1_accept_87 rfl (lv_at hl 1 rfl) ?_
      have hFc := va_free (wc := MW am ym (co, ct, th, fo + 1, sg + 0, sz, hc, fL, fN, fD, fH, fV, fM, fW)) hD hS hA [0, 1, 2, 3, 4, 5, 6, 7] rfl
      refine va_calli (va_runV (As := []) (rest := []) ⟨hx, hb, hml, hown, hw⟩ (n_add l dC dI am ym H.size co ct th (fo + 1) (sg + 0) sz hc fL fN fD fH fV fM fW n hn ect d hd esz) (cwV 0 hw (gw_V wb_339 wb_341 wbs_9 wb_2 wb_342) rfl rfl rfl (by decide +kernel) ⟨Nat.le_of_ble_eq_true rfl, Nat.le_of_ble_eq_true rfl⟩) ⟨blind_preM, va_recv hK hP (ci := 1) (q0 := 0) rfl rfl, fun U hU hW => ⟨rfl, by rw [hU], by rw [hU]; exact hP, va_K.moved hW.alike hK, hD.weaken (fun _ _ _ _ => trivial)⟩⟩ rfl rfl hl.1 rfl (lv_room (Nat.le_of_ble_eq_true rfl)) dX1_accept_88 ⟨Nat.le_of_ble_eq_true rfl, Nat.le_of_ble_eq_true rfl⟩) hS (fun q _ h => hFc q h) hFc (fun r1 u t H1 locs ht hvm hq hB hz1 hk1 hS => ?_)
      obtain ⟨hr1, rfl⟩ := hq
      obtain ⟨hP1, hK1, hD1⟩ := hB
      rw [ht] at hP1
      have hP : va_P (dC, dI) cls2 (MW am ym (co, ct + 1, th + 1, fo + 1, sg + 0, 0, hc, ad_it fD n d 0 fL, upd fN n sz, fD, fH, fV, fM, fW)) H1 := hP1
      have hD : va_D A (MW am ym (co, ct + 1, th + 1, fo + 1, sg + 0, 0, hc, ad_it fD n d 0 fL, upd fN n sz, fD, fH, fV, fM, fW)) := hD1.weaken (fun k q h _ => hFc q.1 (hD1.2 k q h))
      generalize H1 = H at hP hS ⊢
      exact W.iret (v := r1) hx hb hrt (fun t ht hW => ⟨⟨_, _, rfl, ⟨hr1, rfl⟩, by rw [ht]; exact hP, va_K.moved hW.alike hK, hD⟩, hS.F ht⟩) hS.2.2 dX1_accept_91
  have loop : ∀ (a i : Nat) (g : Int32), i + a = 1024 → ac_it (fun j => ti_it fD fW (nI j) d 0 0) fM 1024 0 1 = ac_it (fun j => ti_it fD fW (nI j) d 0 0) fM a i g → ∀ ls, lv_has ls 3 [(2, .int (nI i)), (1, .int g), (0, .ref (am 0))] → W p l e (headSpec wsX1_accept (rmN 2 0 0)).room s m ([.ref (am 0)] : List Value).toArray below meth c s.heap [] 0 0 (MQ below (va_Qi (fun (r : Int32) (u : MS) => r = ct + 1 - 1 ∧ u = ad_S n d (co, ct, th, fo + 1, sg + (if ac_it (fun j => ti_it fD fW (nI j) d 0 0) fM 1024 0 1 = 0 then 1 else 0), sz, hc, fL, fN, fD, fH, fV, fM, fW)) (atM dC dI A am ym) A) ([.ref (am 0)] : List Value).toArray s 0 0 A) (F0 m 4 ls []) := by
    intro a
    induction a with
    | zero =>
      intro i g hk hq ls hl
      have e0 : i = 1024 := by omega
      subst e0
      refine lv_iload_n hx hb dX1_accept_4 rfl (lv_at hl 0 rfl) ?_
      refine lv_sipush (v := 1024) hx hb dX1_accept_5 (by decide) ?_
      refine lv_icmp_ge (tgt := 59) hx hb dX1_accept_8 (by decide) (fun c1 => ?_) (fun c1 => ?_)
      · skip
        exact fin g hq ls (lv_sub hl [1, 2] rfl)
      · skip
        exact absurd (by decide) c1
    | succ a ih =>
      intro i g hk hq ls hl
      have ci : (nI i).toNatClampNeg = i := nI_clamp (by omega)
      have hin : vp_in (nI i) 1024 := vp_in_nI (by omega) (by decide)
      refine lv_iload_n hx hb dX1_accept_4 rfl (lv_at hl 0 rfl) ?_
      refine lv_sipush (v := 1024) hx hb dX1_accept_5 (by decide) ?_
      refine lv_icmp_ge (tgt := 59) hx hb dX1_accept_8 (by decide) (fun c1 => ?_) (fun c1 => ?_)
      · skip
        exact absurd (show nI 1024 ≤ nI i from c1) (nI_ge (by omega) (by omega))
      · skip
        refine lv_iload_n hx hb dX1_accept_11 rfl (lv_at hl 1 rfl) ?_
        refine lv_if_eq (tgt := 59) hx hb dX1_accept_12 (by decide) (fun c2 => ?_) (fun c2 => ?_)
        · skip
          exact fin g (by rw [hq, c2]; rfl) ls (lv_sub hl [1, 2] rfl)
        · skip
          refine lv_aload_n hx hb dX1_accept_15 rfl (lv_at hl 2 rfl) ?_
          refine va_get (D := (dC, dI)) (ci := 1) (v := .ref (am 6)) (C := RX1) (T := TX1) (N := 14) hx hb hw inX1 hown hK hP 0 rfl rfl 12 (by decide) (hw _ wb_280) (fun _ h9 => h9) rfl dX1_accept_16 ?_
          refine lv_iload_n hx hb dX1_accept_19 rfl (lv_at hl 0 rfl) ?_
          refine va_lald hx hb hK hP 6 5 rfl rfl hin dX1_accept_20 ?_
          refine lv_lconst (v := 0) hx hb dX1_accept_21 (by decide) ?_
          refine W.lcmp hx hb dX1_accept_22 ?_
          rw [ci]
          refine lv_if_eq (tgt := 47) hx hb dX1_accept_23 (by decide) (fun c3 => ?_) (fun c3 => ?_)
          · skip
            have c3 : fM i = 0 := (lg_cmp_eq _ _).mp c3
            have es : ac_it (fun j => ti_it fD fW (nI j) d 0 0) fM (a + 1) i g = ac_it (fun j => ti_it fD fW (nI j) d 0 0) fM a (i + 1) 1 := (if_neg c2).trans (by rw [if_pos (Or.inl c3)])
            refine lv_iconst (v := 1) hx hb dX1_accept_47 (by decide) ?_
            refine lv_goto (tgt := 52) hx hb dX1_accept_48 (by decide) ?_
            refine lv_istore_n (lv' := [(1, .int 1), (2, .int (nI i)), (0, .ref (am 0))]) hx hb dX1_accept_52 rfl hl (by decide) rfl (fun ls hl => ?_)
            refine lv_iinc (v := (nI i) + 1) (lv' := [(2, .int ((nI i) + 1)), (1, .int 1), (0, .ref (am 0))]) hx hb dX1_accept_53 hl (k := 1) rfl rfl (by decide) rfl (fun ls hl => ?_)
            refine lv_goto (tgt := 4) hx hb dX1_accept_56 (by decide) ?_
            rw [nI_1] at hl
            exact ih (i + 1) 1 (by omega) (hq.trans es) ls (lv_sub hl [0, 1, 2] rfl)
          · skip
            have c3 : ¬ fM i = 0 := fun h => c3 ((lg_cmp_eq _ _).mpr h)
            refine lv_aload_n hx hb dX1_accept_26 rfl (lv_at hl 2 rfl) ?_
            refine va_get (D := (dC, dI)) (ci := 1) (v := .ref (am 6)) (C := RX1) (T := TX1) (N := 14) hx hb hw inX1 hown hK hP 0 rfl rfl 12 (by decide) (hw _ wb_280) (fun _ h9 => h9) rfl dX1_accept_27 ?_
            refine lv_iload_n hx hb dX1_accept_30 rfl (lv_at hl 0 rfl) ?_
            refine va_lald hx hb hK hP 6 5 rfl rfl hin dX1_accept_31 ?_
            rw [ci]
            refine lv_aload_n hx hb dX1_accept_32 rfl (lv_at hl 2 rfl) ?_
            refine lv_iload_n hx hb dX1_accept_33 rfl (lv_at hl 0 rfl) ?_
            refine vp_callSl (W.runV (As := [.int (nI i)]) (rest := [.long (fM i)]) ⟨hx, hb, hml, hown, hw⟩ (n_trueIn l dC dI am ym co ct th fo sg sz hc fL fN fD fH fV fM fW (nI i) d hd esz hR) (cwV 1 hw (gw_V wb_331 wb_333 wbs_7 wb_2 wb_334) rfl rfl rfl (by decide +kernel) ⟨Nat.le_of_ble_eq_true rfl, Nat.le_of_ble_eq_true rfl⟩) ⟨blind_rdM, va_recv hK hP (ci := 1) (q0 := 0) rfl rfl, fun U hU hW => ⟨rfl, by rw [hU]; exact hP, va_K.moved hW.alike hK⟩⟩ rfl rfl hl.1 rfl (lv_room (Nat.le_of_ble_eq_true rfl)) dX1_accept_34 ⟨Nat.le_of_ble_eq_true rfl, Nat.le_of_ble_eq_true rfl⟩) (fun r1 h1 => ?_)
            subst h1
            refine lv_ldc2 (v := (-1)) hx hb hown (hw _ wb_267) dX1_accept_37 ?_
            refine lv_lxor hx hb dX1_accept_40 ?_
            refine lv_land hx hb dX1_accept_41 ?_
            refine lv_lconst (v := 0) hx hb dX1_accept_42 (by decide) ?_
            refine W.lcmp hx hb dX1_accept_43 ?_
            refine lv_if_ne (tgt := 51) hx hb dX1_accept_44 (by decide) (fun c4 => ?_) (fun c4 => ?_)
            · skip
              have c4 : ¬ fM i &&& (ti_it fD fW (nI i) d 0 0 ^^^ (-1)) = 0 := fun h => c4 ((lg_cmp_eq _ _).mpr h)
              have es : ac_it (fun j => ti_it fD fW (nI j) d 0 0) fM (a + 1) i g = ac_it (fun j => ti_it fD fW (nI j) d 0 0) fM a (i + 1) 0 := (if_neg c2).trans (by rw [if_neg (fun h => h.elim c3 c4)])
              refine lv_iconst (v := 0) hx hb dX1_accept_51 (by decide) ?_
              refine lv_istore_n (lv' := [(1, .int 0), (2, .int (nI i)), (0, .ref (am 0))]) hx hb dX1_accept_52 rfl hl (by decide) rfl (fun ls hl => ?_)
              refine lv_iinc (v := (nI i) + 1) (lv' := [(2, .int ((nI i) + 1)), (1, .int 0), (0, .ref (am 0))]) hx hb dX1_accept_53 hl (k := 1) rfl rfl (by decide) rfl (fun ls hl => ?_)
              refine lv_goto (tgt := 4) hx hb dX1_accept_56 (by decide) ?_
              rw [nI_1] at hl
              exact ih (i + 1) 0 (by omega) (hq.trans es) ls (lv_sub hl [0, 1, 2] rfl)
            · skip
              have c4 : fM i &&& (ti_it fD fW (nI i) d 0 0 ^^^ (-1)) = 0 := (lg_cmp_eq _ _).mp c4
              have es : ac_it (fun j => ti_it fD fW (nI j) d 0 0) fM (a + 1) i g = ac_it (fun j => ti_it fD fW (nI j) d 0 0) fM a (i + 1) 1 := (if_neg c2).trans (by rw [if_pos (Or.inr c4)])
              refine lv_iconst (v := 1) hx hb dX1_accept_47 (by decide) ?_
              refine lv_goto (tgt := 52) hx hb dX1_accept_48 (by decide) ?_
              refine lv_istore_n (lv' := [(1, .int 1), (2, .int (nI i)), (0, .ref (am 0))]) hx hb dX1_accept_52 rfl hl (by decide) rfl (fun ls hl => ?_)
              refine lv_iinc (v := (nI i) + 1) (lv' := [(2, .int ((nI i) + 1)), (1, .int 1), (0, .ref (am 0))]) hx hb dX1_accept_53 hl (k := 1) rfl rfl (by decide) rfl (fun ls hl => ?_)
              refine lv_goto (tgt := 4) hx hb dX1_accept_56 (by decide) ?_
              rw [nI_1] at hl
              exact ih (i + 1) 1 (by omega) (hq.trans es) ls (lv_sub hl [0, 1, 2] rfl)
  refine lv_iconst (v := 1) hx hb dX1_accept_0 (by decide) ?_
  refine lv_istore_n (lv' := [(1, .int 1), (0, .ref (am 0))]) hx hb dX1_accept_1 rfl hl (by decide) rfl (fun ls hl => ?_)
  refine lv_iconst (v := 0) hx hb dX1_accept_2 (by decide) ?_
  refine lv_istore_n (lv' := [(2, .int 0), (1, .int 1), (0, .ref (am 0))]) hx hb dX1_accept_3 rfl hl (by decide) rfl (fun ls hl => ?_)
  exact loop 1024 0 1 rfl rfl ls hl
set_option maxHeartbeats 4000000 in
set_option maxRecDepth 100000 in
/-- setOut -/
theorem n_setOut (l : Launch) (dC : Nat → ClassId) (dI : Nat → Nat → Nat) (am : Nat → Nat) (ym : Nat → ClassId) (sz0 : Nat) (co ct th fo sg sz hc : Int32) (fL fN fD fH fV : Nat → Int32) (fM fW : Nat → Int64)  (d : Nat) (hd : d ≤ 16) (esz : sz = nI d) (hR : ∀ j, j < d → rng (fD j)) : Met l yX1_setOut wsX1_setOut (rmN 1 0 0) (va_Pc [.ref (am 0)] (preM dC dI am ym sz0 (co, ct, th, fo, sg, sz, hc, fL, fN, fD, fH, fV, fM, fW))) (va_Qv (fun (u : MS) => u = (co, ct, th, fo, sg, sz, hc, fL, fN, fD, fH, so_it fD d 0 (zv_it 17 0 fV), fM, fW)) (atM dC dI (va_A (MW am ym (co, ct, th, fo, sg, sz, hc, fL, fN, fD, fH, fV, fM, fW)) sz0) am ym) (va_A (MW am ym (co, ct, th, fo, sg, sz, hc, fL, fN, fD, fH, fV, fM, fW)) sz0)) 0 0 (va_A (MW am ym (co, ct, th, fo, sg, sz, hc, fL, fN, fD, fH, fV, fM, fW)) sz0) := by
  refine Met.ofW (cc := cX1_setOut) (maxL := 2) (ret := none) (by decide) rfl ?_
  intro p e s m args below meth c s₁ B hml hv
  obtain ⟨rfl, hsz, hP, hK, hD0⟩ := hv
  have hx := B.exec
  have hb := B.bytes
  have hrt := B.returns
  have hlocks := B.notSynchronized
  have hts := atoms_spec (ws := wsX1_setOut) B.pre
  have hw : ∀ w ∈ WB, w.before ([.ref (am 0)] : List Value).toArray s = true := fun w h => hts w (List.mem_cons_of_mem _ h)
  have hown : s.vm.findClass "ProofBenchModel" = some m.cls := findClass_of_methodNamed B.named
  subst hsz
  have hD := hD0.self (sz := s.heap.size)
  generalize hAe : va_A (MW am ym (co, ct, th, fo, sg, sz, hc, fL, fN, fD, fH, fV, fM, fW)) s.heap.size = A at hD ⊢
  have hA : ∀ q : Nat, s.heap.size ≤ q → A q := fun q h => by rw [← hAe]; exact Or.inr h
  have hS : va_S A s.heap s.heap [] := va_S.rf
  have hP : va_P (dC, dI) cls2 (MW am ym (co, ct, th, fo, sg, sz, hc, fL, fN, fD, fH, fV, fM, fW)) s.heap := hP
  have hl := lv_entry ([.ref (am 0)]) (n := 2) (Nat.le_of_ble_eq_true rfl)
  rw [lg_entry_eq]
  generalize (lg_sl ([.ref (am 0)]) ++ List.replicate (2 - (lg_sl ([.ref (am 0)])).length) Slot.unset).toArray = ls at hl ⊢
  have hl : lv_has ls 2 [(0, .ref (am 0))] := hl
  have loop2 : ∀ (a i : Nat) (f : Nat → Int32) (H : Heap) (locs : List Loc), i + a = d → so_it fD d 0 (zv_it 17 0 fV) = so_it fD a i f → va_P (dC, dI) cls2 (MW am ym (co, ct, th, fo, sg, sz, hc, fL, fN, fD, fH, f, fM, fW)) H → va_D A (MW am ym (co, ct, th, fo, sg, sz, hc, fL, fN, fD, fH, f, fM, fW)) → va_S A s.heap H locs → ∀ ls, lv_has ls 2 [(1, .int (nI i)), (0, .ref (am 0))] → W p l e (headSpec wsX1_setOut (rmN 1 0 0)).room s m ([.ref (am 0)] : List Value).toArray below meth c H locs 0 0 (MQ below (va_Qv (fun (u : MS) => u = (co, ct, th, fo, sg, sz, hc, fL, fN, fD, fH, so_it fD d 0 (zv_it 17 0 fV), fM, fW)) (atM dC dI A am ym) A) ([.ref (am 0)] : List Value).toArray s 0 0 A) (F0 m 23 ls []) := by
    intro a
    induction a with
    | zero =>
      intro i f H locs hk hq hP hD hS ls hl
      have e0 : i = d := by omega
      refine lv_iload_n hx hb dX1_setOut_23 rfl (lv_at hl 0 rfl) ?_
      refine lv_aload_n hx hb dX1_setOut_24 rfl (lv_at hl 1 rfl) ?_
      refine va_get (D := (dC, dI)) (ci := 1) (v := .int sz) (C := RX1) (T := TX1) (N := 14) hx hb hw inX1 hown hK hP 0 rfl rfl 7 (by decide) (hw _ wb_275) (fun _ h9 => h9) rfl dX1_setOut_25 ?_
      refine lv_icmp_ge (tgt := 48) hx hb dX1_setOut_28 (by decide) (fun c1 => ?_) (fun c1 => ?_)
      · skip
        exact W.vret hx hb hrt (fun t ht hW => ⟨⟨_, rfl, by rw [hq]; rfl, by rw [ht]; exact hP, va_K.moved hW.alike hK, hD⟩, hS.F ht⟩) hS.2.2 dX1_setOut_48
      · skip
        exact absurd (by rw [esz, e0]; exact Int32.le_refl _) c1
    | succ a ih =>
      intro i f H locs hk hq hP hD hS ls hl
      have ci : (nI i).toNatClampNeg = i := nI_clamp (by omega)
      refine lv_iload_n hx hb dX1_setOut_23 rfl (lv_at hl 0 rfl) ?_
      refine lv_aload_n hx hb dX1_setOut_24 rfl (lv_at hl 1 rfl) ?_
      refine va_get (D := (dC, dI)) (ci := 1) (v := .int sz) (C := RX1) (T := TX1) (N := 14) hx hb hw inX1 hown hK hP 0 rfl rfl 7 (by decide) (hw _ wb_275) (fun _ h9 => h9) rfl dX1_setOut_25 ?_
      refine lv_icmp_ge (tgt := 48) hx hb dX1_setOut_28 (by decide) (fun c1 => ?_) (fun c1 => ?_)
      · skip
        exact absurd (by rw [esz] at c1; exact c1) (nI_ge (by omega) (by omega))
      · skip
        refine lv_aload_n hx hb dX1_setOut_31 rfl (lv_at hl 1 rfl) ?_
        refine lv_aload_n hx hb dX1_setOut_32 rfl (lv_at hl 1 rfl) ?_
        refine va_get (D := (dC, dI)) (ci := 1) (v := .ref (am 3)) (C := RX1) (T := TX1) (N := 14) hx hb hw inX1 hown hK hP 0 rfl rfl 8 (by decide) (hw _ wb_276) (fun _ h9 => h9) rfl dX1_setOut_33 ?_
        refine lv_iload_n hx hb dX1_setOut_36 rfl (lv_at hl 0 rfl) ?_
        refine va_iald hx hb hK hP 3 2 rfl rfl (vp_in_nI (by omega) (by decide)) dX1_setOut_37 ?_
        rw [ci]
        refine lv_ineg hx hb dX1_setOut_38 ?_
        have hFc := va_free (wc := MW am ym (co, ct, th, fo, sg, sz, hc, fL, fN, fD, fH, f, fM, fW)) hD hS hA [0, 1, 2, 3, 4, 5, 6, 7] rfl
        refine va_callv (va_runV (As := [.int (-(fD i))]) (rest := []) ⟨hx, hb, hml, hown, hw⟩ (n_tell l dC dI am ym H.size co ct th fo sg sz hc fL fN fD fH f fM fW (-fD i) (rng_neg (hR i (by omega))).1 (rng_neg (hR i (by omega))).2) (cwV 1 hw (gw_V wb_355 wb_357 wbs_12 wb_2 wb_358) rfl rfl rfl (by decide +kernel) ⟨Nat.le_of_ble_eq_true rfl, Nat.le_of_ble_eq_true rfl⟩) ⟨blind_preM, va_recv hK hP (ci := 1) (q0 := 0) rfl rfl, fun U hU hW => ⟨rfl, by rw [hU], by rw [hU]; exact hP, va_K.moved hW.alike hK, hD.weaken (fun _ _ _ _ => trivial)⟩⟩ rfl rfl hl.1 rfl (lv_room (Nat.le_of_ble_eq_true rfl)) dX1_setOut_39 ⟨Nat.le_of_ble_eq_true rfl, Nat.le_of_ble_eq_true rfl⟩) hS (fun q _ h => hFc q h) hFc (fun u t H1 locs ht hvm hq hB hz1 hk1 hS => ?_)
        obtain rfl := hq
        obtain ⟨hP1, hK1, hD1⟩ := hB
        rw [ht] at hP1
        have hP : va_P (dC, dI) cls2 (MW am ym (co, ct, th, fo, sg, sz, hc, fL, fN, fD, fH, tell_v f (-fD i), fM, fW)) H1 := hP1
        have hD : va_D A (MW am ym (co, ct, th, fo, sg, sz, hc, fL, fN, fD, fH, tell_v f (-fD i), fM, fW)) := hD1.weaken (fun k q h _ => hFc q.1 (hD1.2 k q h))
        generalize H1 = H at hP hS ⊢
        refine lv_iinc (v := (nI i) + 1) (lv' := [(1, .int ((nI i) + 1)), (0, .ref (am 0))]) hx hb dX1_setOut_42 hl (k := 0) rfl rfl (by decide) rfl (fun ls hl => ?_)
        refine lv_goto (tgt := 23) hx hb dX1_setOut_45 (by decide) ?_
        rw [nI_1] at hl
        exact ih (i + 1) _ H _ (by omega) hq hP hD hS ls hl
  have loop1 : ∀ (a i : Nat) (f : Nat → Int32) (H : Heap) (locs : List Loc), i + a = 17 → zv_it 17 0 fV = zv_it a i f → va_P (dC, dI) cls2 (MW am ym (co, ct, th, fo, sg, sz, hc, fL, fN, fD, fH, f, fM, fW)) H → va_D A (MW am ym (co, ct, th, fo, sg, sz, hc, fL, fN, fD, fH, f, fM, fW)) → va_S A s.heap H locs → ∀ ls, lv_has ls 2 [(1, .int (nI i)), (0, .ref (am 0))] → W p l e (headSpec wsX1_setOut (rmN 1 0 0)).room s m ([.ref (am 0)] : List Value).toArray below meth c H locs 0 0 (MQ below (va_Qv (fun (u : MS) => u = (co, ct, th, fo, sg, sz, hc, fL, fN, fD, fH, so_it fD d 0 (zv_it 17 0 fV), fM, fW)) (atM dC dI A am ym) A) ([.ref (am 0)] : List Value).toArray s 0 0 A) (F0 m 2 ls []) := by
    intro a
    induction a with
    | zero =>
      intro i f H locs hk hq hP hD hS ls hl
      have e0 : i = 17 := by omega
      subst e0
      refine lv_iload_n hx hb dX1_setOut_2 rfl (lv_at hl 0 rfl) ?_
      refine lv_bipush (v := 16) hx hb dX1_setOut_3 (by decide) ?_
      refine lv_icmp_gt (tgt := 21) hx hb dX1_setOut_5 (by decide) (fun c1 => ?_) (fun c1 => ?_)
      · skip
        refine lv_iconst (v := 0) hx hb dX1_setOut_21 (by decide) ?_
        refine lv_istore_n (lv' := [(1, .int 0), (0, .ref (am 0))]) hx hb dX1_setOut_22 rfl hl (by decide) rfl (fun ls hl => ?_)
        exact loop2 d 0 f H _ (by omega) (by rw [hq]; rfl) hP hD hS ls hl
      · skip
        exact absurd (by decide) c1
    | succ a ih =>
      intro i f H locs hk hq hP hD hS ls hl
      have ci : (nI i).toNatClampNeg = i := nI_clamp (by omega)
      refine lv_iload_n hx hb dX1_setOut_2 rfl (lv_at hl 0 rfl) ?_
      refine lv_bipush (v := 16) hx hb dX1_setOut_3 (by decide) ?_
      refine lv_icmp_gt (tgt := 21) hx hb dX1_setOut_5 (by decide) (fun c1 => ?_) (fun c1 => ?_)
      · skip
        exact absurd (show nI 16 < nI i from c1) (nI_nlt (by omega) (by omega))
      · skip
        refine lv_aload_n hx hb dX1_setOut_8 rfl (lv_at hl 1 rfl) ?_
        refine va_get (D := (dC, dI)) (ci := 1) (v := .ref (am 5)) (C := RX1) (T := TX1) (N := 14) hx hb hw inX1 hown hK hP 0 rfl rfl 11 (by decide) (hw _ wb_279) (fun _ h9 => h9) rfl dX1_setOut_9 ?_
        refine lv_iload_n hx hb dX1_setOut_12 rfl (lv_at hl 0 rfl) ?_
        refine lv_iconst (v := 0) hx hb dX1_setOut_13 (by decide) ?_
        refine va_iast hx hb hK hP hD hS 5 4 rfl rfl (vp_in_nI (by omega) (by decide)) dX1_setOut_14 (fun H locs hP hD hS => ?_)
        have hP : va_P (dC, dI) cls2 (MW am ym (co, ct, th, fo, sg, sz, hc, fL, fN, fD, fH, upd f (nI i).toNatClampNeg 0, fM, fW)) H := hP
        have hD : va_D A (MW am ym (co, ct, th, fo, sg, sz, hc, fL, fN, fD, fH, upd f (nI i).toNatClampNeg 0, fM, fW)) := hD
        rw [ci] at hP hD
        refine lv_iinc (v := (nI i) + 1) (lv' := [(1, .int ((nI i) + 1)), (0, .ref (am 0))]) hx hb dX1_setOut_15 hl (k := 0) rfl rfl (by decide) rfl (fun ls hl => ?_)
        refine lv_goto (tgt := 2) hx hb dX1_setOut_18 (by decide) ?_
        rw [nI_1] at hl
        exact ih (i + 1) _ H _ (by omega) hq hP hD hS ls hl
  refine lv_iconst (v := 0) hx hb dX1_setOut_0 (by decide) ?_
  refine lv_istore_n (lv' := [(1, .int 0), (0, .ref (am 0))]) hx hb dX1_setOut_1 rfl hl (by decide) rfl (fun ls hl => ?_)
  exact loop1 17 0 fV s.heap [] rfl rfl hP hD hS ls hl
set_option maxHeartbeats 4000000 in
set_option maxRecDepth 100000 in
/-- says -/
theorem n_says (l : Launch) (dC : Nat → ClassId) (dI : Nat → Nat → Nat) (am : Nat → Nat) (ym : Nat → ClassId) (co ct th fo sg sz hc : Int32) (fL fN fD fH fV : Nat → Int32) (fM fW : Nat → Int64) (k : Int32) (q : Nat) (hq6 : q < 600) (ek : k = nI q) (z : Nat) (hz : z ≤ 16) (ez : fN q = nI z) (hR : ∀ j, j < z → rng (fL (16 * q + j))) : Met l yX1_says wsX1_says (rmN 1 0 0) (va_Pc [.ref (am 0), .int k] (rdM dC dI am ym (co, ct, th, fo, sg, sz, hc, fL, fN, fD, fH, fV, fM, fW))) (vp_Si (fun r => r = sy_it fL fV z (16 * q) 0 0)) 0 0 (fun _ => False) := by
  refine Met.ofW (cc := cX1_says) (maxL := 5) (ret := (some .int)) (by decide) rfl ?_
  intro p e s m args below meth c s₁ B hml hv
  obtain ⟨rfl, hP, hK⟩ := hv
  have hx := B.exec
  have hb := B.bytes
  have hrt := B.returns
  have hlocks := B.notSynchronized
  have hts := atoms_spec (ws := wsX1_says) B.pre
  have hw : ∀ w ∈ WB, w.before ([.ref (am 0), .int k] : List Value).toArray s = true := fun w h => hts w (List.mem_cons_of_mem _ h)
  have hown : s.vm.findClass "ProofBenchModel" = some m.cls := findClass_of_methodNamed B.named
  have hP : va_P (dC, dI) cls2 (MW am ym (co, ct, th, fo, sg, sz, hc, fL, fN, fD, fH, fV, fM, fW)) s.heap := hP
  have hl := lv_entry ([.ref (am 0), .int k]) (n := 5) (Nat.le_of_ble_eq_true rfl)
  rw [lg_entry_eq]
  generalize (lg_sl ([.ref (am 0), .int k]) ++ List.replicate (5 - (lg_sl ([.ref (am 0), .int k])).length) Slot.unset).toArray = ls at hl ⊢
  have hl : lv_has ls 5 [(0, .ref (am 0)), (1, .int k)] := hl
  have ck : k.toNatClampNeg = q := by rw [ek]; exact nI_clamp (by omega)
  have hink : vp_in k 600 := by rw [ek]; exact vp_in_nI hq6 (by decide)
  have e16 : 16 * k = nI (16 * q) := by rw [ek, show (16 : Int32) = nI 16 from rfl, pk_mul]
  have eN : 16 * k + fN q = nI (16 * q + z) := by rw [e16, ez, nI_add]
  have loop : ∀ (a i : Nat) (op la : Int32), i + a = 16 * q + z → 16 * q ≤ i → sy_it fL fV z (16 * q) 0 0 = sy_it fL fV a i op la → ∀ ls, lv_has ls 5 [(4, .int (nI i)), (3, .int la), (2, .int op), (0, .ref (am 0)), (1, .int k)] → W p l e (headSpec wsX1_says (rmN 1 0 0)).room s m ([.ref (am 0), .int k] : List Value).toArray below meth c s.heap [] 0 0 (MQ below (vp_Si (fun r => r = sy_it fL fV z (16 * q) 0 0)) ([.ref (am 0), .int k] : List Value).toArray s 0 0 (fun _ => False)) (F0 m 10 ls []) := by
    intro a
    induction a with
    | zero =>
      intro i op la hk hge hq ls hl
      have e0 : i = 16 * q + z := by omega
      refine lv_iload hx hb dX1_says_10 (lv_at hl 0 rfl) ?_
      refine lv_bipush (v := 16) hx hb dX1_says_12 (by decide) ?_
      refine lv_iload_n hx hb dX1_says_14 rfl (lv_at hl 4 rfl) ?_
      refine lv_imul hx hb dX1_says_15 ?_
      refine lv_aload_n hx hb dX1_says_16 rfl (lv_at hl 3 rfl) ?_
      refine va_get (D := (dC, dI)) (ci := 1) (v := .ref (am 2)) (C := RX1) (T := TX1) (N := 14) hx hb hw inX1 hown hK hP 0 rfl rfl 6 (by decide) (hw _ wb_274) (fun _ h9 => h9) rfl dX1_says_17 ?_
      refine lv_iload_n hx hb dX1_says_20 rfl (lv_at hl 4 rfl) ?_
      refine va_iald hx hb hK hP 2 1 rfl rfl hink dX1_says_21 ?_
      rw [ck]
      refine lv_iadd hx hb dX1_says_22 ?_
      refine lv_icmp_ge (tgt := 97) hx hb dX1_says_23 (by decide) (fun c1 => ?_) (fun c1 => ?_)
      · skip
        refine lv_iload_n hx hb dX1_says_97 rfl (lv_at hl 2 rfl) ?_
        refine lv_if_ne (tgt := 106) hx hb dX1_says_98 (by decide) (fun c2 => ?_) (fun c2 => ?_)
        · skip
          refine lv_iload_n hx hb dX1_says_106 rfl (lv_at hl 2 rfl) ?_
          refine lv_iconst (v := 1) hx hb dX1_says_107 (by decide) ?_
          refine lv_icmp_ne (tgt := 115) hx hb dX1_says_108 (by decide) (fun c3 => ?_) (fun c3 => ?_)
          · skip
            refine lv_iconst (v := 0) hx hb dX1_says_115 (by decide) ?_
            exact W.iret (v := 0) hx hb hrt (fun t ht hW => ⟨_, rfl, by rw [hq, sy_it, if_neg c2, if_neg c3], ht⟩) (fun q h => nomatch h) dX1_says_116
          · skip
            refine lv_iload_n hx hb dX1_says_111 rfl (lv_at hl 1 rfl) ?_
            refine lv_goto (tgt := 116) hx hb dX1_says_112 (by decide) ?_
            exact W.iret (v := la) hx hb hrt (fun t ht hW => ⟨_, rfl, by rw [hq, sy_it, if_neg c2, if_pos c3], ht⟩) (fun q h => nomatch h) dX1_says_116
        · skip
          refine lv_bipush (v := 17) hx hb dX1_says_101 (by decide) ?_
          refine lv_goto (tgt := 116) hx hb dX1_says_103 (by decide) ?_
          exact W.iret (v := 17) hx hb hrt (fun t ht hW => ⟨_, rfl, by rw [hq, sy_it, if_pos c2], ht⟩) (fun q h => nomatch h) dX1_says_116
      · skip
        exact absurd (by rw [eN, e0]; exact Int32.le_refl _) c1
    | succ a ih =>
      intro i op la hk hge hq ls hl
      have ci : (nI i).toNatClampNeg = i := nI_clamp (by omega)
      have hin : vp_in (nI i) 9600 := vp_in_nI (by omega) (by decide)
      have hr9 : rng (fL i) := by rw [show i = 16 * q + (i - 16 * q) by omega]; exact hR _ (by omega)
      refine lv_iload hx hb dX1_says_10 (lv_at hl 0 rfl) ?_
      refine lv_bipush (v := 16) hx hb dX1_says_12 (by decide) ?_
      refine lv_iload_n hx hb dX1_says_14 rfl (lv_at hl 4 rfl) ?_
      refine lv_imul hx hb dX1_says_15 ?_
      refine lv_aload_n hx hb dX1_says_16 rfl (lv_at hl 3 rfl) ?_
      refine va_get (D := (dC, dI)) (ci := 1) (v := .ref (am 2)) (C := RX1) (T := TX1) (N := 14) hx hb hw inX1 hown hK hP 0 rfl rfl 6 (by decide) (hw _ wb_274) (fun _ h9 => h9) rfl dX1_says_17 ?_
      refine lv_iload_n hx hb dX1_says_20 rfl (lv_at hl 4 rfl) ?_
      refine va_iald hx hb hK hP 2 1 rfl rfl hink dX1_says_21 ?_
      rw [ck]
      refine lv_iadd hx hb dX1_says_22 ?_
      refine lv_icmp_ge (tgt := 97) hx hb dX1_says_23 (by decide) (fun c1 => ?_) (fun c1 => ?_)
      · skip
        exact absurd (by rw [eN] at c1; exact c1) (nI_ge (by omega) (by omega))
      · skip
        refine lv_aload_n hx hb dX1_says_26 rfl (lv_at hl 3 rfl) ?_
        refine lv_aload_n hx hb dX1_says_27 rfl (lv_at hl 3 rfl) ?_
        refine va_get (D := (dC, dI)) (ci := 1) (v := .ref (am 1)) (C := RX1) (T := TX1) (N := 14) hx hb hw inX1 hown hK hP 0 rfl rfl 5 (by decide) (hw _ wb_273) (fun _ h9 => h9) rfl dX1_says_28 ?_
        refine lv_iload hx hb dX1_says_31 (lv_at hl 0 rfl) ?_
        refine va_iald hx hb hK hP 1 0 rfl rfl hin dX1_says_33 ?_
        rw [ci]
        refine vp_callSi (W.runV (As := [.int (fL i)]) (rest := []) ⟨hx, hb, hml, hown, hw⟩ (n_of l dC dI am ym co ct th fo sg sz hc fL fN fD fH fV fM fW (fL i) hr9.1 hr9.2) (cwV 1 hw (gw_V wb_363 wb_365 wbs_14 wb_2 wb_366) rfl rfl rfl (by decide +kernel) ⟨Nat.le_of_ble_eq_true rfl, Nat.le_of_ble_eq_true rfl⟩) ⟨blind_rdM, va_recv hK hP (ci := 1) (q0 := 0) rfl rfl, fun U hU hW => ⟨rfl, by rw [hU]; exact hP, va_K.moved hW.alike hK⟩⟩ rfl rfl hl.1 rfl (lv_room (Nat.le_of_ble_eq_true rfl)) dX1_says_34 ⟨Nat.le_of_ble_eq_true rfl, Nat.le_of_ble_eq_true rfl⟩) (fun r1 h1 => ?_)
        subst h1
        refine lv_iconst (v := 1) hx hb dX1_says_37 (by decide) ?_
        refine lv_icmp_ne (tgt := 43) hx hb dX1_says_38 (by decide) (fun c2 => ?_) (fun c2 => ?_)
        · skip
          refine lv_iload_n hx hb dX1_says_43 rfl (lv_at hl 2 rfl) ?_
          refine lv_aload_n hx hb dX1_says_44 rfl (lv_at hl 3 rfl) ?_
          refine lv_aload_n hx hb dX1_says_45 rfl (lv_at hl 3 rfl) ?_
          refine va_get (D := (dC, dI)) (ci := 1) (v := .ref (am 1)) (C := RX1) (T := TX1) (N := 14) hx hb hw inX1 hown hK hP 0 rfl rfl 5 (by decide) (hw _ wb_273) (fun _ h9 => h9) rfl dX1_says_46 ?_
          refine lv_iload hx hb dX1_says_49 (lv_at hl 0 rfl) ?_
          refine va_iald hx hb hK hP 1 0 rfl rfl hin dX1_says_51 ?_
          rw [ci]
          refine vp_callSi (W.runV (As := [.int (fL i)]) (rest := [.int op]) ⟨hx, hb, hml, hown, hw⟩ (n_of l dC dI am ym co ct th fo sg sz hc fL fN fD fH fV fM fW (fL i) hr9.1 hr9.2) (cwV 1 hw (gw_V wb_363 wb_365 wbs_14 wb_2 wb_366) rfl rfl rfl (by decide +kernel) ⟨Nat.le_of_ble_eq_true rfl, Nat.le_of_ble_eq_true rfl⟩) ⟨blind_rdM, va_recv hK hP (ci := 1) (q0 := 0) rfl rfl, fun U hU hW => ⟨rfl, by rw [hU]; exact hP, va_K.moved hW.alike hK⟩⟩ rfl rfl hl.1 rfl (lv_room (Nat.le_of_ble_eq_true rfl)) dX1_says_52 ⟨Nat.le_of_ble_eq_true rfl, Nat.le_of_ble_eq_true rfl⟩) (fun r2 h2 => ?_)
          subst h2
          refine lv_if_ne (tgt := 62) hx hb dX1_says_55 (by decide) (fun c3 => ?_) (fun c3 => ?_)
          · skip
            refine lv_iconst (v := 0) hx hb dX1_says_62 (by decide) ?_
            refine lv_iadd hx hb dX1_says_63 ?_
            refine lv_istore_n (lv' := [(2, .int (op + 0)), (4, .int (nI i)), (3, .int la), (0, .ref (am 0)), (1, .int k)]) hx hb dX1_says_64 rfl hl (by decide) rfl (fun ls hl => ?_)
            refine lv_aload_n hx hb dX1_says_65 rfl (lv_at hl 3 rfl) ?_
            refine lv_aload_n hx hb dX1_says_66 rfl (lv_at hl 3 rfl) ?_
            refine va_get (D := (dC, dI)) (ci := 1) (v := .ref (am 1)) (C := RX1) (T := TX1) (N := 14) hx hb hw inX1 hown hK hP 0 rfl rfl 5 (by decide) (hw _ wb_273) (fun _ h9 => h9) rfl dX1_says_67 ?_
            refine lv_iload hx hb dX1_says_70 (lv_at hl 1 rfl) ?_
            refine va_iald hx hb hK hP 1 0 rfl rfl hin dX1_says_72 ?_
            rw [ci]
            refine vp_callSi (W.runV (As := [.int (fL i)]) (rest := []) ⟨hx, hb, hml, hown, hw⟩ (n_of l dC dI am ym co ct th fo sg sz hc fL fN fD fH fV fM fW (fL i) hr9.1 hr9.2) (cwV 1 hw (gw_V wb_363 wb_365 wbs_14 wb_2 wb_366) rfl rfl rfl (by decide +kernel) ⟨Nat.le_of_ble_eq_true rfl, Nat.le_of_ble_eq_true rfl⟩) ⟨blind_rdM, va_recv hK hP (ci := 1) (q0 := 0) rfl rfl, fun U hU hW => ⟨rfl, by rw [hU]; exact hP, va_K.moved hW.alike hK⟩⟩ rfl rfl hl.1 rfl (lv_room (Nat.le_of_ble_eq_true rfl)) dX1_says_73 ⟨Nat.le_of_ble_eq_true rfl, Nat.le_of_ble_eq_true rfl⟩) (fun r3 h3 => ?_)
            subst h3
            refine lv_if_ne (tgt := 89) hx hb dX1_says_76 (by decide) (fun c4 => ?_) (fun c4 => ?_)
            · skip
              have es : sy_it fL fV (a + 1) i op la = sy_it fL fV a (i + 1) (op + 0) la := (if_neg c2).trans (by rw [if_neg c3, if_neg c3])
              refine lv_iload_n hx hb dX1_says_89 rfl (lv_at hl 2 rfl) ?_
              refine lv_istore_n (lv' := [(3, .int la), (2, .int (op + 0)), (4, .int (nI i)), (0, .ref (am 0)), (1, .int k)]) hx hb dX1_says_90 rfl hl (by decide) rfl (fun ls hl => ?_)
              refine lv_iinc (v := (nI i) + 1) (lv' := [(4, .int ((nI i) + 1)), (3, .int la), (2, .int (op + 0)), (0, .ref (am 0)), (1, .int k)]) hx hb dX1_says_91 hl (k := 2) rfl rfl (by decide) rfl (fun ls hl => ?_)
              refine lv_goto (tgt := 10) hx hb dX1_says_94 (by decide) ?_
              rw [nI_1] at hl
              exact ih (i + 1) _ _ (by omega) (by omega) (hq.trans es) ls (lv_sub hl [0, 1, 2, 3, 4] rfl)
            · skip
              exact absurd c4 c3
          · skip
            refine lv_iconst (v := 1) hx hb dX1_says_58 (by decide) ?_
            refine lv_goto (tgt := 63) hx hb dX1_says_59 (by decide) ?_
            refine lv_iadd hx hb dX1_says_63 ?_
            refine lv_istore_n (lv' := [(2, .int (op + 1)), (4, .int (nI i)), (3, .int la), (0, .ref (am 0)), (1, .int k)]) hx hb dX1_says_64 rfl hl (by decide) rfl (fun ls hl => ?_)
            refine lv_aload_n hx hb dX1_says_65 rfl (lv_at hl 3 rfl) ?_
            refine lv_aload_n hx hb dX1_says_66 rfl (lv_at hl 3 rfl) ?_
            refine va_get (D := (dC, dI)) (ci := 1) (v := .ref (am 1)) (C := RX1) (T := TX1) (N := 14) hx hb hw inX1 hown hK hP 0 rfl rfl 5 (by decide) (hw _ wb_273) (fun _ h9 => h9) rfl dX1_says_67 ?_
            refine lv_iload hx hb dX1_says_70 (lv_at hl 1 rfl) ?_
            refine va_iald hx hb hK hP 1 0 rfl rfl hin dX1_says_72 ?_
            rw [ci]
            refine vp_callSi (W.runV (As := [.int (fL i)]) (rest := []) ⟨hx, hb, hml, hown, hw⟩ (n_of l dC dI am ym co ct th fo sg sz hc fL fN fD fH fV fM fW (fL i) hr9.1 hr9.2) (cwV 1 hw (gw_V wb_363 wb_365 wbs_14 wb_2 wb_366) rfl rfl rfl (by decide +kernel) ⟨Nat.le_of_ble_eq_true rfl, Nat.le_of_ble_eq_true rfl⟩) ⟨blind_rdM, va_recv hK hP (ci := 1) (q0 := 0) rfl rfl, fun U hU hW => ⟨rfl, by rw [hU]; exact hP, va_K.moved hW.alike hK⟩⟩ rfl rfl hl.1 rfl (lv_room (Nat.le_of_ble_eq_true rfl)) dX1_says_73 ⟨Nat.le_of_ble_eq_true rfl, Nat.le_of_ble_eq_true rfl⟩) (fun r3 h3 => ?_)
            subst h3
            refine lv_if_ne (tgt := 89) hx hb dX1_says_76 (by decide) (fun c4 => ?_) (fun c4 => ?_)
            · skip
              exact absurd c3 c4
            · skip
              refine lv_aload_n hx hb dX1_says_79 rfl (lv_at hl 3 rfl) ?_
              refine va_get (D := (dC, dI)) (ci := 1) (v := .ref (am 1)) (C := RX1) (T := TX1) (N := 14) hx hb hw inX1 hown hK hP 0 rfl rfl 5 (by decide) (hw _ wb_273) (fun _ h9 => h9) rfl dX1_says_80 ?_
              refine lv_iload hx hb dX1_says_83 (lv_at hl 1 rfl) ?_
              refine va_iald hx hb hK hP 1 0 rfl rfl hin dX1_says_85 ?_
              rw [ci]
              have es : sy_it fL fV (a + 1) i op la = sy_it fL fV a (i + 1) (op + 1) (fL i) := (if_neg c2).trans (by rw [if_pos c3, if_pos c3])
              refine lv_goto (tgt := 90) hx hb dX1_says_86 (by decide) ?_
              refine lv_istore_n (lv' := [(3, .int (fL i)), (2, .int (op + 1)), (4, .int (nI i)), (0, .ref (am 0)), (1, .int k)]) hx hb dX1_says_90 rfl hl (by decide) rfl (fun ls hl => ?_)
              refine lv_iinc (v := (nI i) + 1) (lv' := [(4, .int ((nI i) + 1)), (3, .int (fL i)), (2, .int (op + 1)), (0, .ref (am 0)), (1, .int k)]) hx hb dX1_says_91 hl (k := 2) rfl rfl (by decide) rfl (fun ls hl => ?_)
              refine lv_goto (tgt := 10) hx hb dX1_says_94 (by decide) ?_
              rw [nI_1] at hl
              exact ih (i + 1) _ _ (by omega) (by omega) (hq.trans es) ls (lv_sub hl [0, 1, 2, 3, 4] rfl)
        · skip
          refine lv_iconst (v := 0) hx hb dX1_says_41 (by decide) ?_
          exact W.iret (v := 0) hx hb hrt (fun t ht hW => ⟨_, rfl, by rw [hq, sy_it, if_pos c2], ht⟩) (fun q h => nomatch h) dX1_says_42
  refine lv_iconst (v := 0) hx hb dX1_says_0 (by decide) ?_
  refine lv_istore_n (lv' := [(2, .int 0), (0, .ref (am 0)), (1, .int k)]) hx hb dX1_says_1 rfl hl (by decide) rfl (fun ls hl => ?_)
  refine lv_iconst (v := 0) hx hb dX1_says_2 (by decide) ?_
  refine lv_istore_n (lv' := [(3, .int 0), (2, .int 0), (0, .ref (am 0)), (1, .int k)]) hx hb dX1_says_3 rfl hl (by decide) rfl (fun ls hl => ?_)
  refine lv_bipush (v := 16) hx hb dX1_says_4 (by decide) ?_
  refine lv_iload_n hx hb dX1_says_6 rfl (lv_at hl 3 rfl) ?_
  refine lv_imul hx hb dX1_says_7 ?_
  rw [e16]
  refine lv_istore (lv' := [(4, .int (nI (16 * q))), (3, .int 0), (2, .int 0), (0, .ref (am 0)), (1, .int k)]) hx hb dX1_says_8 hl (by decide) rfl (fun ls hl => ?_)
  exact loop z (16 * q) 0 0 (by omega) (Nat.le_refl _) rfl ls hl
