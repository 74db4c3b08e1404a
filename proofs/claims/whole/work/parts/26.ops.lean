/-! the law: one call after the other -/
abbrev LWd (ax : Nat → Nat) (yx : Nat → ClassId) (am : Nat → Nat) (ym : Nat → ClassId) (qo : Nat) (yo : ClassId) (u : XS) (mm : MS) (g : Nat → Int64) : va_W := match u, mm with
  | (cc, tc, fc, hc, dr, dO, fC, fO, fT, fH), (co, ct, th, fo, sg, sz, hc2, fL, fN, fD, fH2, fV, fM, fW) => [(ax 0, .inr (0, [.ref (ax 1), .ref (ax 2), .ref (ax 3), .ref (ax 4), .int cc, .int tc, .int fc, .int hc, .int dr, .long dO])), (ax 1, .inl (yx 1, 600, .inl fC)), (ax 2, .inl (yx 2, 600, .inr (.inl fO))), (ax 3, .inl (yx 3, 600, .inl fT)), (ax 4, .inl (yx 4, 40, .inl fH)),
    (am 0, .inr (1, [.int co, .int ct, .int th, .int fo, .int sg, .ref (am 1), .ref (am 2), .int sz, .ref (am 3), .int hc2, .ref (am 4), .ref (am 5), .ref (am 6), .ref (am 7)])), (am 1, .inl (ym 1, 9600, .inl fL)), (am 2, .inl (ym 2, 600, .inl fN)), (am 3, .inl (ym 3, 16, .inl fD)), (am 4, .inl (ym 4, 40, .inl fH2)), (am 5, .inl (ym 5, 17, .inl fV)), (am 6, .inl (ym 6, 1024, .inr (.inl fM))), (am 7, .inl (ym 7, 7, .inr (.inl fW))), (qo, .inl (yo, 1, .inr (.inl g)))]
abbrev tysL (yx ym : Nat → ClassId) (yo : ClassId) : List (ClassId × FieldType) := [(yx 1, .int), (yx 2, .long), (yx 3, .boolean), (yx 4, .int), (ym 1, .int), (ym 2, .int), (ym 3, .int), (ym 4, .int), (ym 5, .int), (ym 6, .long), (ym 7, .long), (yo, .long)]
abbrev LWj (p : Program) (l : Launch) (e : Env) (s : State) (m : MethodId) (b : Nat) (below : List Frame) (meth : Method) (c : Code) (H : Heap) (locs : List Loc) (k pc : Nat) (ls : Array Slot) : Prop := W p l e room_1 s m #[Value.ref b] below meth c H locs (14 + 2 * k) (13169 + 12 * k) (lw_Z below #[Value.ref b] s) (F0 m pc ls [])
theorem o_get (g : Nat → Int64) (v : Int32) : o_set g v (0 : Int32).toNatClampNeg = v.toInt64 := pk_uLs
theorem hn_599 {k : Int32} (h : 600 ≤ k) : 599 < k := by
  have h1 := Int32.le_iff_toInt_le.mp h
  have e1 : (600 : Int32).toInt = 600 := by decide
  have e2 : (599 : Int32).toInt = 599 := by decide
  exact Int32.lt_iff_toInt_lt.mpr (by omega)
theorem hn_599b {k : Int32} (h : 599 < k) : 600 ≤ k := by
  have h1 := Int32.lt_iff_toInt_lt.mp h
  have e1 : (600 : Int32).toInt = 600 := by decide
  have e2 : (599 : Int32).toInt = 599 := by decide
  exact Int32.le_iff_toInt_le.mpr (by omega)
set_option maxHeartbeats 1000000 in
set_option maxRecDepth 100000 in
/-- law_op0 -/
theorem law_op0 {p : Program} {l : Launch} {e : Env} {s : State} {m : MethodId} {below : List Frame} {meth : Method} {c : Code} {b L : Nat} {xs : Nat → Int32} (hl9 : l.stackTraces = false) (hL : L ≤ 1536) (C0 : lw_At p s m meth c b L xs) (hT : Th (fun q => s.heap.size ≤ q) s s.heap) {dC : Nat → ClassId} {dI : Nat → Nat → Nat} {ax : Nat → Nat} {yx : Nat → ClassId} {am : Nat → Nat} {ym : Nat → ClassId} {qo : Nat} {yo : ClassId} (hK : va_K (dC, dI) cls2 (tysL yx ym yo) s) {B : Nat} (hB : 3 * B + 3 ≤ L) {u : XS} {mm : MS} {g : Nat → Int64} {H : Heap} {locs : List Loc} (hRel : Rel B u mm) (hP : va_P (dC, dI) cls2 (LWd ax yx am ym qo yo u mm g) H) (hD : va_D (fun q => s.heap.size ≤ q) (LWd ax yx am ym qo yo u mm g)) (hS : va_S (fun q => s.heap.size ≤ q) s.heap H locs) (back : ∀ (u : XS) (mm : MS) (g : Nat → Int64) (H : Heap) (locs : List Loc), Rel (B + 1) u mm → va_P (dC, dI) cls2 (LWd ax yx am ym qo yo u mm g) H → va_D (fun q => s.heap.size ≤ q) (LWd ax yx am ym qo yo u mm g) → va_S (fun q => s.heap.size ≤ q) s.heap H locs → ∀ ls, lv_has ls 7 [(4, .int (nI (3 * B))), (0, .ref b), (1, .ref (ax 0)), (2, .ref (am 0)), (3, .ref qo)] → LWj p l e s m b below meth c H locs (B + 1) 576 ls) : ∀ ls, lv_has ls 7 [(4, .int (nI (3 * B))), (0, .ref b), (1, .ref (ax 0)), (2, .ref (am 0)), (3, .ref qo)] → LWj p l e s m b below meth c H locs B 100 ls := by
  obtain ⟨hx, hb, hr, hml, hown, hts, hX, hbl, hlocks, hgv⟩ := C0
  have hw : ∀ w ∈ WB, w.before #[Value.ref b] s = true := fun w h => hts w (WB_lw w h)
  have hA : ∀ q : Nat, s.heap.size ≤ q → (fun q : Nat => s.heap.size ≤ q) q := fun _ h => h
  have hbA : ¬ (fun q : Nat => s.heap.size ≤ q) b := Nat.not_le.mpr hbl
  obtain ⟨cc, tc, fc, hc, dr, dO, fC, fO, fT, fH⟩ := u
  obtain ⟨co, ct, th, fo, sg, sz, hc2, fL, fN, fD, fH2, fV, fM, fW⟩ := mm
  obtain ⟨n, d, q, zl, hR⟩ := hRel
  obtain ⟨h1, h2, h3, h4, h5, h6, h7, h8, h9, h10, h11, h12, h13, h14, h15, h16, h17⟩ := id hR
  have hd := gs_16 h11
  have hTH : ∀ (H : Heap) (locs : List Loc), va_S (fun q => s.heap.size ≤ q) s.heap H locs → Th (fun q => H.size ≤ q) s H := fun H locs hS => (hT.kept hS.2.1).narrow (fun q h => Nat.le_trans hS.1 h)
  intro ls hl
  have hP : va_P (dC, dI) cls2 (LWd ax yx am ym qo yo (cc, tc, fc, hc, dr, dO, fC, fO, fT, fH) (co, ct, th, fo, sg, sz, hc2, fL, fN, fD, fH2, fV, fM, fW) g) H := hP
  have hD : va_D (fun q => s.heap.size ≤ q) (LWd ax yx am ym qo yo (cc, tc, fc, hc, dr, dO, fC, fO, fT, fH) (co, ct, th, fo, sg, sz, hc2, fL, fN, fD, fH2, fV, fM, fW) g) := hD
  refine lv_aload_n hx hb dL_law_100 rfl (lv_at hl 2 rfl) ?_
  refine lv_aload_n hx hb dL_law_101 rfl (lv_at hl 1 rfl) ?_
  refine lv_iload hx hb dL_law_102 (lv_at hl 0 rfl) ?_
  refine lv_iconst (v := 1) hx hb dL_law_104 (by decide) ?_
  refine lv_iadd hx hb dL_law_105 ?_
  rw [show nI (3 * B) + 1 = nI (3 * B + 1) from nI_add (3 * B) 1]
  refine va_sld hx hb hX hbl hbA hS (vp_in_nI (show 3 * B + 1 < L by omega) (by omega)) dL_law_106 ?_
  rw [nI_clamp (show 3 * B + 1 < 2 ^ 31 by omega)]
  refine lv_aload_n hx hb dL_law_107 rfl (lv_at hl 4 rfl) ?_
  have hPc := hP.sub (ws' := XOW ax yx qo yo ((cc, tc, fc, hc, dr, dO, fC, fO, fT, fH), g)) [0, 1, 2, 3, 4, 13] rfl
  have hDc := hD.sub (ws' := XOW ax yx qo yo ((cc, tc, fc, hc, dr, dO, fC, fO, fT, fH), g)) [0, 1, 2, 3, 4, 13] (by decide) rfl
  have hKc := hK.sub (tys' := tysXO yx yo) [0, 1, 2, 3, 11] rfl
  have hFc := va_free (wc := XOW ax yx qo yo ((cc, tc, fc, hc, dr, dO, fC, fO, fT, fH), g)) hD hS hA [0, 1, 2, 3, 4, 13] rfl
  refine va_calli (vx_runSW (As := [.ref (ax 0), .int (xs (3 * B + 1)), .ref qo]) (rest := []) ⟨hx, hb, hml, hown, hw⟩ (l_literal l hl9 dC dI ax yx qo yo H.size cc tc fc hc dr dO fC fO fT fH g (xs (3 * B + 1))) (vx_cwSW 3 hw (gw_S wb_89 wb_90 wb_0 wb_91) rfl rfl rfl (by decide +kernel) ⟨(Nat.le_of_ble_eq_true rfl), (Nat.le_of_ble_eq_true rfl)⟩) ⟨blind_preXO, fun U hU hW => ⟨rfl, by rw [hU], by rw [hU]; exact hPc, va_K.moved hW.alike hKc, hDc.weaken (fun _ _ _ _ => trivial), ThU.at hU hW (hTH H _ hS)⟩⟩ rfl rfl hl.1 rfl (lv_room (Nat.le_of_ble_eq_true rfl)) dL_law_108 ⟨by show (14 + 2 * B) + 1 ≤ 1046; omega, by show (13169 + 12 * B) + 6 ≤ 21409; omega⟩) hS (fun q _ h => hFc q h) hFc (fun r1 u t H1 locs ht hvm hq hB9 hz1 hk1 hS => ?_)
  have hd16 : li_it fD (xs (3 * B + 1)) d 0 (li_0 (xs (3 * B + 1))) ≠ 0 → d < 16 := fun h => by
    rcases lit_ok (k := (xs (3 * B + 1))) h11 with ⟨_, h9⟩ | ⟨_, _, h9, _⟩
    · exact absurd h9 h
    · exact h9
  rcases lit_ok (k := (xs (3 * B + 1))) h11 with ⟨hbad, hli⟩ | ⟨hbad, hli, hd9, hgn⟩ <;> rw [← h12] at hbad
  · skip
    rcases hq with ⟨_, er1, rfl⟩ | ⟨z, _⟩
    rotate_left
    · exact absurd hbad z
    subst er1
    obtain ⟨hP1, hK1, hD1⟩ := hB9
    rw [ht] at hP1
    obtain ⟨hP, hD⟩ := va_join (wr := MW am ym (co, ct, th, fo, sg, sz, hc2, fL, fN, fD, fH2, fV, fM, fW)) (w1 := XOW ax yx qo yo ((cc, tc, fc, hc, dr, dO, fC, fO, fT, fH), g)) hP hD [0, 1, 2, 3, 4, 13] [5, 6, 7, 8, 9, 10, 11, 12] rfl rfl (by decide) (by decide) hk1 hFc hP1 hD1
    have hP : va_P (dC, dI) cls2 (LWd ax yx am ym qo yo (cc, tc, fc, hc, dr, dO, fC, fO, fT, fH) (co, ct, th, fo, sg, sz, hc2, fL, fN, fD, fH2, fV, fM, fW) g) H1 := hP.sub [8, 9, 10, 11, 12, 0, 1, 2, 3, 4, 5, 6, 7, 13] rfl
    have hD : va_D (fun q => s.heap.size ≤ q) (LWd ax yx am ym qo yo (cc, tc, fc, hc, dr, dO, fC, fO, fT, fH) (co, ct, th, fo, sg, sz, hc2, fL, fN, fD, fH2, fV, fM, fW) g) := hD.sub [8, 9, 10, 11, 12, 0, 1, 2, 3, 4, 5, 6, 7, 13] (by decide) rfl
    clear hP1 hK1 hD1 hk1 hz1 ht hPc hDc hKc hFc
    generalize H1 = H at hP hS ⊢
    refine lv_istore (lv' := [(5, .int 1), (4, .int (nI (3 * B))), (0, .ref b), (1, .ref (ax 0)), (2, .ref (am 0)), (3, .ref qo)]) hx hb dL_law_111 hl (by decide) rfl (fun ls hl => ?_)
    refine lv_aload_n hx hb dL_law_113 rfl (lv_at hl 4 rfl) ?_
    refine lv_aload_n hx hb dL_law_114 rfl (lv_at hl 2 rfl) ?_
    refine lv_iload hx hb dL_law_115 (lv_at hl 1 rfl) ?_
    refine lv_iconst (v := 1) hx hb dL_law_117 (by decide) ?_
    refine lv_iadd hx hb dL_law_118 ?_
    rw [show nI (3 * B) + 1 = nI (3 * B + 1) from nI_add (3 * B) 1]
    refine va_sld hx hb hX hbl hbA hS (vp_in_nI (show 3 * B + 1 < L by omega) (by omega)) dL_law_119 ?_
    rw [nI_clamp (show 3 * B + 1 < 2 ^ 31 by omega)]
    have hPc := hP.sub (ws' := MW am ym (co, ct, th, fo, sg, sz, hc2, fL, fN, fD, fH2, fV, fM, fW)) [5, 6, 7, 8, 9, 10, 11, 12] rfl
    have hDc := hD.sub (ws' := MW am ym (co, ct, th, fo, sg, sz, hc2, fL, fN, fD, fH2, fV, fM, fW)) [5, 6, 7, 8, 9, 10, 11, 12] (by decide) rfl
    have hKc := hK.sub (tys' := tysM ym) [4, 5, 6, 7, 8, 9, 10] rfl
    have hFc := va_free (wc := MW am ym (co, ct, th, fo, sg, sz, hc2, fL, fN, fD, fH2, fV, fM, fW)) hD hS hA [5, 6, 7, 8, 9, 10, 11, 12] rfl
    refine va_calli (va_runV (As := [.int (xs (3 * B + 1))]) (rest := []) ⟨hx, hb, hml, hown, hw⟩ (n_literal l dC dI am ym H.size co ct th fo sg sz hc2 fL fN fD fH2 fV fM fW (xs (3 * B + 1)) d hd h9 (fun h => hd16 h)) (cwV 1 hw (gw_V wb_315 wb_316 wb_317 wb_2 wb_318) rfl rfl rfl (by decide +kernel) ⟨Nat.le_of_ble_eq_true rfl, Nat.le_of_ble_eq_true rfl⟩) ⟨blind_preM, va_recv hKc hPc (ci := 1) (q0 := 0) rfl rfl, fun U hU hW => ⟨rfl, by rw [hU], by rw [hU]; exact hPc, va_K.moved hW.alike hKc, hDc.weaken (fun _ _ _ _ => trivial)⟩⟩ rfl rfl hl.1 rfl (lv_room (Nat.le_of_ble_eq_true rfl)) dL_law_120 ⟨by show (14 + 2 * B + 1) + 0 ≤ 1046; omega, by show (13169 + 12 * B + 6) + 0 ≤ 21409; omega⟩) hS (fun q _ h => hFc q h) hFc (fun r2 u t H1 locs ht hvm hq2 hB9 hz1 hk1 hS => ?_)
    rcases hq2 with ⟨_, er2, rfl⟩ | ⟨z, _⟩
    rotate_left
    · exact absurd hli z
    subst er2
    obtain ⟨hP1, hK1, hD1⟩ := hB9
    rw [ht] at hP1
    obtain ⟨hP, hD⟩ := va_join (wr := XOW ax yx qo yo ((cc, tc, fc, hc, dr, dO, fC, fO, fT, fH), g)) (w1 := MW am ym (1, ct, th, fo, sg, sz, hc2, fL, fN, fD, fH2, fV, fM, fW)) hP hD [5, 6, 7, 8, 9, 10, 11, 12] [0, 1, 2, 3, 4, 13] rfl rfl (by decide) (by decide) hk1 hFc hP1 hD1
    have hP : va_P (dC, dI) cls2 (LWd ax yx am ym qo yo (cc, tc, fc, hc, dr, dO, fC, fO, fT, fH) (1, ct, th, fo, sg, sz, hc2, fL, fN, fD, fH2, fV, fM, fW) g) H1 := hP.sub [0, 1, 2, 3, 4, 6, 7, 8, 9, 10, 11, 12, 13, 5] rfl
    have hD : va_D (fun q => s.heap.size ≤ q) (LWd ax yx am ym qo yo (cc, tc, fc, hc, dr, dO, fC, fO, fT, fH) (1, ct, th, fo, sg, sz, hc2, fL, fN, fD, fH2, fV, fM, fW) g) := hD.sub [0, 1, 2, 3, 4, 6, 7, 8, 9, 10, 11, 12, 13, 5] (by decide) rfl
    clear hP1 hK1 hD1 hk1 hz1 ht hPc hDc hKc hFc
    generalize H1 = H at hP hS ⊢
    refine lv_istore (lv' := [(6, .int 0), (5, .int 1), (4, .int (nI (3 * B))), (0, .ref b), (1, .ref (ax 0)), (2, .ref (am 0)), (3, .ref qo)]) hx hb dL_law_123 hl (by decide) rfl (fun ls hl => ?_)
    refine lv_aload_n hx hb dL_law_125 rfl (lv_at hl 5 rfl) ?_
    have hPc := hP.sub (ws' := MW am ym (1, ct, th, fo, sg, sz, hc2, fL, fN, fD, fH2, fV, fM, fW)) [5, 6, 7, 8, 9, 10, 11, 12] rfl
    have hKc := hK.sub (tys' := tysM ym) [4, 5, 6, 7, 8, 9, 10] rfl
    refine vp_callSi (W.runV (As := []) (rest := []) ⟨hx, hb, hml, hown, hw⟩ (n_thrown l dC dI am ym 1 ct th fo sg sz hc2 fL fN fD fH2 fV fM fW) (cwV 0 hw (gw_V wb_311 wb_312 wb_313 wb_2 wb_314) rfl rfl rfl (by decide +kernel) ⟨Nat.le_of_ble_eq_true rfl, Nat.le_of_ble_eq_true rfl⟩) ⟨blind_rdM, va_recv hKc hPc (ci := 1) (q0 := 0) rfl rfl, fun U hU hW => ⟨rfl, by rw [hU]; exact hPc, va_K.moved hW.alike hKc⟩⟩ rfl rfl hl.1 rfl (lv_room (Nat.le_of_ble_eq_true rfl)) dL_law_126 ⟨by show (14 + 2 * B + 1) + 0 ≤ 1046; omega, by show (13169 + 12 * B + 6) + 0 ≤ 21409; omega⟩) (fun r3 hr3 => ?_)
    subst hr3
    refine lv_iload hx hb dL_law_129 (lv_at hl 1 rfl) ?_
    refine lv_icmp_eq (tgt := 136) hx hb dL_law_131 (by decide) (fun c1 => ?_) (fun c1 => ?_)
    · skip
      refine lv_iload hx hb dL_law_136 (lv_at hl 1 rfl) ?_
      refine lv_if_ne (tgt := 153) hx hb dL_law_138 (by decide) (fun c2 => ?_) (fun c2 => ?_)
      · skip
        refine lv_goto (tgt := 576) hx hb dL_law_153 (by decide) ?_
        refine W.widen (k := 14 + 2 * (B + 1)) (n := 13169 + 12 * (B + 1)) (by omega) (by omega) ?_
        exact back (cc, tc, fc, hc, dr, dO, fC, fO, fT, fH) (1, ct, th, fo, sg, sz, hc2, fL, fN, fD, fH2, fV, fM, fW) g H _ (⟨n, d, q, zl, R_up hR⟩) hP hD hS ls (lv_sub hl [2, 3, 4, 5, 6] rfl)
      · skip
        exact absurd c2 (by decide)
    · skip
      exact absurd rfl c1
  · skip
    rcases hq with ⟨z, _⟩ | ⟨_, er1, rfl⟩
    · exact absurd z hbad
    subst er1
    obtain ⟨hP1, hK1, hD1⟩ := hB9
    rw [ht] at hP1
    obtain ⟨hP, hD⟩ := va_join (wr := MW am ym (co, ct, th, fo, sg, sz, hc2, fL, fN, fD, fH2, fV, fM, fW)) (w1 := XOW ax yx qo yo ((cc, tc, fc, hc, dr ||| mk_bit (xs (3 * B + 1)), lt_ord dr dO (xs (3 * B + 1)), fC, fO, fT, fH), (o_set g (nI (pb_sz (dr ||| mk_bit (xs (3 * B + 1)))))))) hP hD [0, 1, 2, 3, 4, 13] [5, 6, 7, 8, 9, 10, 11, 12] rfl rfl (by decide) (by decide) hk1 hFc hP1 hD1
    have hP : va_P (dC, dI) cls2 (LWd ax yx am ym qo yo (cc, tc, fc, hc, dr ||| mk_bit (xs (3 * B + 1)), lt_ord dr dO (xs (3 * B + 1)), fC, fO, fT, fH) (co, ct, th, fo, sg, sz, hc2, fL, fN, fD, fH2, fV, fM, fW) (o_set g (nI (pb_sz (dr ||| mk_bit (xs (3 * B + 1))))))) H1 := hP.sub [8, 9, 10, 11, 12, 0, 1, 2, 3, 4, 5, 6, 7, 13] rfl
    have hD : va_D (fun q => s.heap.size ≤ q) (LWd ax yx am ym qo yo (cc, tc, fc, hc, dr ||| mk_bit (xs (3 * B + 1)), lt_ord dr dO (xs (3 * B + 1)), fC, fO, fT, fH) (co, ct, th, fo, sg, sz, hc2, fL, fN, fD, fH2, fV, fM, fW) (o_set g (nI (pb_sz (dr ||| mk_bit (xs (3 * B + 1))))))) := hD.sub [8, 9, 10, 11, 12, 0, 1, 2, 3, 4, 5, 6, 7, 13] (by decide) rfl
    clear hP1 hK1 hD1 hk1 hz1 ht hPc hDc hKc hFc
    generalize H1 = H at hP hS ⊢
    refine lv_istore (lv' := [(5, .int 0), (4, .int (nI (3 * B))), (0, .ref b), (1, .ref (ax 0)), (2, .ref (am 0)), (3, .ref qo)]) hx hb dL_law_111 hl (by decide) rfl (fun ls hl => ?_)
    refine lv_aload_n hx hb dL_law_113 rfl (lv_at hl 4 rfl) ?_
    refine lv_aload_n hx hb dL_law_114 rfl (lv_at hl 2 rfl) ?_
    refine lv_iload hx hb dL_law_115 (lv_at hl 1 rfl) ?_
    refine lv_iconst (v := 1) hx hb dL_law_117 (by decide) ?_
    refine lv_iadd hx hb dL_law_118 ?_
    rw [show nI (3 * B) + 1 = nI (3 * B + 1) from nI_add (3 * B) 1]
    refine va_sld hx hb hX hbl hbA hS (vp_in_nI (show 3 * B + 1 < L by omega) (by omega)) dL_law_119 ?_
    rw [nI_clamp (show 3 * B + 1 < 2 ^ 31 by omega)]
    have hPc := hP.sub (ws' := MW am ym (co, ct, th, fo, sg, sz, hc2, fL, fN, fD, fH2, fV, fM, fW)) [5, 6, 7, 8, 9, 10, 11, 12] rfl
    have hDc := hD.sub (ws' := MW am ym (co, ct, th, fo, sg, sz, hc2, fL, fN, fD, fH2, fV, fM, fW)) [5, 6, 7, 8, 9, 10, 11, 12] (by decide) rfl
    have hKc := hK.sub (tys' := tysM ym) [4, 5, 6, 7, 8, 9, 10] rfl
    have hFc := va_free (wc := MW am ym (co, ct, th, fo, sg, sz, hc2, fL, fN, fD, fH2, fV, fM, fW)) hD hS hA [5, 6, 7, 8, 9, 10, 11, 12] rfl
    refine va_calli (va_runV (As := [.int (xs (3 * B + 1))]) (rest := []) ⟨hx, hb, hml, hown, hw⟩ (n_literal l dC dI am ym H.size co ct th fo sg sz hc2 fL fN fD fH2 fV fM fW (xs (3 * B + 1)) d hd h9 (fun h => hd16 h)) (cwV 1 hw (gw_V wb_315 wb_316 wb_317 wb_2 wb_318) rfl rfl rfl (by decide +kernel) ⟨Nat.le_of_ble_eq_true rfl, Nat.le_of_ble_eq_true rfl⟩) ⟨blind_preM, va_recv hKc hPc (ci := 1) (q0 := 0) rfl rfl, fun U hU hW => ⟨rfl, by rw [hU], by rw [hU]; exact hPc, va_K.moved hW.alike hKc, hDc.weaken (fun _ _ _ _ => trivial)⟩⟩ rfl rfl hl.1 rfl (lv_room (Nat.le_of_ble_eq_true rfl)) dL_law_120 ⟨by show (14 + 2 * B + 1) + 0 ≤ 1046; omega, by show (13169 + 12 * B + 6) + 0 ≤ 21409; omega⟩) hS (fun q _ h => hFc q h) hFc (fun r2 u t H1 locs ht hvm hq2 hB9 hz1 hk1 hS => ?_)
    rcases hq2 with ⟨z, _⟩ | ⟨_, er2, rfl⟩
    · exact absurd z hli
    subst er2
    obtain ⟨hval, hrel⟩ := R_lit hR hd9 hgn
    obtain ⟨hP1, hK1, hD1⟩ := hB9
    rw [ht] at hP1
    obtain ⟨hP, hD⟩ := va_join (wr := XOW ax yx qo yo ((cc, tc, fc, hc, dr ||| mk_bit (xs (3 * B + 1)), lt_ord dr dO (xs (3 * B + 1)), fC, fO, fT, fH), (o_set g (nI (pb_sz (dr ||| mk_bit (xs (3 * B + 1)))))))) (w1 := MW am ym (0, ct, th, fo, sg, sz + 1, hc2, fL, fN, upd fD sz.toNatClampNeg (xs (3 * B + 1)), fH2, fV, fM, fW)) hP hD [5, 6, 7, 8, 9, 10, 11, 12] [0, 1, 2, 3, 4, 13] rfl rfl (by decide) (by decide) hk1 hFc hP1 hD1
    have hP : va_P (dC, dI) cls2 (LWd ax yx am ym qo yo (cc, tc, fc, hc, dr ||| mk_bit (xs (3 * B + 1)), lt_ord dr dO (xs (3 * B + 1)), fC, fO, fT, fH) (0, ct, th, fo, sg, sz + 1, hc2, fL, fN, upd fD sz.toNatClampNeg (xs (3 * B + 1)), fH2, fV, fM, fW) (o_set g (nI (pb_sz (dr ||| mk_bit (xs (3 * B + 1))))))) H1 := hP.sub [0, 1, 2, 3, 4, 6, 7, 8, 9, 10, 11, 12, 13, 5] rfl
    have hD : va_D (fun q => s.heap.size ≤ q) (LWd ax yx am ym qo yo (cc, tc, fc, hc, dr ||| mk_bit (xs (3 * B + 1)), lt_ord dr dO (xs (3 * B + 1)), fC, fO, fT, fH) (0, ct, th, fo, sg, sz + 1, hc2, fL, fN, upd fD sz.toNatClampNeg (xs (3 * B + 1)), fH2, fV, fM, fW) (o_set g (nI (pb_sz (dr ||| mk_bit (xs (3 * B + 1))))))) := hD.sub [0, 1, 2, 3, 4, 6, 7, 8, 9, 10, 11, 12, 13, 5] (by decide) rfl
    clear hP1 hK1 hD1 hk1 hz1 ht hPc hDc hKc hFc
    generalize H1 = H at hP hS ⊢
    refine lv_istore (lv' := [(6, .int (sz + 1)), (5, .int 0), (4, .int (nI (3 * B))), (0, .ref b), (1, .ref (ax 0)), (2, .ref (am 0)), (3, .ref qo)]) hx hb dL_law_123 hl (by decide) rfl (fun ls hl => ?_)
    refine lv_aload_n hx hb dL_law_125 rfl (lv_at hl 5 rfl) ?_
    have hPc := hP.sub (ws' := MW am ym (0, ct, th, fo, sg, sz + 1, hc2, fL, fN, upd fD sz.toNatClampNeg (xs (3 * B + 1)), fH2, fV, fM, fW)) [5, 6, 7, 8, 9, 10, 11, 12] rfl
    have hKc := hK.sub (tys' := tysM ym) [4, 5, 6, 7, 8, 9, 10] rfl
    refine vp_callSi (W.runV (As := []) (rest := []) ⟨hx, hb, hml, hown, hw⟩ (n_thrown l dC dI am ym 0 ct th fo sg (sz + 1) hc2 fL fN (upd fD sz.toNatClampNeg (xs (3 * B + 1))) fH2 fV fM fW) (cwV 0 hw (gw_V wb_311 wb_312 wb_313 wb_2 wb_314) rfl rfl rfl (by decide +kernel) ⟨Nat.le_of_ble_eq_true rfl, Nat.le_of_ble_eq_true rfl⟩) ⟨blind_rdM, va_recv hKc hPc (ci := 1) (q0 := 0) rfl rfl, fun U hU hW => ⟨rfl, by rw [hU]; exact hPc, va_K.moved hW.alike hKc⟩⟩ rfl rfl hl.1 rfl (lv_room (Nat.le_of_ble_eq_true rfl)) dL_law_126 ⟨by show (14 + 2 * B + 1) + 0 ≤ 1046; omega, by show (13169 + 12 * B + 6) + 0 ≤ 21409; omega⟩) (fun r3 hr3 => ?_)
    subst hr3
    refine lv_iload hx hb dL_law_129 (lv_at hl 1 rfl) ?_
    refine lv_icmp_eq (tgt := 136) hx hb dL_law_131 (by decide) (fun c1 => ?_) (fun c1 => ?_)
    · skip
      refine lv_iload hx hb dL_law_136 (lv_at hl 1 rfl) ?_
      refine lv_if_ne (tgt := 153) hx hb dL_law_138 (by decide) (fun c2 => ?_) (fun c2 => ?_)
      · skip
        exact absurd rfl c2
      · skip
        refine lv_aload_n hx hb dL_law_141 rfl (lv_at hl 6 rfl) ?_
        refine lv_iconst (v := 0) hx hb dL_law_142 (by decide) ?_
        refine va_lald hx hb hK hP 13 11 rfl rfl in_01 dL_law_143 ?_
        rw [o_get]
        refine lv_iload hx hb dL_law_144 (lv_at hl 0 rfl) ?_
        refine lv_i2l (v := (sz + 1).toInt64) hx hb dL_law_146 rfl ?_
        refine W.lcmp hx hb dL_law_147 ?_
        refine lv_if_eq (tgt := 153) hx hb dL_law_148 (by decide) (fun c3 => ?_) (fun c3 => ?_)
        · skip
          refine lv_goto (tgt := 576) hx hb dL_law_153 (by decide) ?_
          refine W.widen (k := 14 + 2 * (B + 1)) (n := 13169 + 12 * (B + 1)) (by omega) (by omega) ?_
          exact back (cc, tc, fc, hc, dr ||| mk_bit (xs (3 * B + 1)), lt_ord dr dO (xs (3 * B + 1)), fC, fO, fT, fH) (0, ct, th, fo, sg, sz + 1, hc2, fL, fN, upd fD sz.toNatClampNeg (xs (3 * B + 1)), fH2, fV, fM, fW) (o_set g (nI (pb_sz (dr ||| mk_bit (xs (3 * B + 1)))))) H _ (⟨n, d + 1, q, zl, hrel⟩) hP hD hS ls (lv_sub hl [2, 3, 4, 5, 6] rfl)
        · skip
          exact absurd ((lg_cmp_eq _ _).mpr (congrArg Int32.toInt64 (hval))) c3
    · skip
      exact absurd rfl c1
set_option maxHeartbeats 1000000 in
set_option maxRecDepth 100000 in
/-- law_op1 -/
theorem law_op1 {p : Program} {l : Launch} {e : Env} {s : State} {m : MethodId} {below : List Frame} {meth : Method} {c : Code} {b L : Nat} {xs : Nat → Int32} (hl9 : l.stackTraces = false) (hL : L ≤ 1536) (C0 : lw_At p s m meth c b L xs) (hT : Th (fun q => s.heap.size ≤ q) s s.heap) {dC : Nat → ClassId} {dI : Nat → Nat → Nat} {ax : Nat → Nat} {yx : Nat → ClassId} {am : Nat → Nat} {ym : Nat → ClassId} {qo : Nat} {yo : ClassId} (hK : va_K (dC, dI) cls2 (tysL yx ym yo) s) {B : Nat} (hB : 3 * B + 3 ≤ L) {u : XS} {mm : MS} {g : Nat → Int64} {H : Heap} {locs : List Loc} (hRel : Rel B u mm) (hP : va_P (dC, dI) cls2 (LWd ax yx am ym qo yo u mm g) H) (hD : va_D (fun q => s.heap.size ≤ q) (LWd ax yx am ym qo yo u mm g)) (hS : va_S (fun q => s.heap.size ≤ q) s.heap H locs) (back : ∀ (u : XS) (mm : MS) (g : Nat → Int64) (H : Heap) (locs : List Loc), Rel (B + 1) u mm → va_P (dC, dI) cls2 (LWd ax yx am ym qo yo u mm g) H → va_D (fun q => s.heap.size ≤ q) (LWd ax yx am ym qo yo u mm g) → va_S (fun q => s.heap.size ≤ q) s.heap H locs → ∀ ls, lv_has ls 7 [(4, .int (nI (3 * B))), (0, .ref b), (1, .ref (ax 0)), (2, .ref (am 0)), (3, .ref qo)] → LWj p l e s m b below meth c H locs (B + 1) 576 ls) : ∀ ls, lv_has ls 7 [(4, .int (nI (3 * B))), (0, .ref b), (1, .ref (ax 0)), (2, .ref (am 0)), (3, .ref qo)] → LWj p l e s m b below meth c H locs B 156 ls := by
  obtain ⟨hx, hb, hr, hml, hown, hts, hX, hbl, hlocks, hgv⟩ := C0
  have hw : ∀ w ∈ WB, w.before #[Value.ref b] s = true := fun w h => hts w (WB_lw w h)
  have hA : ∀ q : Nat, s.heap.size ≤ q → (fun q : Nat => s.heap.size ≤ q) q := fun _ h => h
  have hbA : ¬ (fun q : Nat => s.heap.size ≤ q) b := Nat.not_le.mpr hbl
  obtain ⟨cc, tc, fc, hc, dr, dO, fC, fO, fT, fH⟩ := u
  obtain ⟨co, ct, th, fo, sg, sz, hc2, fL, fN, fD, fH2, fV, fM, fW⟩ := mm
  obtain ⟨n, d, q, zl, hR⟩ := hRel
  obtain ⟨h1, h2, h3, h4, h5, h6, h7, h8, h9, h10, h11, h12, h13, h14, h15, h16, h17⟩ := id hR
  have hd := gs_16 h11
  have hTH : ∀ (H : Heap) (locs : List Loc), va_S (fun q => s.heap.size ≤ q) s.heap H locs → Th (fun q => H.size ≤ q) s H := fun H locs hS => (hT.kept hS.2.1).narrow (fun q h => Nat.le_trans hS.1 h)
  intro ls hl
  have hP : va_P (dC, dI) cls2 (LWd ax yx am ym qo yo (cc, tc, fc, hc, dr, dO, fC, fO, fT, fH) (co, ct, th, fo, sg, sz, hc2, fL, fN, fD, fH2, fV, fM, fW) g) H := hP
  have hD : va_D (fun q => s.heap.size ≤ q) (LWd ax yx am ym qo yo (cc, tc, fc, hc, dr, dO, fC, fO, fT, fH) (co, ct, th, fo, sg, sz, hc2, fL, fN, fD, fH2, fV, fM, fW) g) := hD
  refine lv_aload_n hx hb dL_law_156 rfl (lv_at hl 2 rfl) ?_
  refine lv_aload_n hx hb dL_law_157 rfl (lv_at hl 1 rfl) ?_
  refine lv_iload hx hb dL_law_158 (lv_at hl 0 rfl) ?_
  refine lv_iconst (v := 1) hx hb dL_law_160 (by decide) ?_
  refine lv_iadd hx hb dL_law_161 ?_
  rw [show nI (3 * B) + 1 = nI (3 * B + 1) from nI_add (3 * B) 1]
  refine va_sld hx hb hX hbl hbA hS (vp_in_nI (show 3 * B + 1 < L by omega) (by omega)) dL_law_162 ?_
  rw [nI_clamp (show 3 * B + 1 < 2 ^ 31 by omega)]
  refine lv_aload_n hx hb dL_law_163 rfl (lv_at hl 4 rfl) ?_
  have hPc := hP.sub (ws' := XOW ax yx qo yo ((cc, tc, fc, hc, dr, dO, fC, fO, fT, fH), g)) [0, 1, 2, 3, 4, 13] rfl
  have hDc := hD.sub (ws' := XOW ax yx qo yo ((cc, tc, fc, hc, dr, dO, fC, fO, fT, fH), g)) [0, 1, 2, 3, 4, 13] (by decide) rfl
  have hKc := hK.sub (tys' := tysXO yx yo) [0, 1, 2, 3, 11] rfl
  have hFc := va_free (wc := XOW ax yx qo yo ((cc, tc, fc, hc, dr, dO, fC, fO, fT, fH), g)) hD hS hA [0, 1, 2, 3, 4, 13] rfl
  refine va_calli (vx_runSW (As := [.ref (ax 0), .int (xs (3 * B + 1)), .ref qo]) (rest := []) ⟨hx, hb, hml, hown, hw⟩ (l_hint l hl9 dC dI ax yx qo yo H.size cc tc fc hc dr dO fC fO fT fH g (xs (3 * B + 1)) q h7 h2) (vx_cwSW 3 hw (gw_S wb_168 wb_169 wb_0 wb_170) rfl rfl rfl (by decide +kernel) ⟨(Nat.le_of_ble_eq_true rfl), (Nat.le_of_ble_eq_true rfl)⟩) ⟨blind_preXO, fun U hU hW => ⟨rfl, by rw [hU], by rw [hU]; exact hPc, va_K.moved hW.alike hKc, hDc.weaken (fun _ _ _ _ => trivial), ThU.at hU hW (hTH H _ hS)⟩⟩ rfl rfl hl.1 rfl (lv_room (Nat.le_of_ble_eq_true rfl)) dL_law_164 ⟨by show (14 + 2 * B) + 1 ≤ 1046; omega, by show (13169 + 12 * B) + 6 ≤ 21409; omega⟩) hS (fun q _ h => hFc q h) hFc (fun r1 u t H1 locs ht hvm hq hB9 hz1 hk1 hS => ?_)
  have hbb : ((xs (3 * B + 1)) < 0 ∨ ¬ (xs (3 * B + 1)) < 600) ↔ ((xs (3 * B + 1)) < 0 ∨ 599 < (xs (3 * B + 1))) := or_congr Iff.rfl ⟨fun h => hn_599 (Int32.not_lt.mp h), fun h z => absurd (hn_599b h) (Int32.not_le.mpr z)⟩
  by_cases hbad : ((xs (3 * B + 1)) < 0 ∨ ¬ (xs (3 * B + 1)) < 600)
  rotate_left
  by_cases h40 : q < 40
  rotate_left
  rotate_left
  · skip
    rcases hq with ⟨_, er1, rfl⟩ | ⟨z, _⟩ | ⟨z, _⟩
    rotate_left
    · exact absurd hbad z.1
    · exact absurd hbad z
    subst er1
    obtain ⟨hP1, hK1, hD1⟩ := hB9
    rw [ht] at hP1
    obtain ⟨hP, hD⟩ := va_join (wr := MW am ym (co, ct, th, fo, sg, sz, hc2, fL, fN, fD, fH2, fV, fM, fW)) (w1 := XOW ax yx qo yo ((cc, tc, fc, hc, dr, dO, fC, fO, fT, fH), g)) hP hD [0, 1, 2, 3, 4, 13] [5, 6, 7, 8, 9, 10, 11, 12] rfl rfl (by decide) (by decide) hk1 hFc hP1 hD1
    have hP : va_P (dC, dI) cls2 (LWd ax yx am ym qo yo (cc, tc, fc, hc, dr, dO, fC, fO, fT, fH) (co, ct, th, fo, sg, sz, hc2, fL, fN, fD, fH2, fV, fM, fW) g) H1 := hP.sub [8, 9, 10, 11, 12, 0, 1, 2, 3, 4, 5, 6, 7, 13] rfl
    have hD : va_D (fun q => s.heap.size ≤ q) (LWd ax yx am ym qo yo (cc, tc, fc, hc, dr, dO, fC, fO, fT, fH) (co, ct, th, fo, sg, sz, hc2, fL, fN, fD, fH2, fV, fM, fW) g) := hD.sub [8, 9, 10, 11, 12, 0, 1, 2, 3, 4, 5, 6, 7, 13] (by decide) rfl
    clear hP1 hK1 hD1 hk1 hz1 ht hPc hDc hKc hFc
    generalize H1 = H at hP hS ⊢
    refine lv_istore (lv' := [(5, .int 1), (4, .int (nI (3 * B))), (0, .ref b), (1, .ref (ax 0)), (2, .ref (am 0)), (3, .ref qo)]) hx hb dL_law_167 hl (by decide) rfl (fun ls hl => ?_)
    refine lv_aload_n hx hb dL_law_169 rfl (lv_at hl 4 rfl) ?_
    refine lv_aload_n hx hb dL_law_170 rfl (lv_at hl 2 rfl) ?_
    refine lv_iload hx hb dL_law_171 (lv_at hl 1 rfl) ?_
    refine lv_iconst (v := 1) hx hb dL_law_173 (by decide) ?_
    refine lv_iadd hx hb dL_law_174 ?_
    rw [show nI (3 * B) + 1 = nI (3 * B + 1) from nI_add (3 * B) 1]
    refine va_sld hx hb hX hbl hbA hS (vp_in_nI (show 3 * B + 1 < L by omega) (by omega)) dL_law_175 ?_
    rw [nI_clamp (show 3 * B + 1 < 2 ^ 31 by omega)]
    have hPc := hP.sub (ws' := MW am ym (co, ct, th, fo, sg, sz, hc2, fL, fN, fD, fH2, fV, fM, fW)) [5, 6, 7, 8, 9, 10, 11, 12] rfl
    have hDc := hD.sub (ws' := MW am ym (co, ct, th, fo, sg, sz, hc2, fL, fN, fD, fH2, fV, fM, fW)) [5, 6, 7, 8, 9, 10, 11, 12] (by decide) rfl
    have hKc := hK.sub (tys' := tysM ym) [4, 5, 6, 7, 8, 9, 10] rfl
    have hFc := va_free (wc := MW am ym (co, ct, th, fo, sg, sz, hc2, fL, fN, fD, fH2, fV, fM, fW)) hD hS hA [5, 6, 7, 8, 9, 10, 11, 12] rfl
    refine va_calli (va_runV (As := [.int (xs (3 * B + 1))]) (rest := []) ⟨hx, hb, hml, hown, hw⟩ (n_hint l dC dI am ym H.size co ct th fo sg sz hc2 fL fN fD fH2 fV fM fW (xs (3 * B + 1)) q h8 h2) (cwV 1 hw (gw_V wb_319 wb_320 wb_321 wb_2 wb_322) rfl rfl rfl (by decide +kernel) ⟨Nat.le_of_ble_eq_true rfl, Nat.le_of_ble_eq_true rfl⟩) ⟨blind_preM, va_recv hKc hPc (ci := 1) (q0 := 0) rfl rfl, fun U hU hW => ⟨rfl, by rw [hU], by rw [hU]; exact hPc, va_K.moved hW.alike hKc, hDc.weaken (fun _ _ _ _ => trivial)⟩⟩ rfl rfl hl.1 rfl (lv_room (Nat.le_of_ble_eq_true rfl)) dL_law_176 ⟨by show (14 + 2 * B + 1) + 0 ≤ 1046; omega, by show (13169 + 12 * B + 6) + 0 ≤ 21409; omega⟩) hS (fun q _ h => hFc q h) hFc (fun r2 u t H1 locs ht hvm hq2 hB9 hz1 hk1 hS => ?_)
    rcases hq2 with ⟨_, er2, rfl⟩ | ⟨z, _⟩ | ⟨z, _⟩
    rotate_left
    · exact absurd (hbb.mp hbad) z
    · exact absurd (hbb.mp hbad) z
    subst er2
    obtain ⟨hP1, hK1, hD1⟩ := hB9
    rw [ht] at hP1
    obtain ⟨hP, hD⟩ := va_join (wr := XOW ax yx qo yo ((cc, tc, fc, hc, dr, dO, fC, fO, fT, fH), g)) (w1 := MW am ym (1, ct, th, fo, sg, sz, hc2, fL, fN, fD, fH2, fV, fM, fW)) hP hD [5, 6, 7, 8, 9, 10, 11, 12] [0, 1, 2, 3, 4, 13] rfl rfl (by decide) (by decide) hk1 hFc hP1 hD1
    have hP : va_P (dC, dI) cls2 (LWd ax yx am ym qo yo (cc, tc, fc, hc, dr, dO, fC, fO, fT, fH) (1, ct, th, fo, sg, sz, hc2, fL, fN, fD, fH2, fV, fM, fW) g) H1 := hP.sub [0, 1, 2, 3, 4, 6, 7, 8, 9, 10, 11, 12, 13, 5] rfl
    have hD : va_D (fun q => s.heap.size ≤ q) (LWd ax yx am ym qo yo (cc, tc, fc, hc, dr, dO, fC, fO, fT, fH) (1, ct, th, fo, sg, sz, hc2, fL, fN, fD, fH2, fV, fM, fW) g) := hD.sub [0, 1, 2, 3, 4, 6, 7, 8, 9, 10, 11, 12, 13, 5] (by decide) rfl
    clear hP1 hK1 hD1 hk1 hz1 ht hPc hDc hKc hFc
    generalize H1 = H at hP hS ⊢
    refine lv_istore (lv' := [(6, .int 0), (5, .int 1), (4, .int (nI (3 * B))), (0, .ref b), (1, .ref (ax 0)), (2, .ref (am 0)), (3, .ref qo)]) hx hb dL_law_179 hl (by decide) rfl (fun ls hl => ?_)
    refine lv_aload_n hx hb dL_law_181 rfl (lv_at hl 5 rfl) ?_
    have hPc := hP.sub (ws' := MW am ym (1, ct, th, fo, sg, sz, hc2, fL, fN, fD, fH2, fV, fM, fW)) [5, 6, 7, 8, 9, 10, 11, 12] rfl
    have hKc := hK.sub (tys' := tysM ym) [4, 5, 6, 7, 8, 9, 10] rfl
    refine vp_callSi (W.runV (As := []) (rest := []) ⟨hx, hb, hml, hown, hw⟩ (n_thrown l dC dI am ym 1 ct th fo sg sz hc2 fL fN fD fH2 fV fM fW) (cwV 0 hw (gw_V wb_311 wb_312 wb_313 wb_2 wb_314) rfl rfl rfl (by decide +kernel) ⟨Nat.le_of_ble_eq_true rfl, Nat.le_of_ble_eq_true rfl⟩) ⟨blind_rdM, va_recv hKc hPc (ci := 1) (q0 := 0) rfl rfl, fun U hU hW => ⟨rfl, by rw [hU]; exact hPc, va_K.moved hW.alike hKc⟩⟩ rfl rfl hl.1 rfl (lv_room (Nat.le_of_ble_eq_true rfl)) dL_law_182 ⟨by show (14 + 2 * B + 1) + 0 ≤ 1046; omega, by show (13169 + 12 * B + 6) + 0 ≤ 21409; omega⟩) (fun r3 hr3 => ?_)
    subst hr3
    refine lv_iload hx hb dL_law_185 (lv_at hl 1 rfl) ?_
    refine lv_icmp_eq (tgt := 192) hx hb dL_law_187 (by decide) (fun c1 => ?_) (fun c1 => ?_)
    · skip
      refine lv_iload hx hb dL_law_192 (lv_at hl 1 rfl) ?_
      refine lv_if_ne (tgt := 209) hx hb dL_law_194 (by decide) (fun c2 => ?_) (fun c2 => ?_)
      · skip
        refine lv_goto (tgt := 576) hx hb dL_law_209 (by decide) ?_
        refine W.widen (k := 14 + 2 * (B + 1)) (n := 13169 + 12 * (B + 1)) (by omega) (by omega) ?_
        exact back (cc, tc, fc, hc, dr, dO, fC, fO, fT, fH) (1, ct, th, fo, sg, sz, hc2, fL, fN, fD, fH2, fV, fM, fW) g H _ (⟨n, d, q, zl, R_up hR⟩) hP hD hS ls (lv_sub hl [2, 3, 4, 5, 6] rfl)
      · skip
        exact absurd c2 (by decide)
    · skip
      exact absurd rfl c1
  · skip
    rcases hq with ⟨z, _⟩ | ⟨z, _⟩ | ⟨_, _, er1, rfl⟩
    · exact absurd z hbad
    · exact absurd (by rw [h7]; exact nI_lt (b := 40) h40 (by decide)) z.2
    subst er1
    obtain ⟨hP1, hK1, hD1⟩ := hB9
    rw [ht] at hP1
    obtain ⟨hP, hD⟩ := va_join (wr := MW am ym (co, ct, th, fo, sg, sz, hc2, fL, fN, fD, fH2, fV, fM, fW)) (w1 := XOW ax yx qo yo ((cc, tc, fc, hc + 1, dr, dO, fC, fO, fT, upd fH hc.toNatClampNeg (xs (3 * B + 1))), (o_set g (hc + 1)))) hP hD [0, 1, 2, 3, 4, 13] [5, 6, 7, 8, 9, 10, 11, 12] rfl rfl (by decide) (by decide) hk1 hFc hP1 hD1
    have hP : va_P (dC, dI) cls2 (LWd ax yx am ym qo yo (cc, tc, fc, hc + 1, dr, dO, fC, fO, fT, upd fH hc.toNatClampNeg (xs (3 * B + 1))) (co, ct, th, fo, sg, sz, hc2, fL, fN, fD, fH2, fV, fM, fW) (o_set g (hc + 1))) H1 := hP.sub [8, 9, 10, 11, 12, 0, 1, 2, 3, 4, 5, 6, 7, 13] rfl
    have hD : va_D (fun q => s.heap.size ≤ q) (LWd ax yx am ym qo yo (cc, tc, fc, hc + 1, dr, dO, fC, fO, fT, upd fH hc.toNatClampNeg (xs (3 * B + 1))) (co, ct, th, fo, sg, sz, hc2, fL, fN, fD, fH2, fV, fM, fW) (o_set g (hc + 1))) := hD.sub [8, 9, 10, 11, 12, 0, 1, 2, 3, 4, 5, 6, 7, 13] (by decide) rfl
    clear hP1 hK1 hD1 hk1 hz1 ht hPc hDc hKc hFc
    generalize H1 = H at hP hS ⊢
    refine lv_istore (lv' := [(5, .int 0), (4, .int (nI (3 * B))), (0, .ref b), (1, .ref (ax 0)), (2, .ref (am 0)), (3, .ref qo)]) hx hb dL_law_167 hl (by decide) rfl (fun ls hl => ?_)
    refine lv_aload_n hx hb dL_law_169 rfl (lv_at hl 4 rfl) ?_
    refine lv_aload_n hx hb dL_law_170 rfl (lv_at hl 2 rfl) ?_
    refine lv_iload hx hb dL_law_171 (lv_at hl 1 rfl) ?_
    refine lv_iconst (v := 1) hx hb dL_law_173 (by decide) ?_
    refine lv_iadd hx hb dL_law_174 ?_
    rw [show nI (3 * B) + 1 = nI (3 * B + 1) from nI_add (3 * B) 1]
    refine va_sld hx hb hX hbl hbA hS (vp_in_nI (show 3 * B + 1 < L by omega) (by omega)) dL_law_175 ?_
    rw [nI_clamp (show 3 * B + 1 < 2 ^ 31 by omega)]
    have hPc := hP.sub (ws' := MW am ym (co, ct, th, fo, sg, sz, hc2, fL, fN, fD, fH2, fV, fM, fW)) [5, 6, 7, 8, 9, 10, 11, 12] rfl
    have hDc := hD.sub (ws' := MW am ym (co, ct, th, fo, sg, sz, hc2, fL, fN, fD, fH2, fV, fM, fW)) [5, 6, 7, 8, 9, 10, 11, 12] (by decide) rfl
    have hKc := hK.sub (tys' := tysM ym) [4, 5, 6, 7, 8, 9, 10] rfl
    have hFc := va_free (wc := MW am ym (co, ct, th, fo, sg, sz, hc2, fL, fN, fD, fH2, fV, fM, fW)) hD hS hA [5, 6, 7, 8, 9, 10, 11, 12] rfl
    refine va_calli (va_runV (As := [.int (xs (3 * B + 1))]) (rest := []) ⟨hx, hb, hml, hown, hw⟩ (n_hint l dC dI am ym H.size co ct th fo sg sz hc2 fL fN fD fH2 fV fM fW (xs (3 * B + 1)) q h8 h2) (cwV 1 hw (gw_V wb_319 wb_320 wb_321 wb_2 wb_322) rfl rfl rfl (by decide +kernel) ⟨Nat.le_of_ble_eq_true rfl, Nat.le_of_ble_eq_true rfl⟩) ⟨blind_preM, va_recv hKc hPc (ci := 1) (q0 := 0) rfl rfl, fun U hU hW => ⟨rfl, by rw [hU], by rw [hU]; exact hPc, va_K.moved hW.alike hKc, hDc.weaken (fun _ _ _ _ => trivial)⟩⟩ rfl rfl hl.1 rfl (lv_room (Nat.le_of_ble_eq_true rfl)) dL_law_176 ⟨by show (14 + 2 * B + 1) + 0 ≤ 1046; omega, by show (13169 + 12 * B + 6) + 0 ≤ 21409; omega⟩) hS (fun q _ h => hFc q h) hFc (fun r2 u t H1 locs ht hvm hq2 hB9 hz1 hk1 hS => ?_)
    rcases hq2 with ⟨z, _⟩ | ⟨_, z, _⟩ | ⟨_, _, er2, rfl⟩
    · exact absurd (hbb.mpr z) hbad
    · exact absurd ((nI_eq (a := q) (b := 40) (by omega) (by decide)).mp (by rw [← h8]; exact z)) (by omega)
    subst er2
    obtain ⟨hval, hrel⟩ := R_hint (k := (xs (3 * B + 1))) hR h40
    obtain ⟨hP1, hK1, hD1⟩ := hB9
    rw [ht] at hP1
    obtain ⟨hP, hD⟩ := va_join (wr := XOW ax yx qo yo ((cc, tc, fc, hc + 1, dr, dO, fC, fO, fT, upd fH hc.toNatClampNeg (xs (3 * B + 1))), (o_set g (hc + 1)))) (w1 := MW am ym (0, ct, th, fo, sg, sz, hc2 + 1, fL, fN, fD, upd fH2 hc2.toNatClampNeg (xs (3 * B + 1)), fV, fM, fW)) hP hD [5, 6, 7, 8, 9, 10, 11, 12] [0, 1, 2, 3, 4, 13] rfl rfl (by decide) (by decide) hk1 hFc hP1 hD1
    have hP : va_P (dC, dI) cls2 (LWd ax yx am ym qo yo (cc, tc, fc, hc + 1, dr, dO, fC, fO, fT, upd fH hc.toNatClampNeg (xs (3 * B + 1))) (0, ct, th, fo, sg, sz, hc2 + 1, fL, fN, fD, upd fH2 hc2.toNatClampNeg (xs (3 * B + 1)), fV, fM, fW) (o_set g (hc + 1))) H1 := hP.sub [0, 1, 2, 3, 4, 6, 7, 8, 9, 10, 11, 12, 13, 5] rfl
    have hD : va_D (fun q => s.heap.size ≤ q) (LWd ax yx am ym qo yo (cc, tc, fc, hc + 1, dr, dO, fC, fO, fT, upd fH hc.toNatClampNeg (xs (3 * B + 1))) (0, ct, th, fo, sg, sz, hc2 + 1, fL, fN, fD, upd fH2 hc2.toNatClampNeg (xs (3 * B + 1)), fV, fM, fW) (o_set g (hc + 1))) := hD.sub [0, 1, 2, 3, 4, 6, 7, 8, 9, 10, 11, 12, 13, 5] (by decide) rfl
    clear hP1 hK1 hD1 hk1 hz1 ht hPc hDc hKc hFc
    generalize H1 = H at hP hS ⊢
    refine lv_istore (lv' := [(6, .int (hc2 + 1)), (5, .int 0), (4, .int (nI (3 * B))), (0, .ref b), (1, .ref (ax 0)), (2, .ref (am 0)), (3, .ref qo)]) hx hb dL_law_179 hl (by decide) rfl (fun ls hl => ?_)
    refine lv_aload_n hx hb dL_law_181 rfl (lv_at hl 5 rfl) ?_
    have hPc := hP.sub (ws' := MW am ym (0, ct, th, fo, sg, sz, hc2 + 1, fL, fN, fD, upd fH2 hc2.toNatClampNeg (xs (3 * B + 1)), fV, fM, fW)) [5, 6, 7, 8, 9, 10, 11, 12] rfl
    have hKc := hK.sub (tys' := tysM ym) [4, 5, 6, 7, 8, 9, 10] rfl
    refine vp_callSi (W.runV (As := []) (rest := []) ⟨hx, hb, hml, hown, hw⟩ (n_thrown l dC dI am ym 0 ct th fo sg sz (hc2 + 1) fL fN fD (upd fH2 hc2.toNatClampNeg (xs (3 * B + 1))) fV fM fW) (cwV 0 hw (gw_V wb_311 wb_312 wb_313 wb_2 wb_314) rfl rfl rfl (by decide +kernel) ⟨Nat.le_of_ble_eq_true rfl, Nat.le_of_ble_eq_true rfl⟩) ⟨blind_rdM, va_recv hKc hPc (ci := 1) (q0 := 0) rfl rfl, fun U hU hW => ⟨rfl, by rw [hU]; exact hPc, va_K.moved hW.alike hKc⟩⟩ rfl rfl hl.1 rfl (lv_room (Nat.le_of_ble_eq_true rfl)) dL_law_182 ⟨by show (14 + 2 * B + 1) + 0 ≤ 1046; omega, by show (13169 + 12 * B + 6) + 0 ≤ 21409; omega⟩) (fun r3 hr3 => ?_)
    subst hr3
    refine lv_iload hx hb dL_law_185 (lv_at hl 1 rfl) ?_
    refine lv_icmp_eq (tgt := 192) hx hb dL_law_187 (by decide) (fun c1 => ?_) (fun c1 => ?_)
    · skip
      refine lv_iload hx hb dL_law_192 (lv_at hl 1 rfl) ?_
      refine lv_if_ne (tgt := 209) hx hb dL_law_194 (by decide) (fun c2 => ?_) (fun c2 => ?_)
      · skip
        exact absurd rfl c2
      · skip
        refine lv_aload_n hx hb dL_law_197 rfl (lv_at hl 6 rfl) ?_
        refine lv_iconst (v := 0) hx hb dL_law_198 (by decide) ?_
        refine va_lald hx hb hK hP 13 11 rfl rfl in_01 dL_law_199 ?_
        rw [o_get]
        refine lv_iload hx hb dL_law_200 (lv_at hl 0 rfl) ?_
        refine lv_i2l (v := (hc2 + 1).toInt64) hx hb dL_law_202 rfl ?_
        refine W.lcmp hx hb dL_law_203 ?_
        refine lv_if_eq (tgt := 209) hx hb dL_law_204 (by decide) (fun c3 => ?_) (fun c3 => ?_)
        · skip
          refine lv_goto (tgt := 576) hx hb dL_law_209 (by decide) ?_
          refine W.widen (k := 14 + 2 * (B + 1)) (n := 13169 + 12 * (B + 1)) (by omega) (by omega) ?_
          exact back (cc, tc, fc, hc + 1, dr, dO, fC, fO, fT, upd fH hc.toNatClampNeg (xs (3 * B + 1))) (0, ct, th, fo, sg, sz, hc2 + 1, fL, fN, fD, upd fH2 hc2.toNatClampNeg (xs (3 * B + 1)), fV, fM, fW) (o_set g (hc + 1)) H _ (⟨n, d, q + 1, zl, hrel⟩) hP hD hS ls (lv_sub hl [2, 3, 4, 5, 6] rfl)
        · skip
          exact absurd ((lg_cmp_eq _ _).mpr (congrArg Int32.toInt64 (hval))) c3
    · skip
      exact absurd rfl c1
  · skip
    have e40 : q = 40 := by omega
    rcases hq with ⟨z, _⟩ | ⟨_, er1, rfl⟩ | ⟨_, z, _⟩
    · exact absurd z hbad
    rotate_left
    · exact absurd z (by rw [h7, e40]; decide)
    subst er1
    obtain ⟨hP1, hK1, hD1⟩ := hB9
    rw [ht] at hP1
    obtain ⟨hP, hD⟩ := va_join (wr := MW am ym (co, ct, th, fo, sg, sz, hc2, fL, fN, fD, fH2, fV, fM, fW)) (w1 := XOW ax yx qo yo ((cc, tc, fc, hc, dr, dO, fC, fO, fT, fH), g)) hP hD [0, 1, 2, 3, 4, 13] [5, 6, 7, 8, 9, 10, 11, 12] rfl rfl (by decide) (by decide) hk1 hFc hP1 hD1
    have hP : va_P (dC, dI) cls2 (LWd ax yx am ym qo yo (cc, tc, fc, hc, dr, dO, fC, fO, fT, fH) (co, ct, th, fo, sg, sz, hc2, fL, fN, fD, fH2, fV, fM, fW) g) H1 := hP.sub [8, 9, 10, 11, 12, 0, 1, 2, 3, 4, 5, 6, 7, 13] rfl
    have hD : va_D (fun q => s.heap.size ≤ q) (LWd ax yx am ym qo yo (cc, tc, fc, hc, dr, dO, fC, fO, fT, fH) (co, ct, th, fo, sg, sz, hc2, fL, fN, fD, fH2, fV, fM, fW) g) := hD.sub [8, 9, 10, 11, 12, 0, 1, 2, 3, 4, 5, 6, 7, 13] (by decide) rfl
    clear hP1 hK1 hD1 hk1 hz1 ht hPc hDc hKc hFc
    generalize H1 = H at hP hS ⊢
    refine lv_istore (lv' := [(5, .int 2), (4, .int (nI (3 * B))), (0, .ref b), (1, .ref (ax 0)), (2, .ref (am 0)), (3, .ref qo)]) hx hb dL_law_167 hl (by decide) rfl (fun ls hl => ?_)
    refine lv_aload_n hx hb dL_law_169 rfl (lv_at hl 4 rfl) ?_
    refine lv_aload_n hx hb dL_law_170 rfl (lv_at hl 2 rfl) ?_
    refine lv_iload hx hb dL_law_171 (lv_at hl 1 rfl) ?_
    refine lv_iconst (v := 1) hx hb dL_law_173 (by decide) ?_
    refine lv_iadd hx hb dL_law_174 ?_
    rw [show nI (3 * B) + 1 = nI (3 * B + 1) from nI_add (3 * B) 1]
    refine va_sld hx hb hX hbl hbA hS (vp_in_nI (show 3 * B + 1 < L by omega) (by omega)) dL_law_175 ?_
    rw [nI_clamp (show 3 * B + 1 < 2 ^ 31 by omega)]
    have hPc := hP.sub (ws' := MW am ym (co, ct, th, fo, sg, sz, hc2, fL, fN, fD, fH2, fV, fM, fW)) [5, 6, 7, 8, 9, 10, 11, 12] rfl
    have hDc := hD.sub (ws' := MW am ym (co, ct, th, fo, sg, sz, hc2, fL, fN, fD, fH2, fV, fM, fW)) [5, 6, 7, 8, 9, 10, 11, 12] (by decide) rfl
    have hKc := hK.sub (tys' := tysM ym) [4, 5, 6, 7, 8, 9, 10] rfl
    have hFc := va_free (wc := MW am ym (co, ct, th, fo, sg, sz, hc2, fL, fN, fD, fH2, fV, fM, fW)) hD hS hA [5, 6, 7, 8, 9, 10, 11, 12] rfl
    refine va_calli (va_runV (As := [.int (xs (3 * B + 1))]) (rest := []) ⟨hx, hb, hml, hown, hw⟩ (n_hint l dC dI am ym H.size co ct th fo sg sz hc2 fL fN fD fH2 fV fM fW (xs (3 * B + 1)) q h8 h2) (cwV 1 hw (gw_V wb_319 wb_320 wb_321 wb_2 wb_322) rfl rfl rfl (by decide +kernel) ⟨Nat.le_of_ble_eq_true rfl, Nat.le_of_ble_eq_true rfl⟩) ⟨blind_preM, va_recv hKc hPc (ci := 1) (q0 := 0) rfl rfl, fun U hU hW => ⟨rfl, by rw [hU], by rw [hU]; exact hPc, va_K.moved hW.alike hKc, hDc.weaken (fun _ _ _ _ => trivial)⟩⟩ rfl rfl hl.1 rfl (lv_room (Nat.le_of_ble_eq_true rfl)) dL_law_176 ⟨by show (14 + 2 * B + 1) + 0 ≤ 1046; omega, by show (13169 + 12 * B + 6) + 0 ≤ 21409; omega⟩) hS (fun q _ h => hFc q h) hFc (fun r2 u t H1 locs ht hvm hq2 hB9 hz1 hk1 hS => ?_)
    rcases hq2 with ⟨z, _⟩ | ⟨_, _, er2, rfl⟩ | ⟨_, z, _⟩
    · exact absurd (hbb.mpr z) hbad
    rotate_left
    · exact absurd (by rw [h8, e40]; rfl) z
    subst er2
    obtain ⟨hP1, hK1, hD1⟩ := hB9
    rw [ht] at hP1
    obtain ⟨hP, hD⟩ := va_join (wr := XOW ax yx qo yo ((cc, tc, fc, hc, dr, dO, fC, fO, fT, fH), g)) (w1 := MW am ym (2, ct, th, fo, sg, sz, hc2, fL, fN, fD, fH2, fV, fM, fW)) hP hD [5, 6, 7, 8, 9, 10, 11, 12] [0, 1, 2, 3, 4, 13] rfl rfl (by decide) (by decide) hk1 hFc hP1 hD1
    have hP : va_P (dC, dI) cls2 (LWd ax yx am ym qo yo (cc, tc, fc, hc, dr, dO, fC, fO, fT, fH) (2, ct, th, fo, sg, sz, hc2, fL, fN, fD, fH2, fV, fM, fW) g) H1 := hP.sub [0, 1, 2, 3, 4, 6, 7, 8, 9, 10, 11, 12, 13, 5] rfl
    have hD : va_D (fun q => s.heap.size ≤ q) (LWd ax yx am ym qo yo (cc, tc, fc, hc, dr, dO, fC, fO, fT, fH) (2, ct, th, fo, sg, sz, hc2, fL, fN, fD, fH2, fV, fM, fW) g) := hD.sub [0, 1, 2, 3, 4, 6, 7, 8, 9, 10, 11, 12, 13, 5] (by decide) rfl
    clear hP1 hK1 hD1 hk1 hz1 ht hPc hDc hKc hFc
    generalize H1 = H at hP hS ⊢
    refine lv_istore (lv' := [(6, .int 0), (5, .int 2), (4, .int (nI (3 * B))), (0, .ref b), (1, .ref (ax 0)), (2, .ref (am 0)), (3, .ref qo)]) hx hb dL_law_179 hl (by decide) rfl (fun ls hl => ?_)
    refine lv_aload_n hx hb dL_law_181 rfl (lv_at hl 5 rfl) ?_
    have hPc := hP.sub (ws' := MW am ym (2, ct, th, fo, sg, sz, hc2, fL, fN, fD, fH2, fV, fM, fW)) [5, 6, 7, 8, 9, 10, 11, 12] rfl
    have hKc := hK.sub (tys' := tysM ym) [4, 5, 6, 7, 8, 9, 10] rfl
    refine vp_callSi (W.runV (As := []) (rest := []) ⟨hx, hb, hml, hown, hw⟩ (n_thrown l dC dI am ym 2 ct th fo sg sz hc2 fL fN fD fH2 fV fM fW) (cwV 0 hw (gw_V wb_311 wb_312 wb_313 wb_2 wb_314) rfl rfl rfl (by decide +kernel) ⟨Nat.le_of_ble_eq_true rfl, Nat.le_of_ble_eq_true rfl⟩) ⟨blind_rdM, va_recv hKc hPc (ci := 1) (q0 := 0) rfl rfl, fun U hU hW => ⟨rfl, by rw [hU]; exact hPc, va_K.moved hW.alike hKc⟩⟩ rfl rfl hl.1 rfl (lv_room (Nat.le_of_ble_eq_true rfl)) dL_law_182 ⟨by show (14 + 2 * B + 1) + 0 ≤ 1046; omega, by show (13169 + 12 * B + 6) + 0 ≤ 21409; omega⟩) (fun r3 hr3 => ?_)
    subst hr3
    refine lv_iload hx hb dL_law_185 (lv_at hl 1 rfl) ?_
    refine lv_icmp_eq (tgt := 192) hx hb dL_law_187 (by decide) (fun c1 => ?_) (fun c1 => ?_)
    · skip
      refine lv_iload hx hb dL_law_192 (lv_at hl 1 rfl) ?_
      refine lv_if_ne (tgt := 209) hx hb dL_law_194 (by decide) (fun c2 => ?_) (fun c2 => ?_)
      · skip
        refine lv_goto (tgt := 576) hx hb dL_law_209 (by decide) ?_
        refine W.widen (k := 14 + 2 * (B + 1)) (n := 13169 + 12 * (B + 1)) (by omega) (by omega) ?_
        exact back (cc, tc, fc, hc, dr, dO, fC, fO, fT, fH) (2, ct, th, fo, sg, sz, hc2, fL, fN, fD, fH2, fV, fM, fW) g H _ (⟨n, d, q, zl, R_up hR⟩) hP hD hS ls (lv_sub hl [2, 3, 4, 5, 6] rfl)
      · skip
        exact absurd c2 (by decide)
    · skip
      exact absurd rfl c1
set_option maxHeartbeats 1000000 in
set_option maxRecDepth 100000 in
/-- law_op3 -/
theorem law_op3 {p : Program} {l : Launch} {e : Env} {s : State} {m : MethodId} {below : List Frame} {meth : Method} {c : Code} {b L : Nat} {xs : Nat → Int32} (hl9 : l.stackTraces = false) (hL : L ≤ 1536) (C0 : lw_At p s m meth c b L xs) (hT : Th (fun q => s.heap.size ≤ q) s s.heap) {dC : Nat → ClassId} {dI : Nat → Nat → Nat} {ax : Nat → Nat} {yx : Nat → ClassId} {am : Nat → Nat} {ym : Nat → ClassId} {qo : Nat} {yo : ClassId} (hK : va_K (dC, dI) cls2 (tysL yx ym yo) s) {B : Nat} (hB : 3 * B + 3 ≤ L) {u : XS} {mm : MS} {g : Nat → Int64} {H : Heap} {locs : List Loc} (hRel : Rel B u mm) (hP : va_P (dC, dI) cls2 (LWd ax yx am ym qo yo u mm g) H) (hD : va_D (fun q => s.heap.size ≤ q) (LWd ax yx am ym qo yo u mm g)) (hS : va_S (fun q => s.heap.size ≤ q) s.heap H locs) (back : ∀ (u : XS) (mm : MS) (g : Nat → Int64) (H : Heap) (locs : List Loc), Rel (B + 1) u mm → va_P (dC, dI) cls2 (LWd ax yx am ym qo yo u mm g) H → va_D (fun q => s.heap.size ≤ q) (LWd ax yx am ym qo yo u mm g) → va_S (fun q => s.heap.size ≤ q) s.heap H locs → ∀ ls, lv_has ls 7 [(4, .int (nI (3 * B))), (0, .ref b), (1, .ref (ax 0)), (2, .ref (am 0)), (3, .ref qo)] → LWj p l e s m b below meth c H locs (B + 1) 576 ls) : ∀ ls, lv_has ls 7 [(4, .int (nI (3 * B))), (0, .ref b), (1, .ref (ax 0)), (2, .ref (am 0)), (3, .ref qo)] → LWj p l e s m b below meth c H locs B 225 ls := by
  obtain ⟨hx, hb, hr, hml, hown, hts, hX, hbl, hlocks, hgv⟩ := C0
  have hw : ∀ w ∈ WB, w.before #[Value.ref b] s = true := fun w h => hts w (WB_lw w h)
  have hA : ∀ q : Nat, s.heap.size ≤ q → (fun q : Nat => s.heap.size ≤ q) q := fun _ h => h
  have hbA : ¬ (fun q : Nat => s.heap.size ≤ q) b := Nat.not_le.mpr hbl
  obtain ⟨cc, tc, fc, hc, dr, dO, fC, fO, fT, fH⟩ := u
  obtain ⟨co, ct, th, fo, sg, sz, hc2, fL, fN, fD, fH2, fV, fM, fW⟩ := mm
  obtain ⟨n, d, q, zl, hR⟩ := hRel
  obtain ⟨h1, h2, h3, h4, h5, h6, h7, h8, h9, h10, h11, h12, h13, h14, h15, h16, h17⟩ := id hR
  have hd := gs_16 h11
  have hTH : ∀ (H : Heap) (locs : List Loc), va_S (fun q => s.heap.size ≤ q) s.heap H locs → Th (fun q => H.size ≤ q) s H := fun H locs hS => (hT.kept hS.2.1).narrow (fun q h => Nat.le_trans hS.1 h)
  intro ls hl
  have hP : va_P (dC, dI) cls2 (LWd ax yx am ym qo yo (cc, tc, fc, hc, dr, dO, fC, fO, fT, fH) (co, ct, th, fo, sg, sz, hc2, fL, fN, fD, fH2, fV, fM, fW) g) H := hP
  have hD : va_D (fun q => s.heap.size ≤ q) (LWd ax yx am ym qo yo (cc, tc, fc, hc, dr, dO, fC, fO, fT, fH) (co, ct, th, fo, sg, sz, hc2, fL, fN, fD, fH2, fV, fM, fW) g) := hD
  refine lv_aload_n hx hb dL_law_225 rfl (lv_at hl 2 rfl) ?_
  refine lv_aload_n hx hb dL_law_226 rfl (lv_at hl 4 rfl) ?_
  have hPc := hP.sub (ws' := XOW ax yx qo yo ((cc, tc, fc, hc, dr, dO, fC, fO, fT, fH), g)) [0, 1, 2, 3, 4, 13] rfl
  have hDc := hD.sub (ws' := XOW ax yx qo yo ((cc, tc, fc, hc, dr, dO, fC, fO, fT, fH), g)) [0, 1, 2, 3, 4, 13] (by decide) rfl
  have hKc := hK.sub (tys' := tysXO yx yo) [0, 1, 2, 3, 11] rfl
  have hFc := va_free (wc := XOW ax yx qo yo ((cc, tc, fc, hc, dr, dO, fC, fO, fT, fH), g)) hD hS hA [0, 1, 2, 3, 4, 13] rfl
  refine va_calli (vx_runSW (As := [.ref (ax 0), .ref qo]) (rest := []) ⟨hx, hb, hml, hown, hw⟩ (l_give l hl9 dC dI ax yx qo yo H.size cc tc fc hc dr dO fC fO fT fH g n (by omega) h3) (vx_cwSW 2 hw (gw_S wb_193 wb_194 wb_0 wb_195) rfl rfl rfl (by decide +kernel) ⟨(Nat.le_of_ble_eq_true rfl), (Nat.le_of_ble_eq_true rfl)⟩) ⟨blind_preXO, fun U hU hW => ⟨rfl, by rw [hU], by rw [hU]; exact hPc, va_K.moved hW.alike hKc, hDc.weaken (fun _ _ _ _ => trivial), ThU.at hU hW (hTH H _ hS)⟩⟩ rfl rfl hl.1 rfl (lv_room (Nat.le_of_ble_eq_true rfl)) dL_law_227 ⟨by show (14 + 2 * B) + 0 ≤ 1046; omega, by show (13169 + 12 * B) + 0 ≤ 21409; omega⟩) hS (fun q _ h => hFc q h) hFc (fun r1 u t H1 locs ht hvm hq hB9 hz1 hk1 hS => ?_)
  refine (id ?_)
  · skip
    obtain ⟨er1, rfl⟩ := hq
    subst er1
    obtain ⟨hP1, hK1, hD1⟩ := hB9
    rw [ht] at hP1
    obtain ⟨hP, hD⟩ := va_join (wr := MW am ym (co, ct, th, fo, sg, sz, hc2, fL, fN, fD, fH2, fV, fM, fW)) (w1 := XOW ax yx qo yo ((kp_S (cc, tc, fc, hc, dr, dO, fC, fO, fT, fH)), (o_set g cc))) hP hD [0, 1, 2, 3, 4, 13] [5, 6, 7, 8, 9, 10, 11, 12] rfl rfl (by decide) (by decide) hk1 hFc hP1 hD1
    have hP : va_P (dC, dI) cls2 (LWd ax yx am ym qo yo (kp_S (cc, tc, fc, hc, dr, dO, fC, fO, fT, fH)) (co, ct, th, fo, sg, sz, hc2, fL, fN, fD, fH2, fV, fM, fW) (o_set g cc)) H1 := hP.sub [8, 9, 10, 11, 12, 0, 1, 2, 3, 4, 5, 6, 7, 13] rfl
    have hD : va_D (fun q => s.heap.size ≤ q) (LWd ax yx am ym qo yo (kp_S (cc, tc, fc, hc, dr, dO, fC, fO, fT, fH)) (co, ct, th, fo, sg, sz, hc2, fL, fN, fD, fH2, fV, fM, fW) (o_set g cc)) := hD.sub [8, 9, 10, 11, 12, 0, 1, 2, 3, 4, 5, 6, 7, 13] (by decide) rfl
    clear hP1 hK1 hD1 hk1 hz1 ht hPc hDc hKc hFc
    generalize H1 = H at hP hS ⊢
    refine lv_istore (lv' := [(5, .int 0), (4, .int (nI (3 * B))), (0, .ref b), (1, .ref (ax 0)), (2, .ref (am 0)), (3, .ref qo)]) hx hb dL_law_230 hl (by decide) rfl (fun ls hl => ?_)
    refine lv_aload_n hx hb dL_law_232 rfl (lv_at hl 4 rfl) ?_
    have hPc := hP.sub (ws' := MW am ym (co, ct, th, fo, sg, sz, hc2, fL, fN, fD, fH2, fV, fM, fW)) [5, 6, 7, 8, 9, 10, 11, 12] rfl
    have hDc := hD.sub (ws' := MW am ym (co, ct, th, fo, sg, sz, hc2, fL, fN, fD, fH2, fV, fM, fW)) [5, 6, 7, 8, 9, 10, 11, 12] (by decide) rfl
    have hKc := hK.sub (tys' := tysM ym) [4, 5, 6, 7, 8, 9, 10] rfl
    have hFc := va_free (wc := MW am ym (co, ct, th, fo, sg, sz, hc2, fL, fN, fD, fH2, fV, fM, fW)) hD hS hA [5, 6, 7, 8, 9, 10, 11, 12] rfl
    refine va_calli (va_runV (As := []) (rest := []) ⟨hx, hb, hml, hown, hw⟩ (n_give l dC dI am ym H.size co ct th fo sg sz hc2 fL fN fD fH2 fV fM fW n (by omega) h4 d hd h9 (R_rng h11)) (cwV 0 hw (gw_V wb_327 wb_328 wb_329 wb_2 wb_330) rfl rfl rfl (by decide +kernel) ⟨Nat.le_of_ble_eq_true rfl, Nat.le_of_ble_eq_true rfl⟩) ⟨blind_preM, va_recv hKc hPc (ci := 1) (q0 := 0) rfl rfl, fun U hU hW => ⟨rfl, by rw [hU], by rw [hU]; exact hPc, va_K.moved hW.alike hKc, hDc.weaken (fun _ _ _ _ => trivial)⟩⟩ rfl rfl hl.1 rfl (lv_room (Nat.le_of_ble_eq_true rfl)) dL_law_233 ⟨by show (14 + 2 * B + 0) + 0 ≤ 1046; omega, by show (13169 + 12 * B + 0) + 0 ≤ 21409; omega⟩) hS (fun q _ h => hFc q h) hFc (fun r2 u t H1 locs ht hvm hq2 hB9 hz1 hk1 hS => ?_)
    obtain ⟨er2, rfl⟩ := hq2
    obtain ⟨hval, hrel⟩ := R_add hR (by omega) h6 h7 h8 (Nat.le_refl _) h10 (fun fC2 g1 g2 => MI_give h11 h17 g1 g2)
    obtain ⟨hP1, hK1, hD1⟩ := hB9
    rw [ht] at hP1
    obtain ⟨hP, hD⟩ := va_join (wr := XOW ax yx qo yo ((kp_S (cc, tc, fc, hc, dr, dO, fC, fO, fT, fH)), (o_set g cc))) (w1 := MW am ym (ad_S n d (0, ct, th, fo, sg, sz, hc2, fL, fN, fD, fH2, fV, gm_it (fun j => ti_it fD fW (nI j) d 0 0) 1024 0 fM, fW))) hP hD [5, 6, 7, 8, 9, 10, 11, 12] [0, 1, 2, 3, 4, 13] rfl rfl (by decide) (by decide) hk1 hFc hP1 hD1
    have hP : va_P (dC, dI) cls2 (LWd ax yx am ym qo yo (kp_S (cc, tc, fc, hc, dr, dO, fC, fO, fT, fH)) (ad_S n d (0, ct, th, fo, sg, sz, hc2, fL, fN, fD, fH2, fV, gm_it (fun j => ti_it fD fW (nI j) d 0 0) 1024 0 fM, fW)) (o_set g cc)) H1 := hP.sub [0, 1, 2, 3, 4, 6, 7, 8, 9, 10, 11, 12, 13, 5] rfl
    have hD : va_D (fun q => s.heap.size ≤ q) (LWd ax yx am ym qo yo (kp_S (cc, tc, fc, hc, dr, dO, fC, fO, fT, fH)) (ad_S n d (0, ct, th, fo, sg, sz, hc2, fL, fN, fD, fH2, fV, gm_it (fun j => ti_it fD fW (nI j) d 0 0) 1024 0 fM, fW)) (o_set g cc)) := hD.sub [0, 1, 2, 3, 4, 6, 7, 8, 9, 10, 11, 12, 13, 5] (by decide) rfl
    clear hP1 hK1 hD1 hk1 hz1 ht hPc hDc hKc hFc
    generalize H1 = H at hP hS ⊢
    refine lv_istore (lv' := [(6, .int r2), (5, .int 0), (4, .int (nI (3 * B))), (0, .ref b), (1, .ref (ax 0)), (2, .ref (am 0)), (3, .ref qo)]) hx hb dL_law_236 hl (by decide) rfl (fun ls hl => ?_)
    refine lv_aload_n hx hb dL_law_238 rfl (lv_at hl 5 rfl) ?_
    have hPc := hP.sub (ws' := MW am ym (ad_S n d (0, ct, th, fo, sg, sz, hc2, fL, fN, fD, fH2, fV, gm_it (fun j => ti_it fD fW (nI j) d 0 0) 1024 0 fM, fW))) [5, 6, 7, 8, 9, 10, 11, 12] rfl
    have hKc := hK.sub (tys' := tysM ym) [4, 5, 6, 7, 8, 9, 10] rfl
    refine vp_callSi (W.runV (As := []) (rest := []) ⟨hx, hb, hml, hown, hw⟩ (n_thrown l dC dI am ym 0 (ct + 1) (th + 1) fo sg 0 hc2 (ad_it fD n d 0 fL) (upd fN n sz) fD fH2 fV (gm_it (fun j => ti_it fD fW (nI j) d 0 0) 1024 0 fM) fW) (cwV 0 hw (gw_V wb_311 wb_312 wb_313 wb_2 wb_314) rfl rfl rfl (by decide +kernel) ⟨Nat.le_of_ble_eq_true rfl, Nat.le_of_ble_eq_true rfl⟩) ⟨blind_rdM, va_recv hKc hPc (ci := 1) (q0 := 0) rfl rfl, fun U hU hW => ⟨rfl, by rw [hU]; exact hPc, va_K.moved hW.alike hKc⟩⟩ rfl rfl hl.1 rfl (lv_room (Nat.le_of_ble_eq_true rfl)) dL_law_239 ⟨by show (14 + 2 * B + 0) + 0 ≤ 1046; omega, by show (13169 + 12 * B + 0) + 0 ≤ 21409; omega⟩) (fun r3 hr3 => ?_)
    subst hr3
    refine lv_iload hx hb dL_law_242 (lv_at hl 1 rfl) ?_
    refine lv_icmp_eq (tgt := 249) hx hb dL_law_244 (by decide) (fun c1 => ?_) (fun c1 => ?_)
    · skip
      refine lv_iload hx hb dL_law_249 (lv_at hl 1 rfl) ?_
      refine lv_if_ne (tgt := 266) hx hb dL_law_251 (by decide) (fun c2 => ?_) (fun c2 => ?_)
      · skip
        exact absurd rfl c2
      · skip
        refine lv_aload_n hx hb dL_law_254 rfl (lv_at hl 6 rfl) ?_
        refine lv_iconst (v := 0) hx hb dL_law_255 (by decide) ?_
        refine va_lald hx hb hK hP 13 11 rfl rfl in_01 dL_law_256 ?_
        rw [o_get]
        refine lv_iload hx hb dL_law_257 (lv_at hl 0 rfl) ?_
        refine lv_i2l (v := r2.toInt64) hx hb dL_law_259 rfl ?_
        refine W.lcmp hx hb dL_law_260 ?_
        refine lv_if_eq (tgt := 266) hx hb dL_law_261 (by decide) (fun c3 => ?_) (fun c3 => ?_)
        · skip
          refine lv_goto (tgt := 576) hx hb dL_law_266 (by decide) ?_
          refine W.widen (k := 14 + 2 * (B + 1)) (n := 13169 + 12 * (B + 1)) (by omega) (by omega) ?_
          exact back (kp_S (cc, tc, fc, hc, dr, dO, fC, fO, fT, fH)) (ad_S n d (0, ct, th, fo, sg, sz, hc2, fL, fN, fD, fH2, fV, gm_it (fun j => ti_it fD fW (nI j) d 0 0) 1024 0 fM, fW)) (o_set g cc) H _ (⟨n + 1, 0, q, _, hrel⟩) hP hD hS ls (lv_sub hl [2, 3, 4, 5, 6] rfl)
        · skip
          exact absurd ((lg_cmp_eq _ _).mpr (congrArg Int32.toInt64 (hval.trans er2.symm))) c3
    · skip
      exact absurd rfl c1
set_option maxHeartbeats 1000000 in
set_option maxRecDepth 100000 in
/-- law_op6 -/
theorem law_op6 {p : Program} {l : Launch} {e : Env} {s : State} {m : MethodId} {below : List Frame} {meth : Method} {c : Code} {b L : Nat} {xs : Nat → Int32} (hl9 : l.stackTraces = false) (hL : L ≤ 1536) (C0 : lw_At p s m meth c b L xs) (hT : Th (fun q => s.heap.size ≤ q) s s.heap) {dC : Nat → ClassId} {dI : Nat → Nat → Nat} {ax : Nat → Nat} {yx : Nat → ClassId} {am : Nat → Nat} {ym : Nat → ClassId} {qo : Nat} {yo : ClassId} (hK : va_K (dC, dI) cls2 (tysL yx ym yo) s) {B : Nat} (hB : 3 * B + 3 ≤ L) {u : XS} {mm : MS} {g : Nat → Int64} {H : Heap} {locs : List Loc} (hRel : Rel B u mm) (hP : va_P (dC, dI) cls2 (LWd ax yx am ym qo yo u mm g) H) (hD : va_D (fun q => s.heap.size ≤ q) (LWd ax yx am ym qo yo u mm g)) (hS : va_S (fun q => s.heap.size ≤ q) s.heap H locs) (back : ∀ (u : XS) (mm : MS) (g : Nat → Int64) (H : Heap) (locs : List Loc), Rel (B + 1) u mm → va_P (dC, dI) cls2 (LWd ax yx am ym qo yo u mm g) H → va_D (fun q => s.heap.size ≤ q) (LWd ax yx am ym qo yo u mm g) → va_S (fun q => s.heap.size ≤ q) s.heap H locs → ∀ ls, lv_has ls 7 [(4, .int (nI (3 * B))), (0, .ref b), (1, .ref (ax 0)), (2, .ref (am 0)), (3, .ref qo)] → LWj p l e s m b below meth c H locs (B + 1) 576 ls) : ∀ ls, lv_has ls 7 [(4, .int (nI (3 * B))), (0, .ref b), (1, .ref (ax 0)), (2, .ref (am 0)), (3, .ref qo)] → LWj p l e s m b below meth c H locs B 357 ls := by
  obtain ⟨hx, hb, hr, hml, hown, hts, hX, hbl, hlocks, hgv⟩ := C0
  have hw : ∀ w ∈ WB, w.before #[Value.ref b] s = true := fun w h => hts w (WB_lw w h)
  have hA : ∀ q : Nat, s.heap.size ≤ q → (fun q : Nat => s.heap.size ≤ q) q := fun _ h => h
  have hbA : ¬ (fun q : Nat => s.heap.size ≤ q) b := Nat.not_le.mpr hbl
  obtain ⟨cc, tc, fc, hc, dr, dO, fC, fO, fT, fH⟩ := u
  obtain ⟨co, ct, th, fo, sg, sz, hc2, fL, fN, fD, fH2, fV, fM, fW⟩ := mm
  obtain ⟨n, d, q, zl, hR⟩ := hRel
  obtain ⟨h1, h2, h3, h4, h5, h6, h7, h8, h9, h10, h11, h12, h13, h14, h15, h16, h17⟩ := id hR
  have hd := gs_16 h11
  have hTH : ∀ (H : Heap) (locs : List Loc), va_S (fun q => s.heap.size ≤ q) s.heap H locs → Th (fun q => H.size ≤ q) s H := fun H locs hS => (hT.kept hS.2.1).narrow (fun q h => Nat.le_trans hS.1 h)
  intro ls hl
  have hP : va_P (dC, dI) cls2 (LWd ax yx am ym qo yo (cc, tc, fc, hc, dr, dO, fC, fO, fT, fH) (co, ct, th, fo, sg, sz, hc2, fL, fN, fD, fH2, fV, fM, fW) g) H := hP
  have hD : va_D (fun q => s.heap.size ≤ q) (LWd ax yx am ym qo yo (cc, tc, fc, hc, dr, dO, fC, fO, fT, fH) (co, ct, th, fo, sg, sz, hc2, fL, fN, fD, fH2, fV, fM, fW) g) := hD
  refine lv_aload_n hx hb dL_law_357 rfl (lv_at hl 2 rfl) ?_
  refine lv_aload_n hx hb dL_law_358 rfl (lv_at hl 1 rfl) ?_
  refine lv_iload hx hb dL_law_359 (lv_at hl 0 rfl) ?_
  refine lv_iconst (v := 1) hx hb dL_law_361 (by decide) ?_
  refine lv_iadd hx hb dL_law_362 ?_
  rw [show nI (3 * B) + 1 = nI (3 * B + 1) from nI_add (3 * B) 1]
  refine va_sld hx hb hX hbl hbA hS (vp_in_nI (show 3 * B + 1 < L by omega) (by omega)) dL_law_363 ?_
  rw [nI_clamp (show 3 * B + 1 < 2 ^ 31 by omega)]
  refine lv_aload_n hx hb dL_law_364 rfl (lv_at hl 4 rfl) ?_
  have hPc := hP.sub (ws' := XOW ax yx qo yo ((cc, tc, fc, hc, dr, dO, fC, fO, fT, fH), g)) [0, 1, 2, 3, 4, 13] rfl
  have hDc := hD.sub (ws' := XOW ax yx qo yo ((cc, tc, fc, hc, dr, dO, fC, fO, fT, fH), g)) [0, 1, 2, 3, 4, 13] (by decide) rfl
  have hKc := hK.sub (tys' := tysXO yx yo) [0, 1, 2, 3, 11] rfl
  have hFc := va_free (wc := XOW ax yx qo yo ((cc, tc, fc, hc, dr, dO, fC, fO, fT, fH), g)) hD hS hA [0, 1, 2, 3, 4, 13] rfl
  refine va_calli (vx_runSW (As := [.ref (ax 0), .int (xs (3 * B + 1)), .ref qo]) (rest := []) ⟨hx, hb, hml, hown, hw⟩ (l_drop l hl9 dC dI ax yx qo yo H.size cc tc fc hc dr dO fC fO fT fH g (xs (3 * B + 1)) n (by omega) h3) (vx_cwSW 3 hw (gw_S wb_232 wb_233 wb_0 wb_234) rfl rfl rfl (by decide +kernel) ⟨(Nat.le_of_ble_eq_true rfl), (Nat.le_of_ble_eq_true rfl)⟩) ⟨blind_preXO, fun U hU hW => ⟨rfl, by rw [hU], by rw [hU]; exact hPc, va_K.moved hW.alike hKc, hDc.weaken (fun _ _ _ _ => trivial), ThU.at hU hW (hTH H _ hS)⟩⟩ rfl rfl hl.1 rfl (lv_room (Nat.le_of_ble_eq_true rfl)) dL_law_365 ⟨by show (14 + 2 * B) + 1 ≤ 1046; omega, by show (13169 + 12 * B) + 6 ≤ 21409; omega⟩) hS (fun q _ h => hFc q h) hFc (fun r1 u t H1 locs ht hvm hq hB9 hz1 hk1 hS => ?_)
  have hth := there_ok h15 (by omega) h3 h4 (xs (3 * B + 1))
  by_cases hbad : th_b cc fT (xs (3 * B + 1)) = 0
  · skip
    rcases hq with ⟨_, er1, rfl⟩ | ⟨z, _⟩
    rotate_left
    · exact absurd hbad z
    subst er1
    obtain ⟨hP1, hK1, hD1⟩ := hB9
    rw [ht] at hP1
    obtain ⟨hP, hD⟩ := va_join (wr := MW am ym (co, ct, th, fo, sg, sz, hc2, fL, fN, fD, fH2, fV, fM, fW)) (w1 := XOW ax yx qo yo ((cc, tc, fc, hc, dr, dO, fC, fO, fT, fH), g)) hP hD [0, 1, 2, 3, 4, 13] [5, 6, 7, 8, 9, 10, 11, 12] rfl rfl (by decide) (by decide) hk1 hFc hP1 hD1
    have hP : va_P (dC, dI) cls2 (LWd ax yx am ym qo yo (cc, tc, fc, hc, dr, dO, fC, fO, fT, fH) (co, ct, th, fo, sg, sz, hc2, fL, fN, fD, fH2, fV, fM, fW) g) H1 := hP.sub [8, 9, 10, 11, 12, 0, 1, 2, 3, 4, 5, 6, 7, 13] rfl
    have hD : va_D (fun q => s.heap.size ≤ q) (LWd ax yx am ym qo yo (cc, tc, fc, hc, dr, dO, fC, fO, fT, fH) (co, ct, th, fo, sg, sz, hc2, fL, fN, fD, fH2, fV, fM, fW) g) := hD.sub [8, 9, 10, 11, 12, 0, 1, 2, 3, 4, 5, 6, 7, 13] (by decide) rfl
    clear hP1 hK1 hD1 hk1 hz1 ht hPc hDc hKc hFc
    generalize H1 = H at hP hS ⊢
    refine lv_istore (lv' := [(5, .int 1), (4, .int (nI (3 * B))), (0, .ref b), (1, .ref (ax 0)), (2, .ref (am 0)), (3, .ref qo)]) hx hb dL_law_368 hl (by decide) rfl (fun ls hl => ?_)
    refine lv_aload_n hx hb dL_law_370 rfl (lv_at hl 4 rfl) ?_
    refine lv_aload_n hx hb dL_law_371 rfl (lv_at hl 2 rfl) ?_
    refine lv_iload hx hb dL_law_372 (lv_at hl 1 rfl) ?_
    refine lv_iconst (v := 1) hx hb dL_law_374 (by decide) ?_
    refine lv_iadd hx hb dL_law_375 ?_
    rw [show nI (3 * B) + 1 = nI (3 * B + 1) from nI_add (3 * B) 1]
    refine va_sld hx hb hX hbl hbA hS (vp_in_nI (show 3 * B + 1 < L by omega) (by omega)) dL_law_376 ?_
    rw [nI_clamp (show 3 * B + 1 < 2 ^ 31 by omega)]
    have hPc := hP.sub (ws' := MW am ym (co, ct, th, fo, sg, sz, hc2, fL, fN, fD, fH2, fV, fM, fW)) [5, 6, 7, 8, 9, 10, 11, 12] rfl
    have hDc := hD.sub (ws' := MW am ym (co, ct, th, fo, sg, sz, hc2, fL, fN, fD, fH2, fV, fM, fW)) [5, 6, 7, 8, 9, 10, 11, 12] (by decide) rfl
    have hKc := hK.sub (tys' := tysM ym) [4, 5, 6, 7, 8, 9, 10] rfl
    have hFc := va_free (wc := MW am ym (co, ct, th, fo, sg, sz, hc2, fL, fN, fD, fH2, fV, fM, fW)) hD hS hA [5, 6, 7, 8, 9, 10, 11, 12] rfl
    refine va_calli (va_runV (As := [.int (xs (3 * B + 1))]) (rest := []) ⟨hx, hb, hml, hown, hw⟩ (n_drop l dC dI am ym H.size co ct th fo sg sz hc2 fL fN fD fH2 fV fM fW (xs (3 * B + 1)) n (by omega) h4) (cwV 1 hw (gw_V wb_379 wb_380 wb_381 wb_2 wb_382) rfl rfl rfl (by decide +kernel) ⟨Nat.le_of_ble_eq_true rfl, Nat.le_of_ble_eq_true rfl⟩) ⟨blind_preM, va_recv hKc hPc (ci := 1) (q0 := 0) rfl rfl, fun U hU hW => ⟨rfl, by rw [hU], by rw [hU]; exact hPc, va_K.moved hW.alike hKc, hDc.weaken (fun _ _ _ _ => trivial)⟩⟩ rfl rfl hl.1 rfl (lv_room (Nat.le_of_ble_eq_true rfl)) dL_law_377 ⟨by show (14 + 2 * B + 1) + 0 ≤ 1046; omega, by show (13169 + 12 * B + 6) + 0 ≤ 21409; omega⟩) hS (fun q _ h => hFc q h) hFc (fun r2 u t H1 locs ht hvm hq2 hB9 hz1 hk1 hS => ?_)
    rcases hq2 with ⟨_, er2, rfl⟩ | ⟨z, _⟩
    rotate_left
    · exact absurd (hth.symm.trans hbad) z
    subst er2
    obtain ⟨hP1, hK1, hD1⟩ := hB9
    rw [ht] at hP1
    obtain ⟨hP, hD⟩ := va_join (wr := XOW ax yx qo yo ((cc, tc, fc, hc, dr, dO, fC, fO, fT, fH), g)) (w1 := MW am ym (1, ct, th, fo, sg, sz, hc2, fL, fN, fD, fH2, fV, fM, fW)) hP hD [5, 6, 7, 8, 9, 10, 11, 12] [0, 1, 2, 3, 4, 13] rfl rfl (by decide) (by decide) hk1 hFc hP1 hD1
    have hP : va_P (dC, dI) cls2 (LWd ax yx am ym qo yo (cc, tc, fc, hc, dr, dO, fC, fO, fT, fH) (1, ct, th, fo, sg, sz, hc2, fL, fN, fD, fH2, fV, fM, fW) g) H1 := hP.sub [0, 1, 2, 3, 4, 6, 7, 8, 9, 10, 11, 12, 13, 5] rfl
    have hD : va_D (fun q => s.heap.size ≤ q) (LWd ax yx am ym qo yo (cc, tc, fc, hc, dr, dO, fC, fO, fT, fH) (1, ct, th, fo, sg, sz, hc2, fL, fN, fD, fH2, fV, fM, fW) g) := hD.sub [0, 1, 2, 3, 4, 6, 7, 8, 9, 10, 11, 12, 13, 5] (by decide) rfl
    clear hP1 hK1 hD1 hk1 hz1 ht hPc hDc hKc hFc
    generalize H1 = H at hP hS ⊢
    refine lv_istore (lv' := [(6, .int 0), (5, .int 1), (4, .int (nI (3 * B))), (0, .ref b), (1, .ref (ax 0)), (2, .ref (am 0)), (3, .ref qo)]) hx hb dL_law_380 hl (by decide) rfl (fun ls hl => ?_)
    refine lv_aload_n hx hb dL_law_382 rfl (lv_at hl 5 rfl) ?_
    have hPc := hP.sub (ws' := MW am ym (1, ct, th, fo, sg, sz, hc2, fL, fN, fD, fH2, fV, fM, fW)) [5, 6, 7, 8, 9, 10, 11, 12] rfl
    have hKc := hK.sub (tys' := tysM ym) [4, 5, 6, 7, 8, 9, 10] rfl
    refine vp_callSi (W.runV (As := []) (rest := []) ⟨hx, hb, hml, hown, hw⟩ (n_thrown l dC dI am ym 1 ct th fo sg sz hc2 fL fN fD fH2 fV fM fW) (cwV 0 hw (gw_V wb_311 wb_312 wb_313 wb_2 wb_314) rfl rfl rfl (by decide +kernel) ⟨Nat.le_of_ble_eq_true rfl, Nat.le_of_ble_eq_true rfl⟩) ⟨blind_rdM, va_recv hKc hPc (ci := 1) (q0 := 0) rfl rfl, fun U hU hW => ⟨rfl, by rw [hU]; exact hPc, va_K.moved hW.alike hKc⟩⟩ rfl rfl hl.1 rfl (lv_room (Nat.le_of_ble_eq_true rfl)) dL_law_383 ⟨by show (14 + 2 * B + 1) + 0 ≤ 1046; omega, by show (13169 + 12 * B + 6) + 0 ≤ 21409; omega⟩) (fun r3 hr3 => ?_)
    subst hr3
    refine lv_iload hx hb dL_law_386 (lv_at hl 1 rfl) ?_
    refine lv_icmp_eq (tgt := 393) hx hb dL_law_388 (by decide) (fun c1 => ?_) (fun c1 => ?_)
    · skip
      refine lv_iload hx hb dL_law_393 (lv_at hl 1 rfl) ?_
      refine lv_if_ne (tgt := 410) hx hb dL_law_395 (by decide) (fun c2 => ?_) (fun c2 => ?_)
      · skip
        refine lv_goto (tgt := 576) hx hb dL_law_410 (by decide) ?_
        refine W.widen (k := 14 + 2 * (B + 1)) (n := 13169 + 12 * (B + 1)) (by omega) (by omega) ?_
        exact back (cc, tc, fc, hc, dr, dO, fC, fO, fT, fH) (1, ct, th, fo, sg, sz, hc2, fL, fN, fD, fH2, fV, fM, fW) g H _ (⟨n, d, q, zl, R_up hR⟩) hP hD hS ls (lv_sub hl [2, 3, 4, 5, 6] rfl)
      · skip
        exact absurd c2 (by decide)
    · skip
      exact absurd rfl c1
  · skip
    rcases hq with ⟨z, _⟩ | ⟨_, er1, rfl⟩
    · exact absurd z hbad
    subst er1
    obtain ⟨hP1, hK1, hD1⟩ := hB9
    rw [ht] at hP1
    obtain ⟨hP, hD⟩ := va_join (wr := MW am ym (co, ct, th, fo, sg, sz, hc2, fL, fN, fD, fH2, fV, fM, fW)) (w1 := XOW ax yx qo yo ((cc, tc - 1, fc, hc, dr, dO, fC, fO, upd fT (xs (3 * B + 1)).toNatClampNeg (vp_nar .boolean 0), fH), (o_set g (nI (pb_sz (fC (xs (3 * B + 1)).toNatClampNeg)))))) hP hD [0, 1, 2, 3, 4, 13] [5, 6, 7, 8, 9, 10, 11, 12] rfl rfl (by decide) (by decide) hk1 hFc hP1 hD1
    have hP : va_P (dC, dI) cls2 (LWd ax yx am ym qo yo (cc, tc - 1, fc, hc, dr, dO, fC, fO, upd fT (xs (3 * B + 1)).toNatClampNeg (vp_nar .boolean 0), fH) (co, ct, th, fo, sg, sz, hc2, fL, fN, fD, fH2, fV, fM, fW) (o_set g (nI (pb_sz (fC (xs (3 * B + 1)).toNatClampNeg))))) H1 := hP.sub [8, 9, 10, 11, 12, 0, 1, 2, 3, 4, 5, 6, 7, 13] rfl
    have hD : va_D (fun q => s.heap.size ≤ q) (LWd ax yx am ym qo yo (cc, tc - 1, fc, hc, dr, dO, fC, fO, upd fT (xs (3 * B + 1)).toNatClampNeg (vp_nar .boolean 0), fH) (co, ct, th, fo, sg, sz, hc2, fL, fN, fD, fH2, fV, fM, fW) (o_set g (nI (pb_sz (fC (xs (3 * B + 1)).toNatClampNeg))))) := hD.sub [8, 9, 10, 11, 12, 0, 1, 2, 3, 4, 5, 6, 7, 13] (by decide) rfl
    clear hP1 hK1 hD1 hk1 hz1 ht hPc hDc hKc hFc
    generalize H1 = H at hP hS ⊢
    refine lv_istore (lv' := [(5, .int 0), (4, .int (nI (3 * B))), (0, .ref b), (1, .ref (ax 0)), (2, .ref (am 0)), (3, .ref qo)]) hx hb dL_law_368 hl (by decide) rfl (fun ls hl => ?_)
    refine lv_aload_n hx hb dL_law_370 rfl (lv_at hl 4 rfl) ?_
    refine lv_aload_n hx hb dL_law_371 rfl (lv_at hl 2 rfl) ?_
    refine lv_iload hx hb dL_law_372 (lv_at hl 1 rfl) ?_
    refine lv_iconst (v := 1) hx hb dL_law_374 (by decide) ?_
    refine lv_iadd hx hb dL_law_375 ?_
    rw [show nI (3 * B) + 1 = nI (3 * B + 1) from nI_add (3 * B) 1]
    refine va_sld hx hb hX hbl hbA hS (vp_in_nI (show 3 * B + 1 < L by omega) (by omega)) dL_law_376 ?_
    rw [nI_clamp (show 3 * B + 1 < 2 ^ 31 by omega)]
    have hPc := hP.sub (ws' := MW am ym (co, ct, th, fo, sg, sz, hc2, fL, fN, fD, fH2, fV, fM, fW)) [5, 6, 7, 8, 9, 10, 11, 12] rfl
    have hDc := hD.sub (ws' := MW am ym (co, ct, th, fo, sg, sz, hc2, fL, fN, fD, fH2, fV, fM, fW)) [5, 6, 7, 8, 9, 10, 11, 12] (by decide) rfl
    have hKc := hK.sub (tys' := tysM ym) [4, 5, 6, 7, 8, 9, 10] rfl
    have hFc := va_free (wc := MW am ym (co, ct, th, fo, sg, sz, hc2, fL, fN, fD, fH2, fV, fM, fW)) hD hS hA [5, 6, 7, 8, 9, 10, 11, 12] rfl
    refine va_calli (va_runV (As := [.int (xs (3 * B + 1))]) (rest := []) ⟨hx, hb, hml, hown, hw⟩ (n_drop l dC dI am ym H.size co ct th fo sg sz hc2 fL fN fD fH2 fV fM fW (xs (3 * B + 1)) n (by omega) h4) (cwV 1 hw (gw_V wb_379 wb_380 wb_381 wb_2 wb_382) rfl rfl rfl (by decide +kernel) ⟨Nat.le_of_ble_eq_true rfl, Nat.le_of_ble_eq_true rfl⟩) ⟨blind_preM, va_recv hKc hPc (ci := 1) (q0 := 0) rfl rfl, fun U hU hW => ⟨rfl, by rw [hU], by rw [hU]; exact hPc, va_K.moved hW.alike hKc, hDc.weaken (fun _ _ _ _ => trivial)⟩⟩ rfl rfl hl.1 rfl (lv_room (Nat.le_of_ble_eq_true rfl)) dL_law_377 ⟨by show (14 + 2 * B + 1) + 0 ≤ 1046; omega, by show (13169 + 12 * B + 6) + 0 ≤ 21409; omega⟩) hS (fun q _ h => hFc q h) hFc (fun r2 u t H1 locs ht hvm hq2 hB9 hz1 hk1 hS => ?_)
    rcases hq2 with ⟨z, _⟩ | ⟨_, er2, rfl⟩
    · exact absurd (hth.trans z) hbad
    subst er2
    obtain ⟨hval, hrel⟩ := R_drop hR (by omega) hbad
    obtain ⟨hP1, hK1, hD1⟩ := hB9
    rw [ht] at hP1
    obtain ⟨hP, hD⟩ := va_join (wr := XOW ax yx qo yo ((cc, tc - 1, fc, hc, dr, dO, fC, fO, upd fT (xs (3 * B + 1)).toNatClampNeg (vp_nar .boolean 0), fH), (o_set g (nI (pb_sz (fC (xs (3 * B + 1)).toNatClampNeg)))))) (w1 := MW am ym (0, ct, th - 1, fo, sg, sz, hc2, fL, upd fN (xs (3 * B + 1)).toNatClampNeg (-1), fD, fH2, fV, fM, fW)) hP hD [5, 6, 7, 8, 9, 10, 11, 12] [0, 1, 2, 3, 4, 13] rfl rfl (by decide) (by decide) hk1 hFc hP1 hD1
    have hP : va_P (dC, dI) cls2 (LWd ax yx am ym qo yo (cc, tc - 1, fc, hc, dr, dO, fC, fO, upd fT (xs (3 * B + 1)).toNatClampNeg (vp_nar .boolean 0), fH) (0, ct, th - 1, fo, sg, sz, hc2, fL, upd fN (xs (3 * B + 1)).toNatClampNeg (-1), fD, fH2, fV, fM, fW) (o_set g (nI (pb_sz (fC (xs (3 * B + 1)).toNatClampNeg))))) H1 := hP.sub [0, 1, 2, 3, 4, 6, 7, 8, 9, 10, 11, 12, 13, 5] rfl
    have hD : va_D (fun q => s.heap.size ≤ q) (LWd ax yx am ym qo yo (cc, tc - 1, fc, hc, dr, dO, fC, fO, upd fT (xs (3 * B + 1)).toNatClampNeg (vp_nar .boolean 0), fH) (0, ct, th - 1, fo, sg, sz, hc2, fL, upd fN (xs (3 * B + 1)).toNatClampNeg (-1), fD, fH2, fV, fM, fW) (o_set g (nI (pb_sz (fC (xs (3 * B + 1)).toNatClampNeg))))) := hD.sub [0, 1, 2, 3, 4, 6, 7, 8, 9, 10, 11, 12, 13, 5] (by decide) rfl
    clear hP1 hK1 hD1 hk1 hz1 ht hPc hDc hKc hFc
    generalize H1 = H at hP hS ⊢
    refine lv_istore (lv' := [(6, .int (fN (xs (3 * B + 1)).toNatClampNeg)), (5, .int 0), (4, .int (nI (3 * B))), (0, .ref b), (1, .ref (ax 0)), (2, .ref (am 0)), (3, .ref qo)]) hx hb dL_law_380 hl (by decide) rfl (fun ls hl => ?_)
    refine lv_aload_n hx hb dL_law_382 rfl (lv_at hl 5 rfl) ?_
    have hPc := hP.sub (ws' := MW am ym (0, ct, th - 1, fo, sg, sz, hc2, fL, upd fN (xs (3 * B + 1)).toNatClampNeg (-1), fD, fH2, fV, fM, fW)) [5, 6, 7, 8, 9, 10, 11, 12] rfl
    have hKc := hK.sub (tys' := tysM ym) [4, 5, 6, 7, 8, 9, 10] rfl
    refine vp_callSi (W.runV (As := []) (rest := []) ⟨hx, hb, hml, hown, hw⟩ (n_thrown l dC dI am ym 0 ct (th - 1) fo sg sz hc2 fL (upd fN (xs (3 * B + 1)).toNatClampNeg (-1)) fD fH2 fV fM fW) (cwV 0 hw (gw_V wb_311 wb_312 wb_313 wb_2 wb_314) rfl rfl rfl (by decide +kernel) ⟨Nat.le_of_ble_eq_true rfl, Nat.le_of_ble_eq_true rfl⟩) ⟨blind_rdM, va_recv hKc hPc (ci := 1) (q0 := 0) rfl rfl, fun U hU hW => ⟨rfl, by rw [hU]; exact hPc, va_K.moved hW.alike hKc⟩⟩ rfl rfl hl.1 rfl (lv_room (Nat.le_of_ble_eq_true rfl)) dL_law_383 ⟨by show (14 + 2 * B + 1) + 0 ≤ 1046; omega, by show (13169 + 12 * B + 6) + 0 ≤ 21409; omega⟩) (fun r3 hr3 => ?_)
    subst hr3
    refine lv_iload hx hb dL_law_386 (lv_at hl 1 rfl) ?_
    refine lv_icmp_eq (tgt := 393) hx hb dL_law_388 (by decide) (fun c1 => ?_) (fun c1 => ?_)
    · skip
      refine lv_iload hx hb dL_law_393 (lv_at hl 1 rfl) ?_
      refine lv_if_ne (tgt := 410) hx hb dL_law_395 (by decide) (fun c2 => ?_) (fun c2 => ?_)
      · skip
        exact absurd rfl c2
      · skip
        refine lv_aload_n hx hb dL_law_398 rfl (lv_at hl 6 rfl) ?_
        refine lv_iconst (v := 0) hx hb dL_law_399 (by decide) ?_
        refine va_lald hx hb hK hP 13 11 rfl rfl in_01 dL_law_400 ?_
        rw [o_get]
        refine lv_iload hx hb dL_law_401 (lv_at hl 0 rfl) ?_
        refine lv_i2l (v := (fN (xs (3 * B + 1)).toNatClampNeg).toInt64) hx hb dL_law_403 rfl ?_
        refine W.lcmp hx hb dL_law_404 ?_
        refine lv_if_eq (tgt := 410) hx hb dL_law_405 (by decide) (fun c3 => ?_) (fun c3 => ?_)
        · skip
          refine lv_goto (tgt := 576) hx hb dL_law_410 (by decide) ?_
          refine W.widen (k := 14 + 2 * (B + 1)) (n := 13169 + 12 * (B + 1)) (by omega) (by omega) ?_
          exact back (cc, tc - 1, fc, hc, dr, dO, fC, fO, upd fT (xs (3 * B + 1)).toNatClampNeg (vp_nar .boolean 0), fH) (0, ct, th - 1, fo, sg, sz, hc2, fL, upd fN (xs (3 * B + 1)).toNatClampNeg (-1), fD, fH2, fV, fM, fW) (o_set g (nI (pb_sz (fC (xs (3 * B + 1)).toNatClampNeg)))) H _ (⟨n, d, q, zl, hrel⟩) hP hD hS ls (lv_sub hl [2, 3, 4, 5, 6] rfl)
        · skip
          exact absurd ((lg_cmp_eq _ _).mpr (congrArg Int32.toInt64 (hval))) c3
    · skip
      exact absurd rfl c1
set_option maxHeartbeats 1000000 in
set_option maxRecDepth 100000 in
/-- law_op7 -/
theorem law_op7 {p : Program} {l : Launch} {e : Env} {s : State} {m : MethodId} {below : List Frame} {meth : Method} {c : Code} {b L : Nat} {xs : Nat → Int32} (hl9 : l.stackTraces = false) (hL : L ≤ 1536) (C0 : lw_At p s m meth c b L xs) (hT : Th (fun q => s.heap.size ≤ q) s s.heap) {dC : Nat → ClassId} {dI : Nat → Nat → Nat} {ax : Nat → Nat} {yx : Nat → ClassId} {am : Nat → Nat} {ym : Nat → ClassId} {qo : Nat} {yo : ClassId} (hK : va_K (dC, dI) cls2 (tysL yx ym yo) s) {B : Nat} (hB : 3 * B + 3 ≤ L) {u : XS} {mm : MS} {g : Nat → Int64} {H : Heap} {locs : List Loc} (hRel : Rel B u mm) (hP : va_P (dC, dI) cls2 (LWd ax yx am ym qo yo u mm g) H) (hD : va_D (fun q => s.heap.size ≤ q) (LWd ax yx am ym qo yo u mm g)) (hS : va_S (fun q => s.heap.size ≤ q) s.heap H locs) (back : ∀ (u : XS) (mm : MS) (g : Nat → Int64) (H : Heap) (locs : List Loc), Rel (B + 1) u mm → va_P (dC, dI) cls2 (LWd ax yx am ym qo yo u mm g) H → va_D (fun q => s.heap.size ≤ q) (LWd ax yx am ym qo yo u mm g) → va_S (fun q => s.heap.size ≤ q) s.heap H locs → ∀ ls, lv_has ls 7 [(4, .int (nI (3 * B))), (0, .ref b), (1, .ref (ax 0)), (2, .ref (am 0)), (3, .ref qo)] → LWj p l e s m b below meth c H locs (B + 1) 576 ls) : ∀ ls, lv_has ls 7 [(4, .int (nI (3 * B))), (0, .ref b), (1, .ref (ax 0)), (2, .ref (am 0)), (3, .ref qo)] → LWj p l e s m b below meth c H locs B 413 ls := by
  obtain ⟨hx, hb, hr, hml, hown, hts, hX, hbl, hlocks, hgv⟩ := C0
  have hw : ∀ w ∈ WB, w.before #[Value.ref b] s = true := fun w h => hts w (WB_lw w h)
  have hA : ∀ q : Nat, s.heap.size ≤ q → (fun q : Nat => s.heap.size ≤ q) q := fun _ h => h
  have hbA : ¬ (fun q : Nat => s.heap.size ≤ q) b := Nat.not_le.mpr hbl
  obtain ⟨cc, tc, fc, hc, dr, dO, fC, fO, fT, fH⟩ := u
  obtain ⟨co, ct, th, fo, sg, sz, hc2, fL, fN, fD, fH2, fV, fM, fW⟩ := mm
  obtain ⟨n, d, q, zl, hR⟩ := hRel
  obtain ⟨h1, h2, h3, h4, h5, h6, h7, h8, h9, h10, h11, h12, h13, h14, h15, h16, h17⟩ := id hR
  have hd := gs_16 h11
  have hTH : ∀ (H : Heap) (locs : List Loc), va_S (fun q => s.heap.size ≤ q) s.heap H locs → Th (fun q => H.size ≤ q) s H := fun H locs hS => (hT.kept hS.2.1).narrow (fun q h => Nat.le_trans hS.1 h)
  intro ls hl
  have hP : va_P (dC, dI) cls2 (LWd ax yx am ym qo yo (cc, tc, fc, hc, dr, dO, fC, fO, fT, fH) (co, ct, th, fo, sg, sz, hc2, fL, fN, fD, fH2, fV, fM, fW) g) H := hP
  have hD : va_D (fun q => s.heap.size ≤ q) (LWd ax yx am ym qo yo (cc, tc, fc, hc, dr, dO, fC, fO, fT, fH) (co, ct, th, fo, sg, sz, hc2, fL, fN, fD, fH2, fV, fM, fW) g) := hD
  refine lv_aload_n hx hb dL_law_413 rfl (lv_at hl 2 rfl) ?_
  refine lv_aload_n hx hb dL_law_414 rfl (lv_at hl 1 rfl) ?_
  refine lv_iload hx hb dL_law_415 (lv_at hl 0 rfl) ?_
  refine lv_iconst (v := 1) hx hb dL_law_417 (by decide) ?_
  refine lv_iadd hx hb dL_law_418 ?_
  rw [show nI (3 * B) + 1 = nI (3 * B + 1) from nI_add (3 * B) 1]
  refine va_sld hx hb hX hbl hbA hS (vp_in_nI (show 3 * B + 1 < L by omega) (by omega)) dL_law_419 ?_
  rw [nI_clamp (show 3 * B + 1 < 2 ^ 31 by omega)]
  refine lv_aload_n hx hb dL_law_420 rfl (lv_at hl 1 rfl) ?_
  refine lv_iload hx hb dL_law_421 (lv_at hl 0 rfl) ?_
  refine lv_iconst (v := 2) hx hb dL_law_423 (by decide) ?_
  refine lv_iadd hx hb dL_law_424 ?_
  rw [show nI (3 * B) + 2 = nI (3 * B + 2) from nI_add (3 * B) 2]
  refine va_sld hx hb hX hbl hbA hS (vp_in_nI (show 3 * B + 2 < L by omega) (by omega)) dL_law_425 ?_
  rw [nI_clamp (show 3 * B + 2 < 2 ^ 31 by omega)]
  refine lv_aload_n hx hb dL_law_426 rfl (lv_at hl 4 rfl) ?_
  have hPc := hP.sub (ws' := XOW ax yx qo yo ((cc, tc, fc, hc, dr, dO, fC, fO, fT, fH), g)) [0, 1, 2, 3, 4, 13] rfl
  have hDc := hD.sub (ws' := XOW ax yx qo yo ((cc, tc, fc, hc, dr, dO, fC, fO, fT, fH), g)) [0, 1, 2, 3, 4, 13] (by decide) rfl
  have hKc := hK.sub (tys' := tysXO yx yo) [0, 1, 2, 3, 11] rfl
  have hFc := va_free (wc := XOW ax yx qo yo ((cc, tc, fc, hc, dr, dO, fC, fO, fT, fH), g)) hD hS hA [0, 1, 2, 3, 4, 13] rfl
  refine va_calli (vx_runSW (As := [.ref (ax 0), .int (xs (3 * B + 1)), .int (xs (3 * B + 2)), .ref qo]) (rest := []) ⟨hx, hb, hml, hown, hw⟩ (l_at l hl9 dC dI ax yx qo yo H.size cc tc fc hc dr dO fC fO fT fH g (xs (3 * B + 1)) (xs (3 * B + 2)) n (by omega) h3) (vx_cwSW 4 hw (gw_S wb_244 wb_245 wb_0 wb_246) rfl rfl rfl (by decide +kernel) ⟨(Nat.le_of_ble_eq_true rfl), (Nat.le_of_ble_eq_true rfl)⟩) ⟨blind_preXO, fun U hU hW => ⟨rfl, by rw [hU], by rw [hU]; exact hPc, va_K.moved hW.alike hKc, hDc.weaken (fun _ _ _ _ => trivial), ThU.at hU hW (hTH H _ hS)⟩⟩ rfl rfl hl.1 rfl (lv_room (Nat.le_of_ble_eq_true rfl)) dL_law_427 ⟨by show (14 + 2 * B) + 2 ≤ 1046; omega, by show (13169 + 12 * B) + 12 ≤ 21409; omega⟩) hS (fun q _ h => hFc q h) hFc (fun r1 u t H1 locs ht hvm hq hB9 hz1 hk1 hS => ?_)
  have hth := there_ok h15 (by omega) h3 h4 (xs (3 * B + 1))
  by_cases hbad : th_b cc fT (xs (3 * B + 1)) = 0 ∨ (xs (3 * B + 2)) < 0
  · skip
    rcases hq with ⟨_, er1, rfl⟩ | ⟨z1, z2, _⟩
    rotate_left
    · exact absurd hbad (fun h => h.elim z1 z2)
    subst er1
    obtain ⟨hP1, hK1, hD1⟩ := hB9
    rw [ht] at hP1
    obtain ⟨hP, hD⟩ := va_join (wr := MW am ym (co, ct, th, fo, sg, sz, hc2, fL, fN, fD, fH2, fV, fM, fW)) (w1 := XOW ax yx qo yo ((cc, tc, fc, hc, dr, dO, fC, fO, fT, fH), g)) hP hD [0, 1, 2, 3, 4, 13] [5, 6, 7, 8, 9, 10, 11, 12] rfl rfl (by decide) (by decide) hk1 hFc hP1 hD1
    have hP : va_P (dC, dI) cls2 (LWd ax yx am ym qo yo (cc, tc, fc, hc, dr, dO, fC, fO, fT, fH) (co, ct, th, fo, sg, sz, hc2, fL, fN, fD, fH2, fV, fM, fW) g) H1 := hP.sub [8, 9, 10, 11, 12, 0, 1, 2, 3, 4, 5, 6, 7, 13] rfl
    have hD : va_D (fun q => s.heap.size ≤ q) (LWd ax yx am ym qo yo (cc, tc, fc, hc, dr, dO, fC, fO, fT, fH) (co, ct, th, fo, sg, sz, hc2, fL, fN, fD, fH2, fV, fM, fW) g) := hD.sub [8, 9, 10, 11, 12, 0, 1, 2, 3, 4, 5, 6, 7, 13] (by decide) rfl
    clear hP1 hK1 hD1 hk1 hz1 ht hPc hDc hKc hFc
    generalize H1 = H at hP hS ⊢
    refine lv_istore (lv' := [(5, .int 1), (4, .int (nI (3 * B))), (0, .ref b), (1, .ref (ax 0)), (2, .ref (am 0)), (3, .ref qo)]) hx hb dL_law_430 hl (by decide) rfl (fun ls hl => ?_)
    refine lv_aload_n hx hb dL_law_432 rfl (lv_at hl 4 rfl) ?_
    refine lv_aload_n hx hb dL_law_433 rfl (lv_at hl 2 rfl) ?_
    refine lv_iload hx hb dL_law_434 (lv_at hl 1 rfl) ?_
    refine lv_iconst (v := 1) hx hb dL_law_436 (by decide) ?_
    refine lv_iadd hx hb dL_law_437 ?_
    rw [show nI (3 * B) + 1 = nI (3 * B + 1) from nI_add (3 * B) 1]
    refine va_sld hx hb hX hbl hbA hS (vp_in_nI (show 3 * B + 1 < L by omega) (by omega)) dL_law_438 ?_
    rw [nI_clamp (show 3 * B + 1 < 2 ^ 31 by omega)]
    refine lv_aload_n hx hb dL_law_439 rfl (lv_at hl 2 rfl) ?_
    refine lv_iload hx hb dL_law_440 (lv_at hl 1 rfl) ?_
    refine lv_iconst (v := 2) hx hb dL_law_442 (by decide) ?_
    refine lv_iadd hx hb dL_law_443 ?_
    rw [show nI (3 * B) + 2 = nI (3 * B + 2) from nI_add (3 * B) 2]
    refine va_sld hx hb hX hbl hbA hS (vp_in_nI (show 3 * B + 2 < L by omega) (by omega)) dL_law_444 ?_
    rw [nI_clamp (show 3 * B + 2 < 2 ^ 31 by omega)]
    have hPc := hP.sub (ws' := MW am ym (co, ct, th, fo, sg, sz, hc2, fL, fN, fD, fH2, fV, fM, fW)) [5, 6, 7, 8, 9, 10, 11, 12] rfl
    have hDc := hD.sub (ws' := MW am ym (co, ct, th, fo, sg, sz, hc2, fL, fN, fD, fH2, fV, fM, fW)) [5, 6, 7, 8, 9, 10, 11, 12] (by decide) rfl
    have hKc := hK.sub (tys' := tysM ym) [4, 5, 6, 7, 8, 9, 10] rfl
    have hFc := va_free (wc := MW am ym (co, ct, th, fo, sg, sz, hc2, fL, fN, fD, fH2, fV, fM, fW)) hD hS hA [5, 6, 7, 8, 9, 10, 11, 12] rfl
    refine va_calli (va_runV (As := [.int (xs (3 * B + 1)), .int (xs (3 * B + 2))]) (rest := []) ⟨hx, hb, hml, hown, hw⟩ (n_at l dC dI am ym H.size co ct th fo sg sz hc2 fL fN fD fH2 fV fM fW (xs (3 * B + 1)) (xs (3 * B + 2)) n (by omega) h4 (fun z1 z2 z3 => (R_at hR (by omega) (fun z => z1 (hth.symm.trans z)) z2).2 z3)) (cwV 2 hw (gw_V wb_383 wb_384 wb_385 wb_2 wb_386) rfl rfl rfl (by decide +kernel) ⟨Nat.le_of_ble_eq_true rfl, Nat.le_of_ble_eq_true rfl⟩) ⟨blind_preM, va_recv hKc hPc (ci := 1) (q0 := 0) rfl rfl, fun U hU hW => ⟨rfl, by rw [hU], by rw [hU]; exact hPc, va_K.moved hW.alike hKc, hDc.weaken (fun _ _ _ _ => trivial)⟩⟩ rfl rfl hl.1 rfl (lv_room (Nat.le_of_ble_eq_true rfl)) dL_law_445 ⟨by show (14 + 2 * B + 2) + 0 ≤ 1046; omega, by show (13169 + 12 * B + 12) + 0 ≤ 21409; omega⟩) hS (fun q _ h => hFc q h) hFc (fun r2 u t H1 locs ht hvm hq2 hB9 hz1 hk1 hS => ?_)
    rcases hq2 with ⟨_, er2, rfl⟩ | ⟨z1, z2, _⟩
    rotate_left
    · exact absurd hbad (fun h => h.elim (fun h => z1 (hth.symm.trans h)) z2)
    subst er2
    obtain ⟨hP1, hK1, hD1⟩ := hB9
    rw [ht] at hP1
    obtain ⟨hP, hD⟩ := va_join (wr := XOW ax yx qo yo ((cc, tc, fc, hc, dr, dO, fC, fO, fT, fH), g)) (w1 := MW am ym (1, ct, th, fo, sg, sz, hc2, fL, fN, fD, fH2, fV, fM, fW)) hP hD [5, 6, 7, 8, 9, 10, 11, 12] [0, 1, 2, 3, 4, 13] rfl rfl (by decide) (by decide) hk1 hFc hP1 hD1
    have hP : va_P (dC, dI) cls2 (LWd ax yx am ym qo yo (cc, tc, fc, hc, dr, dO, fC, fO, fT, fH) (1, ct, th, fo, sg, sz, hc2, fL, fN, fD, fH2, fV, fM, fW) g) H1 := hP.sub [0, 1, 2, 3, 4, 6, 7, 8, 9, 10, 11, 12, 13, 5] rfl
    have hD : va_D (fun q => s.heap.size ≤ q) (LWd ax yx am ym qo yo (cc, tc, fc, hc, dr, dO, fC, fO, fT, fH) (1, ct, th, fo, sg, sz, hc2, fL, fN, fD, fH2, fV, fM, fW) g) := hD.sub [0, 1, 2, 3, 4, 6, 7, 8, 9, 10, 11, 12, 13, 5] (by decide) rfl
    clear hP1 hK1 hD1 hk1 hz1 ht hPc hDc hKc hFc
    generalize H1 = H at hP hS ⊢
    refine lv_istore (lv' := [(6, .int 0), (5, .int 1), (4, .int (nI (3 * B))), (0, .ref b), (1, .ref (ax 0)), (2, .ref (am 0)), (3, .ref qo)]) hx hb dL_law_448 hl (by decide) rfl (fun ls hl => ?_)
    refine lv_aload_n hx hb dL_law_450 rfl (lv_at hl 5 rfl) ?_
    have hPc := hP.sub (ws' := MW am ym (1, ct, th, fo, sg, sz, hc2, fL, fN, fD, fH2, fV, fM, fW)) [5, 6, 7, 8, 9, 10, 11, 12] rfl
    have hKc := hK.sub (tys' := tysM ym) [4, 5, 6, 7, 8, 9, 10] rfl
    refine vp_callSi (W.runV (As := []) (rest := []) ⟨hx, hb, hml, hown, hw⟩ (n_thrown l dC dI am ym 1 ct th fo sg sz hc2 fL fN fD fH2 fV fM fW) (cwV 0 hw (gw_V wb_311 wb_312 wb_313 wb_2 wb_314) rfl rfl rfl (by decide +kernel) ⟨Nat.le_of_ble_eq_true rfl, Nat.le_of_ble_eq_true rfl⟩) ⟨blind_rdM, va_recv hKc hPc (ci := 1) (q0 := 0) rfl rfl, fun U hU hW => ⟨rfl, by rw [hU]; exact hPc, va_K.moved hW.alike hKc⟩⟩ rfl rfl hl.1 rfl (lv_room (Nat.le_of_ble_eq_true rfl)) dL_law_451 ⟨by show (14 + 2 * B + 2) + 0 ≤ 1046; omega, by show (13169 + 12 * B + 12) + 0 ≤ 21409; omega⟩) (fun r3 hr3 => ?_)
    subst hr3
    refine lv_iload hx hb dL_law_454 (lv_at hl 1 rfl) ?_
    refine lv_icmp_eq (tgt := 461) hx hb dL_law_456 (by decide) (fun c1 => ?_) (fun c1 => ?_)
    · skip
      refine lv_iload hx hb dL_law_461 (lv_at hl 1 rfl) ?_
      refine lv_if_ne (tgt := 478) hx hb dL_law_463 (by decide) (fun c2 => ?_) (fun c2 => ?_)
      · skip
        refine lv_goto (tgt := 576) hx hb dL_law_478 (by decide) ?_
        refine W.widen (k := 14 + 2 * (B + 1)) (n := 13169 + 12 * (B + 1)) (by omega) (by omega) ?_
        exact back (cc, tc, fc, hc, dr, dO, fC, fO, fT, fH) (1, ct, th, fo, sg, sz, hc2, fL, fN, fD, fH2, fV, fM, fW) g H _ (⟨n, d, q, zl, R_up hR⟩) hP hD hS ls (lv_sub hl [2, 3, 4, 5, 6] rfl)
      · skip
        exact absurd c2 (by decide)
    · skip
      exact absurd rfl c1
  · skip
    rcases hq with ⟨z, _⟩ | ⟨_, _, er1, rfl⟩
    · exact absurd z hbad
    subst er1
    obtain ⟨hP1, hK1, hD1⟩ := hB9
    rw [ht] at hP1
    obtain ⟨hP, hD⟩ := va_join (wr := MW am ym (co, ct, th, fo, sg, sz, hc2, fL, fN, fD, fH2, fV, fM, fW)) (w1 := XOW ax yx qo yo ((cc, tc, fc, hc, dr, dO, fC, fO, fT, fH), (o_set g (at_val (fC (xs (3 * B + 1)).toNatClampNeg) (fO (xs (3 * B + 1)).toNatClampNeg) (xs (3 * B + 2)))))) hP hD [0, 1, 2, 3, 4, 13] [5, 6, 7, 8, 9, 10, 11, 12] rfl rfl (by decide) (by decide) hk1 hFc hP1 hD1
    have hP : va_P (dC, dI) cls2 (LWd ax yx am ym qo yo (cc, tc, fc, hc, dr, dO, fC, fO, fT, fH) (co, ct, th, fo, sg, sz, hc2, fL, fN, fD, fH2, fV, fM, fW) (o_set g (at_val (fC (xs (3 * B + 1)).toNatClampNeg) (fO (xs (3 * B + 1)).toNatClampNeg) (xs (3 * B + 2))))) H1 := hP.sub [8, 9, 10, 11, 12, 0, 1, 2, 3, 4, 5, 6, 7, 13] rfl
    have hD : va_D (fun q => s.heap.size ≤ q) (LWd ax yx am ym qo yo (cc, tc, fc, hc, dr, dO, fC, fO, fT, fH) (co, ct, th, fo, sg, sz, hc2, fL, fN, fD, fH2, fV, fM, fW) (o_set g (at_val (fC (xs (3 * B + 1)).toNatClampNeg) (fO (xs (3 * B + 1)).toNatClampNeg) (xs (3 * B + 2))))) := hD.sub [8, 9, 10, 11, 12, 0, 1, 2, 3, 4, 5, 6, 7, 13] (by decide) rfl
    clear hP1 hK1 hD1 hk1 hz1 ht hPc hDc hKc hFc
    generalize H1 = H at hP hS ⊢
    refine lv_istore (lv' := [(5, .int 0), (4, .int (nI (3 * B))), (0, .ref b), (1, .ref (ax 0)), (2, .ref (am 0)), (3, .ref qo)]) hx hb dL_law_430 hl (by decide) rfl (fun ls hl => ?_)
    refine lv_aload_n hx hb dL_law_432 rfl (lv_at hl 4 rfl) ?_
    refine lv_aload_n hx hb dL_law_433 rfl (lv_at hl 2 rfl) ?_
    refine lv_iload hx hb dL_law_434 (lv_at hl 1 rfl) ?_
    refine lv_iconst (v := 1) hx hb dL_law_436 (by decide) ?_
    refine lv_iadd hx hb dL_law_437 ?_
    rw [show nI (3 * B) + 1 = nI (3 * B + 1) from nI_add (3 * B) 1]
    refine va_sld hx hb hX hbl hbA hS (vp_in_nI (show 3 * B + 1 < L by omega) (by omega)) dL_law_438 ?_
    rw [nI_clamp (show 3 * B + 1 < 2 ^ 31 by omega)]
    refine lv_aload_n hx hb dL_law_439 rfl (lv_at hl 2 rfl) ?_
    refine lv_iload hx hb dL_law_440 (lv_at hl 1 rfl) ?_
    refine lv_iconst (v := 2) hx hb dL_law_442 (by decide) ?_
    refine lv_iadd hx hb dL_law_443 ?_
    rw [show nI (3 * B) + 2 = nI (3 * B + 2) from nI_add (3 * B) 2]
    refine va_sld hx hb hX hbl hbA hS (vp_in_nI (show 3 * B + 2 < L by omega) (by omega)) dL_law_444 ?_
    rw [nI_clamp (show 3 * B + 2 < 2 ^ 31 by omega)]
    have hPc := hP.sub (ws' := MW am ym (co, ct, th, fo, sg, sz, hc2, fL, fN, fD, fH2, fV, fM, fW)) [5, 6, 7, 8, 9, 10, 11, 12] rfl
    have hDc := hD.sub (ws' := MW am ym (co, ct, th, fo, sg, sz, hc2, fL, fN, fD, fH2, fV, fM, fW)) [5, 6, 7, 8, 9, 10, 11, 12] (by decide) rfl
    have hKc := hK.sub (tys' := tysM ym) [4, 5, 6, 7, 8, 9, 10] rfl
    have hFc := va_free (wc := MW am ym (co, ct, th, fo, sg, sz, hc2, fL, fN, fD, fH2, fV, fM, fW)) hD hS hA [5, 6, 7, 8, 9, 10, 11, 12] rfl
    refine va_calli (va_runV (As := [.int (xs (3 * B + 1)), .int (xs (3 * B + 2))]) (rest := []) ⟨hx, hb, hml, hown, hw⟩ (n_at l dC dI am ym H.size co ct th fo sg sz hc2 fL fN fD fH2 fV fM fW (xs (3 * B + 1)) (xs (3 * B + 2)) n (by omega) h4 (fun z1 z2 z3 => (R_at hR (by omega) (fun z => z1 (hth.symm.trans z)) z2).2 z3)) (cwV 2 hw (gw_V wb_383 wb_384 wb_385 wb_2 wb_386) rfl rfl rfl (by decide +kernel) ⟨Nat.le_of_ble_eq_true rfl, Nat.le_of_ble_eq_true rfl⟩) ⟨blind_preM, va_recv hKc hPc (ci := 1) (q0 := 0) rfl rfl, fun U hU hW => ⟨rfl, by rw [hU], by rw [hU]; exact hPc, va_K.moved hW.alike hKc, hDc.weaken (fun _ _ _ _ => trivial)⟩⟩ rfl rfl hl.1 rfl (lv_room (Nat.le_of_ble_eq_true rfl)) dL_law_445 ⟨by show (14 + 2 * B + 2) + 0 ≤ 1046; omega, by show (13169 + 12 * B + 12) + 0 ≤ 21409; omega⟩) hS (fun q _ h => hFc q h) hFc (fun r2 u t H1 locs ht hvm hq2 hB9 hz1 hk1 hS => ?_)
    rcases hq2 with ⟨z, _⟩ | ⟨_, _, er2, rfl⟩
    · exact absurd (z.elim (fun z => Or.inl (hth.trans z)) Or.inr) hbad
    have hval := (R_at hR (by omega) (fun z => hbad (Or.inl z)) (fun z => hbad (Or.inr z))).1
    obtain ⟨hP1, hK1, hD1⟩ := hB9
    rw [ht] at hP1
    obtain ⟨hP, hD⟩ := va_join (wr := XOW ax yx qo yo ((cc, tc, fc, hc, dr, dO, fC, fO, fT, fH), (o_set g (at_val (fC (xs (3 * B + 1)).toNatClampNeg) (fO (xs (3 * B + 1)).toNatClampNeg) (xs (3 * B + 2)))))) (w1 := MW am ym (0, ct, th, fo, sg, sz, hc2, fL, fN, fD, fH2, fV, fM, fW)) hP hD [5, 6, 7, 8, 9, 10, 11, 12] [0, 1, 2, 3, 4, 13] rfl rfl (by decide) (by decide) hk1 hFc hP1 hD1
    have hP : va_P (dC, dI) cls2 (LWd ax yx am ym qo yo (cc, tc, fc, hc, dr, dO, fC, fO, fT, fH) (0, ct, th, fo, sg, sz, hc2, fL, fN, fD, fH2, fV, fM, fW) (o_set g (at_val (fC (xs (3 * B + 1)).toNatClampNeg) (fO (xs (3 * B + 1)).toNatClampNeg) (xs (3 * B + 2))))) H1 := hP.sub [0, 1, 2, 3, 4, 6, 7, 8, 9, 10, 11, 12, 13, 5] rfl
    have hD : va_D (fun q => s.heap.size ≤ q) (LWd ax yx am ym qo yo (cc, tc, fc, hc, dr, dO, fC, fO, fT, fH) (0, ct, th, fo, sg, sz, hc2, fL, fN, fD, fH2, fV, fM, fW) (o_set g (at_val (fC (xs (3 * B + 1)).toNatClampNeg) (fO (xs (3 * B + 1)).toNatClampNeg) (xs (3 * B + 2))))) := hD.sub [0, 1, 2, 3, 4, 6, 7, 8, 9, 10, 11, 12, 13, 5] (by decide) rfl
    clear hP1 hK1 hD1 hk1 hz1 ht hPc hDc hKc hFc
    generalize H1 = H at hP hS ⊢
    refine lv_istore (lv' := [(6, .int r2), (5, .int 0), (4, .int (nI (3 * B))), (0, .ref b), (1, .ref (ax 0)), (2, .ref (am 0)), (3, .ref qo)]) hx hb dL_law_448 hl (by decide) rfl (fun ls hl => ?_)
    refine lv_aload_n hx hb dL_law_450 rfl (lv_at hl 5 rfl) ?_
    have hPc := hP.sub (ws' := MW am ym (0, ct, th, fo, sg, sz, hc2, fL, fN, fD, fH2, fV, fM, fW)) [5, 6, 7, 8, 9, 10, 11, 12] rfl
    have hKc := hK.sub (tys' := tysM ym) [4, 5, 6, 7, 8, 9, 10] rfl
    refine vp_callSi (W.runV (As := []) (rest := []) ⟨hx, hb, hml, hown, hw⟩ (n_thrown l dC dI am ym 0 ct th fo sg sz hc2 fL fN fD fH2 fV fM fW) (cwV 0 hw (gw_V wb_311 wb_312 wb_313 wb_2 wb_314) rfl rfl rfl (by decide +kernel) ⟨Nat.le_of_ble_eq_true rfl, Nat.le_of_ble_eq_true rfl⟩) ⟨blind_rdM, va_recv hKc hPc (ci := 1) (q0 := 0) rfl rfl, fun U hU hW => ⟨rfl, by rw [hU]; exact hPc, va_K.moved hW.alike hKc⟩⟩ rfl rfl hl.1 rfl (lv_room (Nat.le_of_ble_eq_true rfl)) dL_law_451 ⟨by show (14 + 2 * B + 2) + 0 ≤ 1046; omega, by show (13169 + 12 * B + 12) + 0 ≤ 21409; omega⟩) (fun r3 hr3 => ?_)
    subst hr3
    refine lv_iload hx hb dL_law_454 (lv_at hl 1 rfl) ?_
    refine lv_icmp_eq (tgt := 461) hx hb dL_law_456 (by decide) (fun c1 => ?_) (fun c1 => ?_)
    · skip
      refine lv_iload hx hb dL_law_461 (lv_at hl 1 rfl) ?_
      refine lv_if_ne (tgt := 478) hx hb dL_law_463 (by decide) (fun c2 => ?_) (fun c2 => ?_)
      · skip
        exact absurd rfl c2
      · skip
        refine lv_aload_n hx hb dL_law_466 rfl (lv_at hl 6 rfl) ?_
        refine lv_iconst (v := 0) hx hb dL_law_467 (by decide) ?_
        refine va_lald hx hb hK hP 13 11 rfl rfl in_01 dL_law_468 ?_
        rw [o_get]
        refine lv_iload hx hb dL_law_469 (lv_at hl 0 rfl) ?_
        refine lv_i2l (v := r2.toInt64) hx hb dL_law_471 rfl ?_
        refine W.lcmp hx hb dL_law_472 ?_
        refine lv_if_eq (tgt := 478) hx hb dL_law_473 (by decide) (fun c3 => ?_) (fun c3 => ?_)
        · skip
          refine lv_goto (tgt := 576) hx hb dL_law_478 (by decide) ?_
          refine W.widen (k := 14 + 2 * (B + 1)) (n := 13169 + 12 * (B + 1)) (by omega) (by omega) ?_
          exact back (cc, tc, fc, hc, dr, dO, fC, fO, fT, fH) (0, ct, th, fo, sg, sz, hc2, fL, fN, fD, fH2, fV, fM, fW) (o_set g (at_val (fC (xs (3 * B + 1)).toNatClampNeg) (fO (xs (3 * B + 1)).toNatClampNeg) (xs (3 * B + 2)))) H _ (⟨n, d, q, zl, R_up hR⟩) hP hD hS ls (lv_sub hl [2, 3, 4, 5, 6] rfl)
        · skip
          exact absurd ((lg_cmp_eq _ _).mpr (congrArg Int32.toInt64 (hval.trans er2.symm))) c3
    · skip
      exact absurd rfl c1
set_option maxHeartbeats 1000000 in
set_option maxRecDepth 100000 in
/-- law_op11 -/
theorem law_op11 {p : Program} {l : Launch} {e : Env} {s : State} {m : MethodId} {below : List Frame} {meth : Method} {c : Code} {b L : Nat} {xs : Nat → Int32} (hl9 : l.stackTraces = false) (hL : L ≤ 1536) (C0 : lw_At p s m meth c b L xs) (hT : Th (fun q => s.heap.size ≤ q) s s.heap) {dC : Nat → ClassId} {dI : Nat → Nat → Nat} {ax : Nat → Nat} {yx : Nat → ClassId} {am : Nat → Nat} {ym : Nat → ClassId} {qo : Nat} {yo : ClassId} (hK : va_K (dC, dI) cls2 (tysL yx ym yo) s) {B : Nat} (hB : 3 * B + 3 ≤ L) {u : XS} {mm : MS} {g : Nat → Int64} {H : Heap} {locs : List Loc} (hRel : Rel B u mm) (hP : va_P (dC, dI) cls2 (LWd ax yx am ym qo yo u mm g) H) (hD : va_D (fun q => s.heap.size ≤ q) (LWd ax yx am ym qo yo u mm g)) (hS : va_S (fun q => s.heap.size ≤ q) s.heap H locs) (back : ∀ (u : XS) (mm : MS) (g : Nat → Int64) (H : Heap) (locs : List Loc), Rel (B + 1) u mm → va_P (dC, dI) cls2 (LWd ax yx am ym qo yo u mm g) H → va_D (fun q => s.heap.size ≤ q) (LWd ax yx am ym qo yo u mm g) → va_S (fun q => s.heap.size ≤ q) s.heap H locs → ∀ ls, lv_has ls 7 [(4, .int (nI (3 * B))), (0, .ref b), (1, .ref (ax 0)), (2, .ref (am 0)), (3, .ref qo)] → LWj p l e s m b below meth c H locs (B + 1) 576 ls) : ∀ ls, lv_has ls 7 [(4, .int (nI (3 * B))), (0, .ref b), (1, .ref (ax 0)), (2, .ref (am 0)), (3, .ref qo)] → LWj p l e s m b below meth c H locs B 520 ls := by
  obtain ⟨hx, hb, hr, hml, hown, hts, hX, hbl, hlocks, hgv⟩ := C0
  have hw : ∀ w ∈ WB, w.before #[Value.ref b] s = true := fun w h => hts w (WB_lw w h)
  have hA : ∀ q : Nat, s.heap.size ≤ q → (fun q : Nat => s.heap.size ≤ q) q := fun _ h => h
  have hbA : ¬ (fun q : Nat => s.heap.size ≤ q) b := Nat.not_le.mpr hbl
  obtain ⟨cc, tc, fc, hc, dr, dO, fC, fO, fT, fH⟩ := u
  obtain ⟨co, ct, th, fo, sg, sz, hc2, fL, fN, fD, fH2, fV, fM, fW⟩ := mm
  obtain ⟨n, d, q, zl, hR⟩ := hRel
  obtain ⟨h1, h2, h3, h4, h5, h6, h7, h8, h9, h10, h11, h12, h13, h14, h15, h16, h17⟩ := id hR
  have hd := gs_16 h11
  have hTH : ∀ (H : Heap) (locs : List Loc), va_S (fun q => s.heap.size ≤ q) s.heap H locs → Th (fun q => H.size ≤ q) s H := fun H locs hS => (hT.kept hS.2.1).narrow (fun q h => Nat.le_trans hS.1 h)
  intro ls hl
  have hP : va_P (dC, dI) cls2 (LWd ax yx am ym qo yo (cc, tc, fc, hc, dr, dO, fC, fO, fT, fH) (co, ct, th, fo, sg, sz, hc2, fL, fN, fD, fH2, fV, fM, fW) g) H := hP
  have hD : va_D (fun q => s.heap.size ≤ q) (LWd ax yx am ym qo yo (cc, tc, fc, hc, dr, dO, fC, fO, fT, fH) (co, ct, th, fo, sg, sz, hc2, fL, fN, fD, fH2, fV, fM, fW) g) := hD
  refine lv_aload_n hx hb dL_law_520 rfl (lv_at hl 2 rfl) ?_
  refine lv_aload_n hx hb dL_law_521 rfl (lv_at hl 1 rfl) ?_
  refine lv_iload hx hb dL_law_522 (lv_at hl 0 rfl) ?_
  refine lv_iconst (v := 1) hx hb dL_law_524 (by decide) ?_
  refine lv_iadd hx hb dL_law_525 ?_
  rw [show nI (3 * B) + 1 = nI (3 * B + 1) from nI_add (3 * B) 1]
  refine va_sld hx hb hX hbl hbA hS (vp_in_nI (show 3 * B + 1 < L by omega) (by omega)) dL_law_526 ?_
  rw [nI_clamp (show 3 * B + 1 < 2 ^ 31 by omega)]
  refine lv_aload_n hx hb dL_law_527 rfl (lv_at hl 4 rfl) ?_
  have hPc := hP.sub (ws' := XOW ax yx qo yo ((cc, tc, fc, hc, dr, dO, fC, fO, fT, fH), g)) [0, 1, 2, 3, 4, 13] rfl
  have hDc := hD.sub (ws' := XOW ax yx qo yo ((cc, tc, fc, hc, dr, dO, fC, fO, fT, fH), g)) [0, 1, 2, 3, 4, 13] (by decide) rfl
  have hKc := hK.sub (tys' := tysXO yx yo) [0, 1, 2, 3, 11] rfl
  have hFc := va_free (wc := XOW ax yx qo yo ((cc, tc, fc, hc, dr, dO, fC, fO, fT, fH), g)) hD hS hA [0, 1, 2, 3, 4, 13] rfl
  refine va_calli (vx_runSW (As := [.ref (ax 0), .int (xs (3 * B + 1)), .ref qo]) (rest := []) ⟨hx, hb, hml, hown, hw⟩ (l_count l hl9 dC dI ax yx qo yo H.size cc tc fc hc dr dO fC fO fT fH g (xs (3 * B + 1))) (vx_cwSW 3 hw (gw_S wb_253 wb_254 wb_0 wb_255) rfl rfl rfl (by decide +kernel) ⟨(Nat.le_of_ble_eq_true rfl), (Nat.le_of_ble_eq_true rfl)⟩) ⟨blind_preXO, fun U hU hW => ⟨rfl, by rw [hU], by rw [hU]; exact hPc, va_K.moved hW.alike hKc, hDc.weaken (fun _ _ _ _ => trivial), ThU.at hU hW (hTH H _ hS)⟩⟩ rfl rfl hl.1 rfl (lv_room (Nat.le_of_ble_eq_true rfl)) dL_law_528 ⟨by show (14 + 2 * B) + 1 ≤ 1046; omega, by show (13169 + 12 * B) + 6 ≤ 21409; omega⟩) hS (fun q _ h => hFc q h) hFc (fun r1 u t H1 locs ht hvm hq hB9 hz1 hk1 hS => ?_)
  by_cases hbad : ((xs (3 * B + 1)) < 0 ∨ 4 < (xs (3 * B + 1)))
  · skip
    rcases hq with ⟨_, er1, rfl⟩ | ⟨z, _⟩
    rotate_left
    · exact absurd hbad z
    subst er1
    obtain ⟨hP1, hK1, hD1⟩ := hB9
    rw [ht] at hP1
    obtain ⟨hP, hD⟩ := va_join (wr := MW am ym (co, ct, th, fo, sg, sz, hc2, fL, fN, fD, fH2, fV, fM, fW)) (w1 := XOW ax yx qo yo ((cc, tc, fc, hc, dr, dO, fC, fO, fT, fH), g)) hP hD [0, 1, 2, 3, 4, 13] [5, 6, 7, 8, 9, 10, 11, 12] rfl rfl (by decide) (by decide) hk1 hFc hP1 hD1
    have hP : va_P (dC, dI) cls2 (LWd ax yx am ym qo yo (cc, tc, fc, hc, dr, dO, fC, fO, fT, fH) (co, ct, th, fo, sg, sz, hc2, fL, fN, fD, fH2, fV, fM, fW) g) H1 := hP.sub [8, 9, 10, 11, 12, 0, 1, 2, 3, 4, 5, 6, 7, 13] rfl
    have hD : va_D (fun q => s.heap.size ≤ q) (LWd ax yx am ym qo yo (cc, tc, fc, hc, dr, dO, fC, fO, fT, fH) (co, ct, th, fo, sg, sz, hc2, fL, fN, fD, fH2, fV, fM, fW) g) := hD.sub [8, 9, 10, 11, 12, 0, 1, 2, 3, 4, 5, 6, 7, 13] (by decide) rfl
    clear hP1 hK1 hD1 hk1 hz1 ht hPc hDc hKc hFc
    generalize H1 = H at hP hS ⊢
    refine lv_istore (lv' := [(5, .int 1), (4, .int (nI (3 * B))), (0, .ref b), (1, .ref (ax 0)), (2, .ref (am 0)), (3, .ref qo)]) hx hb dL_law_531 hl (by decide) rfl (fun ls hl => ?_)
    refine lv_aload_n hx hb dL_law_533 rfl (lv_at hl 4 rfl) ?_
    refine lv_aload_n hx hb dL_law_534 rfl (lv_at hl 2 rfl) ?_
    refine lv_iload hx hb dL_law_535 (lv_at hl 1 rfl) ?_
    refine lv_iconst (v := 1) hx hb dL_law_537 (by decide) ?_
    refine lv_iadd hx hb dL_law_538 ?_
    rw [show nI (3 * B) + 1 = nI (3 * B + 1) from nI_add (3 * B) 1]
    refine va_sld hx hb hX hbl hbA hS (vp_in_nI (show 3 * B + 1 < L by omega) (by omega)) dL_law_539 ?_
    rw [nI_clamp (show 3 * B + 1 < 2 ^ 31 by omega)]
    have hPc := hP.sub (ws' := MW am ym (co, ct, th, fo, sg, sz, hc2, fL, fN, fD, fH2, fV, fM, fW)) [5, 6, 7, 8, 9, 10, 11, 12] rfl
    have hDc := hD.sub (ws' := MW am ym (co, ct, th, fo, sg, sz, hc2, fL, fN, fD, fH2, fV, fM, fW)) [5, 6, 7, 8, 9, 10, 11, 12] (by decide) rfl
    have hKc := hK.sub (tys' := tysM ym) [4, 5, 6, 7, 8, 9, 10] rfl
    have hFc := va_free (wc := MW am ym (co, ct, th, fo, sg, sz, hc2, fL, fN, fD, fH2, fV, fM, fW)) hD hS hA [5, 6, 7, 8, 9, 10, 11, 12] rfl
    refine va_calli (va_runV (As := [.int (xs (3 * B + 1))]) (rest := []) ⟨hx, hb, hml, hown, hw⟩ (n_count l dC dI am ym H.size co ct th fo sg sz hc2 fL fN fD fH2 fV fM fW (xs (3 * B + 1))) (cwV 1 hw (gw_V wb_399 wb_400 wb_401 wb_2 wb_402) rfl rfl rfl (by decide +kernel) ⟨Nat.le_of_ble_eq_true rfl, Nat.le_of_ble_eq_true rfl⟩) ⟨blind_preM, va_recv hKc hPc (ci := 1) (q0 := 0) rfl rfl, fun U hU hW => ⟨rfl, by rw [hU], by rw [hU]; exact hPc, va_K.moved hW.alike hKc, hDc.weaken (fun _ _ _ _ => trivial)⟩⟩ rfl rfl hl.1 rfl (lv_room (Nat.le_of_ble_eq_true rfl)) dL_law_540 ⟨by show (14 + 2 * B + 1) + 0 ≤ 1046; omega, by show (13169 + 12 * B + 6) + 0 ≤ 21409; omega⟩) hS (fun q _ h => hFc q h) hFc (fun r2 u t H1 locs ht hvm hq2 hB9 hz1 hk1 hS => ?_)
    rcases hq2 with ⟨_, er2, rfl⟩ | ⟨z, _⟩
    rotate_left
    · exact absurd hbad z
    subst er2
    obtain ⟨hP1, hK1, hD1⟩ := hB9
    rw [ht] at hP1
    obtain ⟨hP, hD⟩ := va_join (wr := XOW ax yx qo yo ((cc, tc, fc, hc, dr, dO, fC, fO, fT, fH), g)) (w1 := MW am ym (1, ct, th, fo, sg, sz, hc2, fL, fN, fD, fH2, fV, fM, fW)) hP hD [5, 6, 7, 8, 9, 10, 11, 12] [0, 1, 2, 3, 4, 13] rfl rfl (by decide) (by decide) hk1 hFc hP1 hD1
    have hP : va_P (dC, dI) cls2 (LWd ax yx am ym qo yo (cc, tc, fc, hc, dr, dO, fC, fO, fT, fH) (1, ct, th, fo, sg, sz, hc2, fL, fN, fD, fH2, fV, fM, fW) g) H1 := hP.sub [0, 1, 2, 3, 4, 6, 7, 8, 9, 10, 11, 12, 13, 5] rfl
    have hD : va_D (fun q => s.heap.size ≤ q) (LWd ax yx am ym qo yo (cc, tc, fc, hc, dr, dO, fC, fO, fT, fH) (1, ct, th, fo, sg, sz, hc2, fL, fN, fD, fH2, fV, fM, fW) g) := hD.sub [0, 1, 2, 3, 4, 6, 7, 8, 9, 10, 11, 12, 13, 5] (by decide) rfl
    clear hP1 hK1 hD1 hk1 hz1 ht hPc hDc hKc hFc
    generalize H1 = H at hP hS ⊢
    refine lv_istore (lv' := [(6, .int 0), (5, .int 1), (4, .int (nI (3 * B))), (0, .ref b), (1, .ref (ax 0)), (2, .ref (am 0)), (3, .ref qo)]) hx hb dL_law_543 hl (by decide) rfl (fun ls hl => ?_)
    refine lv_aload_n hx hb dL_law_545 rfl (lv_at hl 5 rfl) ?_
    have hPc := hP.sub (ws' := MW am ym (1, ct, th, fo, sg, sz, hc2, fL, fN, fD, fH2, fV, fM, fW)) [5, 6, 7, 8, 9, 10, 11, 12] rfl
    have hKc := hK.sub (tys' := tysM ym) [4, 5, 6, 7, 8, 9, 10] rfl
    refine vp_callSi (W.runV (As := []) (rest := []) ⟨hx, hb, hml, hown, hw⟩ (n_thrown l dC dI am ym 1 ct th fo sg sz hc2 fL fN fD fH2 fV fM fW) (cwV 0 hw (gw_V wb_311 wb_312 wb_313 wb_2 wb_314) rfl rfl rfl (by decide +kernel) ⟨Nat.le_of_ble_eq_true rfl, Nat.le_of_ble_eq_true rfl⟩) ⟨blind_rdM, va_recv hKc hPc (ci := 1) (q0 := 0) rfl rfl, fun U hU hW => ⟨rfl, by rw [hU]; exact hPc, va_K.moved hW.alike hKc⟩⟩ rfl rfl hl.1 rfl (lv_room (Nat.le_of_ble_eq_true rfl)) dL_law_546 ⟨by show (14 + 2 * B + 1) + 0 ≤ 1046; omega, by show (13169 + 12 * B + 6) + 0 ≤ 21409; omega⟩) (fun r3 hr3 => ?_)
    subst hr3
    refine lv_iload hx hb dL_law_549 (lv_at hl 1 rfl) ?_
    refine lv_icmp_eq (tgt := 556) hx hb dL_law_551 (by decide) (fun c1 => ?_) (fun c1 => ?_)
    · skip
      refine lv_iload hx hb dL_law_556 (lv_at hl 1 rfl) ?_
      refine lv_if_ne (tgt := 573) hx hb dL_law_558 (by decide) (fun c2 => ?_) (fun c2 => ?_)
      · skip
        refine lv_goto (tgt := 576) hx hb dL_law_573 (by decide) ?_
        refine W.widen (k := 14 + 2 * (B + 1)) (n := 13169 + 12 * (B + 1)) (by omega) (by omega) ?_
        exact back (cc, tc, fc, hc, dr, dO, fC, fO, fT, fH) (1, ct, th, fo, sg, sz, hc2, fL, fN, fD, fH2, fV, fM, fW) g H _ (⟨n, d, q, zl, R_up hR⟩) hP hD hS ls (lv_sub hl [2, 3, 4, 5, 6] rfl)
      · skip
        exact absurd c2 (by decide)
    · skip
      exact absurd rfl c1
  · skip
    rcases hq with ⟨z, _⟩ | ⟨_, er1, rfl⟩
    · exact absurd z hbad
    subst er1
    obtain ⟨hP1, hK1, hD1⟩ := hB9
    rw [ht] at hP1
    obtain ⟨hP, hD⟩ := va_join (wr := MW am ym (co, ct, th, fo, sg, sz, hc2, fL, fN, fD, fH2, fV, fM, fW)) (w1 := XOW ax yx qo yo ((cc, tc, fc, hc, dr, dO, fC, fO, fT, fH), (o_set g (cn_val cc tc fc hc dr (xs (3 * B + 1)))))) hP hD [0, 1, 2, 3, 4, 13] [5, 6, 7, 8, 9, 10, 11, 12] rfl rfl (by decide) (by decide) hk1 hFc hP1 hD1
    have hP : va_P (dC, dI) cls2 (LWd ax yx am ym qo yo (cc, tc, fc, hc, dr, dO, fC, fO, fT, fH) (co, ct, th, fo, sg, sz, hc2, fL, fN, fD, fH2, fV, fM, fW) (o_set g (cn_val cc tc fc hc dr (xs (3 * B + 1))))) H1 := hP.sub [8, 9, 10, 11, 12, 0, 1, 2, 3, 4, 5, 6, 7, 13] rfl
    have hD : va_D (fun q => s.heap.size ≤ q) (LWd ax yx am ym qo yo (cc, tc, fc, hc, dr, dO, fC, fO, fT, fH) (co, ct, th, fo, sg, sz, hc2, fL, fN, fD, fH2, fV, fM, fW) (o_set g (cn_val cc tc fc hc dr (xs (3 * B + 1))))) := hD.sub [8, 9, 10, 11, 12, 0, 1, 2, 3, 4, 5, 6, 7, 13] (by decide) rfl
    clear hP1 hK1 hD1 hk1 hz1 ht hPc hDc hKc hFc
    generalize H1 = H at hP hS ⊢
    refine lv_istore (lv' := [(5, .int 0), (4, .int (nI (3 * B))), (0, .ref b), (1, .ref (ax 0)), (2, .ref (am 0)), (3, .ref qo)]) hx hb dL_law_531 hl (by decide) rfl (fun ls hl => ?_)
    refine lv_aload_n hx hb dL_law_533 rfl (lv_at hl 4 rfl) ?_
    refine lv_aload_n hx hb dL_law_534 rfl (lv_at hl 2 rfl) ?_
    refine lv_iload hx hb dL_law_535 (lv_at hl 1 rfl) ?_
    refine lv_iconst (v := 1) hx hb dL_law_537 (by decide) ?_
    refine lv_iadd hx hb dL_law_538 ?_
    rw [show nI (3 * B) + 1 = nI (3 * B + 1) from nI_add (3 * B) 1]
    refine va_sld hx hb hX hbl hbA hS (vp_in_nI (show 3 * B + 1 < L by omega) (by omega)) dL_law_539 ?_
    rw [nI_clamp (show 3 * B + 1 < 2 ^ 31 by omega)]
    have hPc := hP.sub (ws' := MW am ym (co, ct, th, fo, sg, sz, hc2, fL, fN, fD, fH2, fV, fM, fW)) [5, 6, 7, 8, 9, 10, 11, 12] rfl
    have hDc := hD.sub (ws' := MW am ym (co, ct, th, fo, sg, sz, hc2, fL, fN, fD, fH2, fV, fM, fW)) [5, 6, 7, 8, 9, 10, 11, 12] (by decide) rfl
    have hKc := hK.sub (tys' := tysM ym) [4, 5, 6, 7, 8, 9, 10] rfl
    have hFc := va_free (wc := MW am ym (co, ct, th, fo, sg, sz, hc2, fL, fN, fD, fH2, fV, fM, fW)) hD hS hA [5, 6, 7, 8, 9, 10, 11, 12] rfl
    refine va_calli (va_runV (As := [.int (xs (3 * B + 1))]) (rest := []) ⟨hx, hb, hml, hown, hw⟩ (n_count l dC dI am ym H.size co ct th fo sg sz hc2 fL fN fD fH2 fV fM fW (xs (3 * B + 1))) (cwV 1 hw (gw_V wb_399 wb_400 wb_401 wb_2 wb_402) rfl rfl rfl (by decide +kernel) ⟨Nat.le_of_ble_eq_true rfl, Nat.le_of_ble_eq_true rfl⟩) ⟨blind_preM, va_recv hKc hPc (ci := 1) (q0 := 0) rfl rfl, fun U hU hW => ⟨rfl, by rw [hU], by rw [hU]; exact hPc, va_K.moved hW.alike hKc, hDc.weaken (fun _ _ _ _ => trivial)⟩⟩ rfl rfl hl.1 rfl (lv_room (Nat.le_of_ble_eq_true rfl)) dL_law_540 ⟨by show (14 + 2 * B + 1) + 0 ≤ 1046; omega, by show (13169 + 12 * B + 6) + 0 ≤ 21409; omega⟩) hS (fun q _ h => hFc q h) hFc (fun r2 u t H1 locs ht hvm hq2 hB9 hz1 hk1 hS => ?_)
    rcases hq2 with ⟨z, _⟩ | ⟨_, er2, rfl⟩
    · exact absurd z hbad
    have hval := R_count hR (xs (3 * B + 1))
    obtain ⟨hP1, hK1, hD1⟩ := hB9
    rw [ht] at hP1
    obtain ⟨hP, hD⟩ := va_join (wr := XOW ax yx qo yo ((cc, tc, fc, hc, dr, dO, fC, fO, fT, fH), (o_set g (cn_val cc tc fc hc dr (xs (3 * B + 1)))))) (w1 := MW am ym (0, ct, th, fo, sg, sz, hc2, fL, fN, fD, fH2, fV, fM, fW)) hP hD [5, 6, 7, 8, 9, 10, 11, 12] [0, 1, 2, 3, 4, 13] rfl rfl (by decide) (by decide) hk1 hFc hP1 hD1
    have hP : va_P (dC, dI) cls2 (LWd ax yx am ym qo yo (cc, tc, fc, hc, dr, dO, fC, fO, fT, fH) (0, ct, th, fo, sg, sz, hc2, fL, fN, fD, fH2, fV, fM, fW) (o_set g (cn_val cc tc fc hc dr (xs (3 * B + 1))))) H1 := hP.sub [0, 1, 2, 3, 4, 6, 7, 8, 9, 10, 11, 12, 13, 5] rfl
    have hD : va_D (fun q => s.heap.size ≤ q) (LWd ax yx am ym qo yo (cc, tc, fc, hc, dr, dO, fC, fO, fT, fH) (0, ct, th, fo, sg, sz, hc2, fL, fN, fD, fH2, fV, fM, fW) (o_set g (cn_val cc tc fc hc dr (xs (3 * B + 1))))) := hD.sub [0, 1, 2, 3, 4, 6, 7, 8, 9, 10, 11, 12, 13, 5] (by decide) rfl
    clear hP1 hK1 hD1 hk1 hz1 ht hPc hDc hKc hFc
    generalize H1 = H at hP hS ⊢
    refine lv_istore (lv' := [(6, .int r2), (5, .int 0), (4, .int (nI (3 * B))), (0, .ref b), (1, .ref (ax 0)), (2, .ref (am 0)), (3, .ref qo)]) hx hb dL_law_543 hl (by decide) rfl (fun ls hl => ?_)
    refine lv_aload_n hx hb dL_law_545 rfl (lv_at hl 5 rfl) ?_
    have hPc := hP.sub (ws' := MW am ym (0, ct, th, fo, sg, sz, hc2, fL, fN, fD, fH2, fV, fM, fW)) [5, 6, 7, 8, 9, 10, 11, 12] rfl
    have hKc := hK.sub (tys' := tysM ym) [4, 5, 6, 7, 8, 9, 10] rfl
    refine vp_callSi (W.runV (As := []) (rest := []) ⟨hx, hb, hml, hown, hw⟩ (n_thrown l dC dI am ym 0 ct th fo sg sz hc2 fL fN fD fH2 fV fM fW) (cwV 0 hw (gw_V wb_311 wb_312 wb_313 wb_2 wb_314) rfl rfl rfl (by decide +kernel) ⟨Nat.le_of_ble_eq_true rfl, Nat.le_of_ble_eq_true rfl⟩) ⟨blind_rdM, va_recv hKc hPc (ci := 1) (q0 := 0) rfl rfl, fun U hU hW => ⟨rfl, by rw [hU]; exact hPc, va_K.moved hW.alike hKc⟩⟩ rfl rfl hl.1 rfl (lv_room (Nat.le_of_ble_eq_true rfl)) dL_law_546 ⟨by show (14 + 2 * B + 1) + 0 ≤ 1046; omega, by show (13169 + 12 * B + 6) + 0 ≤ 21409; omega⟩) (fun r3 hr3 => ?_)
    subst hr3
    refine lv_iload hx hb dL_law_549 (lv_at hl 1 rfl) ?_
    refine lv_icmp_eq (tgt := 556) hx hb dL_law_551 (by decide) (fun c1 => ?_) (fun c1 => ?_)
    · skip
      refine lv_iload hx hb dL_law_556 (lv_at hl 1 rfl) ?_
      refine lv_if_ne (tgt := 573) hx hb dL_law_558 (by decide) (fun c2 => ?_) (fun c2 => ?_)
      · skip
        exact absurd rfl c2
      · skip
        refine lv_aload_n hx hb dL_law_561 rfl (lv_at hl 6 rfl) ?_
        refine lv_iconst (v := 0) hx hb dL_law_562 (by decide) ?_
        refine va_lald hx hb hK hP 13 11 rfl rfl in_01 dL_law_563 ?_
        rw [o_get]
        refine lv_iload hx hb dL_law_564 (lv_at hl 0 rfl) ?_
        refine lv_i2l (v := r2.toInt64) hx hb dL_law_566 rfl ?_
        refine W.lcmp hx hb dL_law_567 ?_
        refine lv_if_eq (tgt := 573) hx hb dL_law_568 (by decide) (fun c3 => ?_) (fun c3 => ?_)
        · skip
          refine lv_goto (tgt := 576) hx hb dL_law_573 (by decide) ?_
          refine W.widen (k := 14 + 2 * (B + 1)) (n := 13169 + 12 * (B + 1)) (by omega) (by omega) ?_
          exact back (cc, tc, fc, hc, dr, dO, fC, fO, fT, fH) (0, ct, th, fo, sg, sz, hc2, fL, fN, fD, fH2, fV, fM, fW) (o_set g (cn_val cc tc fc hc dr (xs (3 * B + 1)))) H _ (⟨n, d, q, zl, R_up hR⟩) hP hD hS ls (lv_sub hl [2, 3, 4, 5, 6] rfl)
        · skip
          exact absurd ((lg_cmp_eq _ _).mpr (congrArg Int32.toInt64 (hval.trans er2.symm))) c3
    · skip
      exact absurd rfl c1
set_option maxHeartbeats 1000000 in
set_option maxRecDepth 100000 in
/-- law_op4 -/
theorem law_op4 {p : Program} {l : Launch} {e : Env} {s : State} {m : MethodId} {below : List Frame} {meth : Method} {c : Code} {b L : Nat} {xs : Nat → Int32} (hl9 : l.stackTraces = false) (hL : L ≤ 1536) (C0 : lw_At p s m meth c b L xs) (hT : Th (fun q => s.heap.size ≤ q) s s.heap) {dC : Nat → ClassId} {dI : Nat → Nat → Nat} {ax : Nat → Nat} {yx : Nat → ClassId} {am : Nat → Nat} {ym : Nat → ClassId} {qo : Nat} {yo : ClassId} (hK : va_K (dC, dI) cls2 (tysL yx ym yo) s) {B : Nat} (hB : 3 * B + 3 ≤ L) {u : XS} {mm : MS} {g : Nat → Int64} {H : Heap} {locs : List Loc} (hRel : Rel B u mm) (hP : va_P (dC, dI) cls2 (LWd ax yx am ym qo yo u mm g) H) (hD : va_D (fun q => s.heap.size ≤ q) (LWd ax yx am ym qo yo u mm g)) (hS : va_S (fun q => s.heap.size ≤ q) s.heap H locs) (back : ∀ (u : XS) (mm : MS) (g : Nat → Int64) (H : Heap) (locs : List Loc), Rel (B + 1) u mm → va_P (dC, dI) cls2 (LWd ax yx am ym qo yo u mm g) H → va_D (fun q => s.heap.size ≤ q) (LWd ax yx am ym qo yo u mm g) → va_S (fun q => s.heap.size ≤ q) s.heap H locs → ∀ ls, lv_has ls 7 [(4, .int (nI (3 * B))), (0, .ref b), (1, .ref (ax 0)), (2, .ref (am 0)), (3, .ref qo)] → LWj p l e s m b below meth c H locs (B + 1) 576 ls) : ∀ ls, lv_has ls 7 [(4, .int (nI (3 * B))), (0, .ref b), (1, .ref (ax 0)), (2, .ref (am 0)), (3, .ref qo)] → LWj p l e s m b below meth c H locs B 269 ls := by
  obtain ⟨hx, hb, hr, hml, hown, hts, hX, hbl, hlocks, hgv⟩ := C0
  have hw : ∀ w ∈ WB, w.before #[Value.ref b] s = true := fun w h => hts w (WB_lw w h)
  have hA : ∀ q : Nat, s.heap.size ≤ q → (fun q : Nat => s.heap.size ≤ q) q := fun _ h => h
  have hbA : ¬ (fun q : Nat => s.heap.size ≤ q) b := Nat.not_le.mpr hbl
  obtain ⟨cc, tc, fc, hc, dr, dO, fC, fO, fT, fH⟩ := u
  obtain ⟨co, ct, th, fo, sg, sz, hc2, fL, fN, fD, fH2, fV, fM, fW⟩ := mm
  obtain ⟨n, d, q, zl, hR⟩ := hRel
  obtain ⟨h1, h2, h3, h4, h5, h6, h7, h8, h9, h10, h11, h12, h13, h14, h15, h16, h17⟩ := id hR
  have hd := gs_16 h11
  have hTH : ∀ (H : Heap) (locs : List Loc), va_S (fun q => s.heap.size ≤ q) s.heap H locs → Th (fun q => H.size ≤ q) s H := fun H locs hS => (hT.kept hS.2.1).narrow (fun q h => Nat.le_trans hS.1 h)
  intro ls hl
  have hP : va_P (dC, dI) cls2 (LWd ax yx am ym qo yo (cc, tc, fc, hc, dr, dO, fC, fO, fT, fH) (co, ct, th, fo, sg, sz, hc2, fL, fN, fD, fH2, fV, fM, fW) g) H := hP
  have hD : va_D (fun q => s.heap.size ≤ q) (LWd ax yx am ym qo yo (cc, tc, fc, hc, dr, dO, fC, fO, fT, fH) (co, ct, th, fo, sg, sz, hc2, fL, fN, fD, fH2, fV, fM, fW) g) := hD
  refine lv_aload_n hx hb dL_law_269 rfl (lv_at hl 2 rfl) ?_
  refine lv_aload_n hx hb dL_law_270 rfl (lv_at hl 4 rfl) ?_
  have hPc := hP.sub (ws' := XOW ax yx qo yo ((cc, tc, fc, hc, dr, dO, fC, fO, fT, fH), g)) [0, 1, 2, 3, 4, 13] rfl
  have hDc := hD.sub (ws' := XOW ax yx qo yo ((cc, tc, fc, hc, dr, dO, fC, fO, fT, fH), g)) [0, 1, 2, 3, 4, 13] (by decide) rfl
  have hKc := hK.sub (tys' := tysXO yx yo) [0, 1, 2, 3, 11] rfl
  have hFc := va_free (wc := XOW ax yx qo yo ((cc, tc, fc, hc, dr, dO, fC, fO, fT, fH), g)) hD hS hA [0, 1, 2, 3, 4, 13] rfl
  refine va_calli (vx_runSW (As := [.ref (ax 0), .ref qo]) (rest := []) ⟨hx, hb, hml, hown, hw⟩ (l_step l hl9 dC dI ax yx qo yo H.size cc tc fc hc dr dO fC fO fT fH g n (by omega) h3) (vx_cwSW 2 hw (gw_S wb_209 wb_210 wb_0 wb_211) rfl rfl rfl (by decide +kernel) ⟨(Nat.le_of_ble_eq_true rfl), (Nat.le_of_ble_eq_true rfl)⟩) ⟨blind_preXO, fun U hU hW => ⟨rfl, by rw [hU], by rw [hU]; exact hPc, va_K.moved hW.alike hKc, hDc.weaken (fun _ _ _ _ => trivial), ThU.at hU hW (hTH H _ hS)⟩⟩ rfl rfl hl.1 rfl (lv_room (Nat.le_of_ble_eq_true rfl)) dL_law_271 ⟨by show (14 + 2 * B) + 0 ≤ 1046; omega, by show (13169 + 12 * B) + 0 ≤ 21409; omega⟩) hS (fun q _ h => hFc q h) hFc (fun r1 u t H1 locs ht hvm hq hB9 hz1 hk1 hS => ?_)
  have hfol : ∃ ans : Int32, fw_it fL fN n 17 (so_it fD d 0 (zv_it 17 0 fV)) 0 = some ans ∧ td_val (tl_rounds fC fT n 17 dr) dr = ans ∧ (ans = 17 → tl_rounds fC fT n 17 dr = none) := by
    rcases follow_ok (fC := fC) (fT := fT) fV h15 h11 with ⟨hnone, htd, hfw⟩ | ⟨t9, ht9, htd, hfw⟩
    · exact ⟨17, hfw, by rw [h12]; exact htd, fun _ => by rw [h12]; exact hnone⟩
    · exact ⟨nI t9, hfw, by rw [h12]; exact htd, fun h => absurd ((nI_eq (a := t9) (b := 17) (by omega) (by decide)).mp h) (by omega)⟩
  obtain ⟨ans, hfw, htd, hnone⟩ := hfol
  by_cases h17a : ans = 17
  · skip
    rcases hq with ⟨_, er1, rfl⟩ | ⟨z, _⟩
    rotate_left
    · exact absurd (htd.trans h17a) z
    subst er1
    obtain ⟨hP1, hK1, hD1⟩ := hB9
    rw [ht] at hP1
    obtain ⟨hP, hD⟩ := va_join (wr := MW am ym (co, ct, th, fo, sg, sz, hc2, fL, fN, fD, fH2, fV, fM, fW)) (w1 := XOW ax yx qo yo ((kp_S (cc, tc, fc + 1, hc, dr, dO, fC, fO, fT, fH)), (o_set g cc))) hP hD [0, 1, 2, 3, 4, 13] [5, 6, 7, 8, 9, 10, 11, 12] rfl rfl (by decide) (by decide) hk1 hFc hP1 hD1
    have hP : va_P (dC, dI) cls2 (LWd ax yx am ym qo yo (kp_S (cc, tc, fc + 1, hc, dr, dO, fC, fO, fT, fH)) (co, ct, th, fo, sg, sz, hc2, fL, fN, fD, fH2, fV, fM, fW) (o_set g cc)) H1 := hP.sub [8, 9, 10, 11, 12, 0, 1, 2, 3, 4, 5, 6, 7, 13] rfl
    have hD : va_D (fun q => s.heap.size ≤ q) (LWd ax yx am ym qo yo (kp_S (cc, tc, fc + 1, hc, dr, dO, fC, fO, fT, fH)) (co, ct, th, fo, sg, sz, hc2, fL, fN, fD, fH2, fV, fM, fW) (o_set g cc)) := hD.sub [8, 9, 10, 11, 12, 0, 1, 2, 3, 4, 5, 6, 7, 13] (by decide) rfl
    clear hP1 hK1 hD1 hk1 hz1 ht hPc hDc hKc hFc
    generalize H1 = H at hP hS ⊢
    refine lv_istore (lv' := [(5, .int 0), (4, .int (nI (3 * B))), (0, .ref b), (1, .ref (ax 0)), (2, .ref (am 0)), (3, .ref qo)]) hx hb dL_law_274 hl (by decide) rfl (fun ls hl => ?_)
    refine lv_aload_n hx hb dL_law_276 rfl (lv_at hl 4 rfl) ?_
    have hPc := hP.sub (ws' := MW am ym (co, ct, th, fo, sg, sz, hc2, fL, fN, fD, fH2, fV, fM, fW)) [5, 6, 7, 8, 9, 10, 11, 12] rfl
    have hDc := hD.sub (ws' := MW am ym (co, ct, th, fo, sg, sz, hc2, fL, fN, fD, fH2, fV, fM, fW)) [5, 6, 7, 8, 9, 10, 11, 12] (by decide) rfl
    have hKc := hK.sub (tys' := tysM ym) [4, 5, 6, 7, 8, 9, 10] rfl
    have hFc := va_free (wc := MW am ym (co, ct, th, fo, sg, sz, hc2, fL, fN, fD, fH2, fV, fM, fW)) hD hS hA [5, 6, 7, 8, 9, 10, 11, 12] rfl
    refine va_calli (va_runV (As := []) (rest := []) ⟨hx, hb, hml, hown, hw⟩ (n_step l dC dI am ym H.size co ct th fo sg sz hc2 fL fN fD fH2 fV fM fW n (by omega) h4 d hd h9 (R_rng h11) (R_cl h15) 17 ans hfw) (cwV 0 hw (gw_V wb_343 wb_344 wb_345 wb_2 wb_346) rfl rfl rfl (by decide +kernel) ⟨Nat.le_of_ble_eq_true rfl, Nat.le_of_ble_eq_true rfl⟩) ⟨blind_preM, va_recv hKc hPc (ci := 1) (q0 := 0) rfl rfl, fun U hU hW => ⟨rfl, by rw [hU], by rw [hU]; exact hPc, va_K.moved hW.alike hKc, hDc.weaken (fun _ _ _ _ => trivial)⟩⟩ rfl rfl hl.1 rfl (lv_room (Nat.le_of_ble_eq_true rfl)) dL_law_277 ⟨by show (14 + 2 * B + 0) + 0 ≤ 1046; omega, by show (13169 + 12 * B + 0) + 0 ≤ 21409; omega⟩) hS (fun q _ h => hFc q h) hFc (fun r2 u t H1 locs ht hvm hq2 hB9 hz1 hk1 hS => ?_)
    rcases hq2 with ⟨_, er2, f, rfl⟩ | ⟨z, _⟩
    rotate_left
    · exact absurd h17a z
    have hct := snd_step h17 (hnone h17a)
    rw [h12] at hct
    have hac := ac_ok h11 hct
    obtain ⟨hval, hrel⟩ := R_add (fc1 := fc + 1) (fo1 := fo + 1) (sg1 := sg + (if ac_it (fun j => ti_it fD fW (nI j) d 0 0) fM 1024 0 1 = 0 then 1 else 0)) hR (by omega) (by rw [h6]) h7 h8 (Nat.le_refl _) (by rw [hac, h10]; rfl) (fun fC2 g1 g2 => MI_acc h17 g1 g2 hct)
    obtain ⟨hP1, hK1, hD1⟩ := hB9
    rw [ht] at hP1
    obtain ⟨hP, hD⟩ := va_join (wr := XOW ax yx qo yo ((kp_S (cc, tc, fc + 1, hc, dr, dO, fC, fO, fT, fH)), (o_set g cc))) (w1 := MW am ym (ad_S n d (0, ct, th, fo + 1, sg + (if ac_it (fun j => ti_it fD fW (nI j) d 0 0) fM 1024 0 1 = 0 then 1 else 0), sz, hc2, fL, fN, fD, fH2, f, fM, fW))) hP hD [5, 6, 7, 8, 9, 10, 11, 12] [0, 1, 2, 3, 4, 13] rfl rfl (by decide) (by decide) hk1 hFc hP1 hD1
    have hP : va_P (dC, dI) cls2 (LWd ax yx am ym qo yo (kp_S (cc, tc, fc + 1, hc, dr, dO, fC, fO, fT, fH)) (ad_S n d (0, ct, th, fo + 1, sg + (if ac_it (fun j => ti_it fD fW (nI j) d 0 0) fM 1024 0 1 = 0 then 1 else 0), sz, hc2, fL, fN, fD, fH2, f, fM, fW)) (o_set g cc)) H1 := hP.sub [0, 1, 2, 3, 4, 6, 7, 8, 9, 10, 11, 12, 13, 5] rfl
    have hD : va_D (fun q => s.heap.size ≤ q) (LWd ax yx am ym qo yo (kp_S (cc, tc, fc + 1, hc, dr, dO, fC, fO, fT, fH)) (ad_S n d (0, ct, th, fo + 1, sg + (if ac_it (fun j => ti_it fD fW (nI j) d 0 0) fM 1024 0 1 = 0 then 1 else 0), sz, hc2, fL, fN, fD, fH2, f, fM, fW)) (o_set g cc)) := hD.sub [0, 1, 2, 3, 4, 6, 7, 8, 9, 10, 11, 12, 13, 5] (by decide) rfl
    clear hP1 hK1 hD1 hk1 hz1 ht hPc hDc hKc hFc
    generalize H1 = H at hP hS ⊢
    refine lv_istore (lv' := [(6, .int r2), (5, .int 0), (4, .int (nI (3 * B))), (0, .ref b), (1, .ref (ax 0)), (2, .ref (am 0)), (3, .ref qo)]) hx hb dL_law_280 hl (by decide) rfl (fun ls hl => ?_)
    refine lv_aload_n hx hb dL_law_282 rfl (lv_at hl 5 rfl) ?_
    have hPc := hP.sub (ws' := MW am ym (ad_S n d (0, ct, th, fo + 1, sg + (if ac_it (fun j => ti_it fD fW (nI j) d 0 0) fM 1024 0 1 = 0 then 1 else 0), sz, hc2, fL, fN, fD, fH2, f, fM, fW))) [5, 6, 7, 8, 9, 10, 11, 12] rfl
    have hKc := hK.sub (tys' := tysM ym) [4, 5, 6, 7, 8, 9, 10] rfl
    refine vp_callSi (W.runV (As := []) (rest := []) ⟨hx, hb, hml, hown, hw⟩ (n_thrown l dC dI am ym 0 (ct + 1) (th + 1) (fo + 1) (sg + (if ac_it (fun j => ti_it fD fW (nI j) d 0 0) fM 1024 0 1 = 0 then 1 else 0)) 0 hc2 (ad_it fD n d 0 fL) (upd fN n sz) fD fH2 f fM fW) (cwV 0 hw (gw_V wb_311 wb_312 wb_313 wb_2 wb_314) rfl rfl rfl (by decide +kernel) ⟨Nat.le_of_ble_eq_true rfl, Nat.le_of_ble_eq_true rfl⟩) ⟨blind_rdM, va_recv hKc hPc (ci := 1) (q0 := 0) rfl rfl, fun U hU hW => ⟨rfl, by rw [hU]; exact hPc, va_K.moved hW.alike hKc⟩⟩ rfl rfl hl.1 rfl (lv_room (Nat.le_of_ble_eq_true rfl)) dL_law_283 ⟨by show (14 + 2 * B + 0) + 0 ≤ 1046; omega, by show (13169 + 12 * B + 0) + 0 ≤ 21409; omega⟩) (fun r3 hr3 => ?_)
    subst hr3
    refine lv_iload hx hb dL_law_286 (lv_at hl 1 rfl) ?_
    refine lv_icmp_eq (tgt := 293) hx hb dL_law_288 (by decide) (fun c1 => ?_) (fun c1 => ?_)
    · skip
      refine lv_iload hx hb dL_law_293 (lv_at hl 1 rfl) ?_
      refine lv_if_ne (tgt := 310) hx hb dL_law_295 (by decide) (fun c2 => ?_) (fun c2 => ?_)
      · skip
        exact absurd rfl c2
      · skip
        refine lv_aload_n hx hb dL_law_298 rfl (lv_at hl 6 rfl) ?_
        refine lv_iconst (v := 0) hx hb dL_law_299 (by decide) ?_
        refine va_lald hx hb hK hP 13 11 rfl rfl in_01 dL_law_300 ?_
        rw [o_get]
        refine lv_iload hx hb dL_law_301 (lv_at hl 0 rfl) ?_
        refine lv_i2l (v := r2.toInt64) hx hb dL_law_303 rfl ?_
        refine W.lcmp hx hb dL_law_304 ?_
        refine lv_if_eq (tgt := 310) hx hb dL_law_305 (by decide) (fun c3 => ?_) (fun c3 => ?_)
        · skip
          refine lv_goto (tgt := 576) hx hb dL_law_310 (by decide) ?_
          refine W.widen (k := 14 + 2 * (B + 1)) (n := 13169 + 12 * (B + 1)) (by omega) (by omega) ?_
          exact back (kp_S (cc, tc, fc + 1, hc, dr, dO, fC, fO, fT, fH)) (ad_S n d (0, ct, th, fo + 1, sg + (if ac_it (fun j => ti_it fD fW (nI j) d 0 0) fM 1024 0 1 = 0 then 1 else 0), sz, hc2, fL, fN, fD, fH2, f, fM, fW)) (o_set g cc) H _ (⟨n + 1, 0, q, _, hrel⟩) hP hD hS ls (lv_sub hl [2, 3, 4, 5, 6] rfl)
        · skip
          exact absurd ((lg_cmp_eq _ _).mpr (congrArg Int32.toInt64 (hval.trans er2.symm))) c3
    · skip
      exact absurd rfl c1
  · skip
    rcases hq with ⟨z, _⟩ | ⟨_, er1, rfl⟩
    · exact absurd (htd.symm.trans z) h17a
    subst er1
    obtain ⟨hP1, hK1, hD1⟩ := hB9
    rw [ht] at hP1
    obtain ⟨hP, hD⟩ := va_join (wr := MW am ym (co, ct, th, fo, sg, sz, hc2, fL, fN, fD, fH2, fV, fM, fW)) (w1 := XOW ax yx qo yo ((cc, tc, fc, hc, dr, dO, fC, fO, fT, fH), (o_set g (-1)))) hP hD [0, 1, 2, 3, 4, 13] [5, 6, 7, 8, 9, 10, 11, 12] rfl rfl (by decide) (by decide) hk1 hFc hP1 hD1
    have hP : va_P (dC, dI) cls2 (LWd ax yx am ym qo yo (cc, tc, fc, hc, dr, dO, fC, fO, fT, fH) (co, ct, th, fo, sg, sz, hc2, fL, fN, fD, fH2, fV, fM, fW) (o_set g (-1))) H1 := hP.sub [8, 9, 10, 11, 12, 0, 1, 2, 3, 4, 5, 6, 7, 13] rfl
    have hD : va_D (fun q => s.heap.size ≤ q) (LWd ax yx am ym qo yo (cc, tc, fc, hc, dr, dO, fC, fO, fT, fH) (co, ct, th, fo, sg, sz, hc2, fL, fN, fD, fH2, fV, fM, fW) (o_set g (-1))) := hD.sub [8, 9, 10, 11, 12, 0, 1, 2, 3, 4, 5, 6, 7, 13] (by decide) rfl
    clear hP1 hK1 hD1 hk1 hz1 ht hPc hDc hKc hFc
    generalize H1 = H at hP hS ⊢
    refine lv_istore (lv' := [(5, .int 0), (4, .int (nI (3 * B))), (0, .ref b), (1, .ref (ax 0)), (2, .ref (am 0)), (3, .ref qo)]) hx hb dL_law_274 hl (by decide) rfl (fun ls hl => ?_)
    refine lv_aload_n hx hb dL_law_276 rfl (lv_at hl 4 rfl) ?_
    have hPc := hP.sub (ws' := MW am ym (co, ct, th, fo, sg, sz, hc2, fL, fN, fD, fH2, fV, fM, fW)) [5, 6, 7, 8, 9, 10, 11, 12] rfl
    have hDc := hD.sub (ws' := MW am ym (co, ct, th, fo, sg, sz, hc2, fL, fN, fD, fH2, fV, fM, fW)) [5, 6, 7, 8, 9, 10, 11, 12] (by decide) rfl
    have hKc := hK.sub (tys' := tysM ym) [4, 5, 6, 7, 8, 9, 10] rfl
    have hFc := va_free (wc := MW am ym (co, ct, th, fo, sg, sz, hc2, fL, fN, fD, fH2, fV, fM, fW)) hD hS hA [5, 6, 7, 8, 9, 10, 11, 12] rfl
    refine va_calli (va_runV (As := []) (rest := []) ⟨hx, hb, hml, hown, hw⟩ (n_step l dC dI am ym H.size co ct th fo sg sz hc2 fL fN fD fH2 fV fM fW n (by omega) h4 d hd h9 (R_rng h11) (R_cl h15) 17 ans hfw) (cwV 0 hw (gw_V wb_343 wb_344 wb_345 wb_2 wb_346) rfl rfl rfl (by decide +kernel) ⟨Nat.le_of_ble_eq_true rfl, Nat.le_of_ble_eq_true rfl⟩) ⟨blind_preM, va_recv hKc hPc (ci := 1) (q0 := 0) rfl rfl, fun U hU hW => ⟨rfl, by rw [hU], by rw [hU]; exact hPc, va_K.moved hW.alike hKc, hDc.weaken (fun _ _ _ _ => trivial)⟩⟩ rfl rfl hl.1 rfl (lv_room (Nat.le_of_ble_eq_true rfl)) dL_law_277 ⟨by show (14 + 2 * B + 0) + 0 ≤ 1046; omega, by show (13169 + 12 * B + 0) + 0 ≤ 21409; omega⟩) hS (fun q _ h => hFc q h) hFc (fun r2 u t H1 locs ht hvm hq2 hB9 hz1 hk1 hS => ?_)
    rcases hq2 with ⟨z, _⟩ | ⟨_, er2, f, rfl⟩
    · exact absurd z h17a
    obtain ⟨hP1, hK1, hD1⟩ := hB9
    rw [ht] at hP1
    obtain ⟨hP, hD⟩ := va_join (wr := XOW ax yx qo yo ((cc, tc, fc, hc, dr, dO, fC, fO, fT, fH), (o_set g (-1)))) (w1 := MW am ym (0, ct, th, fo, sg, sz, hc2, fL, fN, fD, fH2, f, fM, fW)) hP hD [5, 6, 7, 8, 9, 10, 11, 12] [0, 1, 2, 3, 4, 13] rfl rfl (by decide) (by decide) hk1 hFc hP1 hD1
    have hP : va_P (dC, dI) cls2 (LWd ax yx am ym qo yo (cc, tc, fc, hc, dr, dO, fC, fO, fT, fH) (0, ct, th, fo, sg, sz, hc2, fL, fN, fD, fH2, f, fM, fW) (o_set g (-1))) H1 := hP.sub [0, 1, 2, 3, 4, 6, 7, 8, 9, 10, 11, 12, 13, 5] rfl
    have hD : va_D (fun q => s.heap.size ≤ q) (LWd ax yx am ym qo yo (cc, tc, fc, hc, dr, dO, fC, fO, fT, fH) (0, ct, th, fo, sg, sz, hc2, fL, fN, fD, fH2, f, fM, fW) (o_set g (-1))) := hD.sub [0, 1, 2, 3, 4, 6, 7, 8, 9, 10, 11, 12, 13, 5] (by decide) rfl
    clear hP1 hK1 hD1 hk1 hz1 ht hPc hDc hKc hFc
    generalize H1 = H at hP hS ⊢
    refine lv_istore (lv' := [(6, .int r2), (5, .int 0), (4, .int (nI (3 * B))), (0, .ref b), (1, .ref (ax 0)), (2, .ref (am 0)), (3, .ref qo)]) hx hb dL_law_280 hl (by decide) rfl (fun ls hl => ?_)
    refine lv_aload_n hx hb dL_law_282 rfl (lv_at hl 5 rfl) ?_
    have hPc := hP.sub (ws' := MW am ym (0, ct, th, fo, sg, sz, hc2, fL, fN, fD, fH2, f, fM, fW)) [5, 6, 7, 8, 9, 10, 11, 12] rfl
    have hKc := hK.sub (tys' := tysM ym) [4, 5, 6, 7, 8, 9, 10] rfl
    refine vp_callSi (W.runV (As := []) (rest := []) ⟨hx, hb, hml, hown, hw⟩ (n_thrown l dC dI am ym 0 ct th fo sg sz hc2 fL fN fD fH2 f fM fW) (cwV 0 hw (gw_V wb_311 wb_312 wb_313 wb_2 wb_314) rfl rfl rfl (by decide +kernel) ⟨Nat.le_of_ble_eq_true rfl, Nat.le_of_ble_eq_true rfl⟩) ⟨blind_rdM, va_recv hKc hPc (ci := 1) (q0 := 0) rfl rfl, fun U hU hW => ⟨rfl, by rw [hU]; exact hPc, va_K.moved hW.alike hKc⟩⟩ rfl rfl hl.1 rfl (lv_room (Nat.le_of_ble_eq_true rfl)) dL_law_283 ⟨by show (14 + 2 * B + 0) + 0 ≤ 1046; omega, by show (13169 + 12 * B + 0) + 0 ≤ 21409; omega⟩) (fun r3 hr3 => ?_)
    subst hr3
    refine lv_iload hx hb dL_law_286 (lv_at hl 1 rfl) ?_
    refine lv_icmp_eq (tgt := 293) hx hb dL_law_288 (by decide) (fun c1 => ?_) (fun c1 => ?_)
    · skip
      refine lv_iload hx hb dL_law_293 (lv_at hl 1 rfl) ?_
      refine lv_if_ne (tgt := 310) hx hb dL_law_295 (by decide) (fun c2 => ?_) (fun c2 => ?_)
      · skip
        exact absurd rfl c2
      · skip
        refine lv_aload_n hx hb dL_law_298 rfl (lv_at hl 6 rfl) ?_
        refine lv_iconst (v := 0) hx hb dL_law_299 (by decide) ?_
        refine va_lald hx hb hK hP 13 11 rfl rfl in_01 dL_law_300 ?_
        rw [o_get]
        refine lv_iload hx hb dL_law_301 (lv_at hl 0 rfl) ?_
        refine lv_i2l (v := r2.toInt64) hx hb dL_law_303 rfl ?_
        refine W.lcmp hx hb dL_law_304 ?_
        refine lv_if_eq (tgt := 310) hx hb dL_law_305 (by decide) (fun c3 => ?_) (fun c3 => ?_)
        · skip
          refine lv_goto (tgt := 576) hx hb dL_law_310 (by decide) ?_
          refine W.widen (k := 14 + 2 * (B + 1)) (n := 13169 + 12 * (B + 1)) (by omega) (by omega) ?_
          exact back (cc, tc, fc, hc, dr, dO, fC, fO, fT, fH) (0, ct, th, fo, sg, sz, hc2, fL, fN, fD, fH2, f, fM, fW) (o_set g (-1)) H _ (⟨n, d, q, zl, R_up hR⟩) hP hD hS ls (lv_sub hl [2, 3, 4, 5, 6] rfl)
        · skip
          exact absurd ((lg_cmp_eq _ _).mpr (congrArg Int32.toInt64 (er2.symm))) c3
    · skip
      exact absurd rfl c1
set_option maxHeartbeats 1000000 in
set_option maxRecDepth 100000 in
/-- law_op5 -/
theorem law_op5 {p : Program} {l : Launch} {e : Env} {s : State} {m : MethodId} {below : List Frame} {meth : Method} {c : Code} {b L : Nat} {xs : Nat → Int32} (hl9 : l.stackTraces = false) (hL : L ≤ 1536) (C0 : lw_At p s m meth c b L xs) (hT : Th (fun q => s.heap.size ≤ q) s s.heap) {dC : Nat → ClassId} {dI : Nat → Nat → Nat} {ax : Nat → Nat} {yx : Nat → ClassId} {am : Nat → Nat} {ym : Nat → ClassId} {qo : Nat} {yo : ClassId} (hK : va_K (dC, dI) cls2 (tysL yx ym yo) s) {B : Nat} (hB : 3 * B + 3 ≤ L) {u : XS} {mm : MS} {g : Nat → Int64} {H : Heap} {locs : List Loc} (hRel : Rel B u mm) (hP : va_P (dC, dI) cls2 (LWd ax yx am ym qo yo u mm g) H) (hD : va_D (fun q => s.heap.size ≤ q) (LWd ax yx am ym qo yo u mm g)) (hS : va_S (fun q => s.heap.size ≤ q) s.heap H locs) (back : ∀ (u : XS) (mm : MS) (g : Nat → Int64) (H : Heap) (locs : List Loc), Rel (B + 1) u mm → va_P (dC, dI) cls2 (LWd ax yx am ym qo yo u mm g) H → va_D (fun q => s.heap.size ≤ q) (LWd ax yx am ym qo yo u mm g) → va_S (fun q => s.heap.size ≤ q) s.heap H locs → ∀ ls, lv_has ls 7 [(4, .int (nI (3 * B))), (0, .ref b), (1, .ref (ax 0)), (2, .ref (am 0)), (3, .ref qo)] → LWj p l e s m b below meth c H locs (B + 1) 576 ls) : ∀ ls, lv_has ls 7 [(4, .int (nI (3 * B))), (0, .ref b), (1, .ref (ax 0)), (2, .ref (am 0)), (3, .ref qo)] → LWj p l e s m b below meth c H locs B 313 ls := by
  obtain ⟨hx, hb, hr, hml, hown, hts, hX, hbl, hlocks, hgv⟩ := C0
  have hw : ∀ w ∈ WB, w.before #[Value.ref b] s = true := fun w h => hts w (WB_lw w h)
  have hA : ∀ q : Nat, s.heap.size ≤ q → (fun q : Nat => s.heap.size ≤ q) q := fun _ h => h
  have hbA : ¬ (fun q : Nat => s.heap.size ≤ q) b := Nat.not_le.mpr hbl
  obtain ⟨cc, tc, fc, hc, dr, dO, fC, fO, fT, fH⟩ := u
  obtain ⟨co, ct, th, fo, sg, sz, hc2, fL, fN, fD, fH2, fV, fM, fW⟩ := mm
  obtain ⟨n, d, q, zl, hR⟩ := hRel
  obtain ⟨h1, h2, h3, h4, h5, h6, h7, h8, h9, h10, h11, h12, h13, h14, h15, h16, h17⟩ := id hR
  have hd := gs_16 h11
  have hTH : ∀ (H : Heap) (locs : List Loc), va_S (fun q => s.heap.size ≤ q) s.heap H locs → Th (fun q => H.size ≤ q) s H := fun H locs hS => (hT.kept hS.2.1).narrow (fun q h => Nat.le_trans hS.1 h)
  intro ls hl
  have hP : va_P (dC, dI) cls2 (LWd ax yx am ym qo yo (cc, tc, fc, hc, dr, dO, fC, fO, fT, fH) (co, ct, th, fo, sg, sz, hc2, fL, fN, fD, fH2, fV, fM, fW) g) H := hP
  have hD : va_D (fun q => s.heap.size ≤ q) (LWd ax yx am ym qo yo (cc, tc, fc, hc, dr, dO, fC, fO, fT, fH) (co, ct, th, fo, sg, sz, hc2, fL, fN, fD, fH2, fV, fM, fW) g) := hD
  refine lv_aload_n hx hb dL_law_313 rfl (lv_at hl 2 rfl) ?_
  refine lv_aload_n hx hb dL_law_314 rfl (lv_at hl 4 rfl) ?_
  have hPc := hP.sub (ws' := XOW ax yx qo yo ((cc, tc, fc, hc, dr, dO, fC, fO, fT, fH), g)) [0, 1, 2, 3, 4, 13] rfl
  have hDc := hD.sub (ws' := XOW ax yx qo yo ((cc, tc, fc, hc, dr, dO, fC, fO, fT, fH), g)) [0, 1, 2, 3, 4, 13] (by decide) rfl
  have hKc := hK.sub (tys' := tysXO yx yo) [0, 1, 2, 3, 11] rfl
  have hFc := va_free (wc := XOW ax yx qo yo ((cc, tc, fc, hc, dr, dO, fC, fO, fT, fH), g)) hD hS hA [0, 1, 2, 3, 4, 13] rfl
  refine va_calli (vx_runSW (As := [.ref (ax 0), .ref qo]) (rest := []) ⟨hx, hb, hml, hown, hw⟩ (l_along l hl9 dC dI ax yx qo yo H.size cc tc fc hc dr dO fC fO fT fH g n (by omega) h3 q h2 h7) (vx_cwSW 2 hw (gw_S wb_217 wb_218 wb_0 wb_219) rfl rfl rfl (by decide +kernel) ⟨(Nat.le_of_ble_eq_true rfl), (Nat.le_of_ble_eq_true rfl)⟩) ⟨blind_preXO, fun U hU hW => ⟨rfl, by rw [hU], by rw [hU]; exact hPc, va_K.moved hW.alike hKc, hDc.weaken (fun _ _ _ _ => trivial), ThU.at hU hW (hTH H _ hS)⟩⟩ rfl rfl hl.1 rfl (lv_room (Nat.le_of_ble_eq_true rfl)) dL_law_315 ⟨by show (14 + 2 * B) + 0 ≤ 1046; omega, by show (13169 + 12 * B) + 0 ≤ 21409; omega⟩) hS (fun q _ h => hFc q h) hFc (fun r1 u t H1 locs ht hvm hq hB9 hz1 hk1 hS => ?_)
  have hal := along_ok h15 (by omega) h3 h4 h8 h2 h14 q 0 (ms_of fD d) _ (by omega) (VR_0 (fV := fV) h11)
  rw [← h12] at hal
  rcases hal with ⟨hb1, hal⟩ | ⟨hb1, hal⟩
  · skip
    rcases hq with ⟨_, er1, rfl⟩ | ⟨z, _⟩
    rotate_left
    · exact absurd hb1 z
    subst er1
    obtain ⟨hP1, hK1, hD1⟩ := hB9
    rw [ht] at hP1
    obtain ⟨hP, hD⟩ := va_join (wr := MW am ym (co, ct, th, fo, sg, sz, hc2, fL, fN, fD, fH2, fV, fM, fW)) (w1 := XOW ax yx qo yo ((kp_S (cc, tc, fc + 1, 0, dr, dO, fC, fO, fT, fH)), (o_set g cc))) hP hD [0, 1, 2, 3, 4, 13] [5, 6, 7, 8, 9, 10, 11, 12] rfl rfl (by decide) (by decide) hk1 hFc hP1 hD1
    have hP : va_P (dC, dI) cls2 (LWd ax yx am ym qo yo (kp_S (cc, tc, fc + 1, 0, dr, dO, fC, fO, fT, fH)) (co, ct, th, fo, sg, sz, hc2, fL, fN, fD, fH2, fV, fM, fW) (o_set g cc)) H1 := hP.sub [8, 9, 10, 11, 12, 0, 1, 2, 3, 4, 5, 6, 7, 13] rfl
    have hD : va_D (fun q => s.heap.size ≤ q) (LWd ax yx am ym qo yo (kp_S (cc, tc, fc + 1, 0, dr, dO, fC, fO, fT, fH)) (co, ct, th, fo, sg, sz, hc2, fL, fN, fD, fH2, fV, fM, fW) (o_set g cc)) := hD.sub [8, 9, 10, 11, 12, 0, 1, 2, 3, 4, 5, 6, 7, 13] (by decide) rfl
    clear hP1 hK1 hD1 hk1 hz1 ht hPc hDc hKc hFc
    generalize H1 = H at hP hS ⊢
    refine lv_istore (lv' := [(5, .int 0), (4, .int (nI (3 * B))), (0, .ref b), (1, .ref (ax 0)), (2, .ref (am 0)), (3, .ref qo)]) hx hb dL_law_318 hl (by decide) rfl (fun ls hl => ?_)
    refine lv_aload_n hx hb dL_law_320 rfl (lv_at hl 4 rfl) ?_
    have hPc := hP.sub (ws' := MW am ym (co, ct, th, fo, sg, sz, hc2, fL, fN, fD, fH2, fV, fM, fW)) [5, 6, 7, 8, 9, 10, 11, 12] rfl
    have hDc := hD.sub (ws' := MW am ym (co, ct, th, fo, sg, sz, hc2, fL, fN, fD, fH2, fV, fM, fW)) [5, 6, 7, 8, 9, 10, 11, 12] (by decide) rfl
    have hKc := hK.sub (tys' := tysM ym) [4, 5, 6, 7, 8, 9, 10] rfl
    have hFc := va_free (wc := MW am ym (co, ct, th, fo, sg, sz, hc2, fL, fN, fD, fH2, fV, fM, fW)) hD hS hA [5, 6, 7, 8, 9, 10, 11, 12] rfl
    refine va_calli (va_runV (As := []) (rest := []) ⟨hx, hb, hml, hown, hw⟩ (n_along l dC dI am ym H.size co ct th fo sg sz hc2 fL fN fD fH2 fV fM fW n (by omega) h4 d hd h9 (R_rng h11) (R_cl h15) q h8 h2) (cwV 0 hw (gw_V wb_371 wb_372 wb_373 wb_2 wb_374) rfl rfl rfl (by decide +kernel) ⟨Nat.le_of_ble_eq_true rfl, Nat.le_of_ble_eq_true rfl⟩) ⟨blind_preM, va_recv hKc hPc (ci := 1) (q0 := 0) rfl rfl, fun U hU hW => ⟨rfl, by rw [hU], by rw [hU]; exact hPc, va_K.moved hW.alike hKc, hDc.weaken (fun _ _ _ _ => trivial)⟩⟩ rfl rfl hl.1 rfl (lv_room (Nat.le_of_ble_eq_true rfl)) dL_law_321 ⟨by show (14 + 2 * B + 0) + 0 ≤ 1046; omega, by show (13169 + 12 * B + 0) + 0 ≤ 21409; omega⟩) hS (fun q _ h => hFc q h) hFc (fun r2 u t H1 locs ht hvm hq2 hB9 hz1 hk1 hS => ?_)
    rcases hq2 with ⟨_, er2, f, rfl⟩ | ⟨ans, z, _⟩
    rotate_left
    · rw [hal] at z; cases z
    have hct := snd_along (by omega) h3 h2 h17 hb1
    rw [h12] at hct
    have hac := ac_ok h11 hct
    obtain ⟨hval, hrel⟩ := R_add (fc1 := fc + 1) (fo1 := fo + 1) (sg1 := sg + (if ac_it (fun j => ti_it fD fW (nI j) d 0 0) fM 1024 0 1 = 0 then 1 else 0)) hR (by omega) (by rw [h6]) (e1 := (rfl : (0 : Int32) = nI 0)) (e2 := (rfl : (0 : Int32) = nI 0)) (Nat.zero_le _) (by rw [hac, h10]; rfl) (fun fC2 g1 g2 => MI_acc h17 g1 g2 hct)
    obtain ⟨hP1, hK1, hD1⟩ := hB9
    rw [ht] at hP1
    obtain ⟨hP, hD⟩ := va_join (wr := XOW ax yx qo yo ((kp_S (cc, tc, fc + 1, 0, dr, dO, fC, fO, fT, fH)), (o_set g cc))) (w1 := MW am ym (ad_S n d (0, ct, th, fo + 1, sg + (if ac_it (fun j => ti_it fD fW (nI j) d 0 0) fM 1024 0 1 = 0 then 1 else 0), sz, 0, fL, fN, fD, fH2, f, fM, fW))) hP hD [5, 6, 7, 8, 9, 10, 11, 12] [0, 1, 2, 3, 4, 13] rfl rfl (by decide) (by decide) hk1 hFc hP1 hD1
    have hP : va_P (dC, dI) cls2 (LWd ax yx am ym qo yo (kp_S (cc, tc, fc + 1, 0, dr, dO, fC, fO, fT, fH)) (ad_S n d (0, ct, th, fo + 1, sg + (if ac_it (fun j => ti_it fD fW (nI j) d 0 0) fM 1024 0 1 = 0 then 1 else 0), sz, 0, fL, fN, fD, fH2, f, fM, fW)) (o_set g cc)) H1 := hP.sub [0, 1, 2, 3, 4, 6, 7, 8, 9, 10, 11, 12, 13, 5] rfl
    have hD : va_D (fun q => s.heap.size ≤ q) (LWd ax yx am ym qo yo (kp_S (cc, tc, fc + 1, 0, dr, dO, fC, fO, fT, fH)) (ad_S n d (0, ct, th, fo + 1, sg + (if ac_it (fun j => ti_it fD fW (nI j) d 0 0) fM 1024 0 1 = 0 then 1 else 0), sz, 0, fL, fN, fD, fH2, f, fM, fW)) (o_set g cc)) := hD.sub [0, 1, 2, 3, 4, 6, 7, 8, 9, 10, 11, 12, 13, 5] (by decide) rfl
    clear hP1 hK1 hD1 hk1 hz1 ht hPc hDc hKc hFc
    generalize H1 = H at hP hS ⊢
    refine lv_istore (lv' := [(6, .int r2), (5, .int 0), (4, .int (nI (3 * B))), (0, .ref b), (1, .ref (ax 0)), (2, .ref (am 0)), (3, .ref qo)]) hx hb dL_law_324 hl (by decide) rfl (fun ls hl => ?_)
    refine lv_aload_n hx hb dL_law_326 rfl (lv_at hl 5 rfl) ?_
    have hPc := hP.sub (ws' := MW am ym (ad_S n d (0, ct, th, fo + 1, sg + (if ac_it (fun j => ti_it fD fW (nI j) d 0 0) fM 1024 0 1 = 0 then 1 else 0), sz, 0, fL, fN, fD, fH2, f, fM, fW))) [5, 6, 7, 8, 9, 10, 11, 12] rfl
    have hKc := hK.sub (tys' := tysM ym) [4, 5, 6, 7, 8, 9, 10] rfl
    refine vp_callSi (W.runV (As := []) (rest := []) ⟨hx, hb, hml, hown, hw⟩ (n_thrown l dC dI am ym 0 (ct + 1) (th + 1) (fo + 1) (sg + (if ac_it (fun j => ti_it fD fW (nI j) d 0 0) fM 1024 0 1 = 0 then 1 else 0)) 0 0 (ad_it fD n d 0 fL) (upd fN n sz) fD fH2 f fM fW) (cwV 0 hw (gw_V wb_311 wb_312 wb_313 wb_2 wb_314) rfl rfl rfl (by decide +kernel) ⟨Nat.le_of_ble_eq_true rfl, Nat.le_of_ble_eq_true rfl⟩) ⟨blind_rdM, va_recv hKc hPc (ci := 1) (q0 := 0) rfl rfl, fun U hU hW => ⟨rfl, by rw [hU]; exact hPc, va_K.moved hW.alike hKc⟩⟩ rfl rfl hl.1 rfl (lv_room (Nat.le_of_ble_eq_true rfl)) dL_law_327 ⟨by show (14 + 2 * B + 0) + 0 ≤ 1046; omega, by show (13169 + 12 * B + 0) + 0 ≤ 21409; omega⟩) (fun r3 hr3 => ?_)
    subst hr3
    refine lv_iload hx hb dL_law_330 (lv_at hl 1 rfl) ?_
    refine lv_icmp_eq (tgt := 337) hx hb dL_law_332 (by decide) (fun c1 => ?_) (fun c1 => ?_)
    · skip
      refine lv_iload hx hb dL_law_337 (lv_at hl 1 rfl) ?_
      refine lv_if_ne (tgt := 354) hx hb dL_law_339 (by decide) (fun c2 => ?_) (fun c2 => ?_)
      · skip
        exact absurd rfl c2
      · skip
        refine lv_aload_n hx hb dL_law_342 rfl (lv_at hl 6 rfl) ?_
        refine lv_iconst (v := 0) hx hb dL_law_343 (by decide) ?_
        refine va_lald hx hb hK hP 13 11 rfl rfl in_01 dL_law_344 ?_
        rw [o_get]
        refine lv_iload hx hb dL_law_345 (lv_at hl 0 rfl) ?_
        refine lv_i2l (v := r2.toInt64) hx hb dL_law_347 rfl ?_
        refine W.lcmp hx hb dL_law_348 ?_
        refine lv_if_eq (tgt := 354) hx hb dL_law_349 (by decide) (fun c3 => ?_) (fun c3 => ?_)
        · skip
          refine lv_goto (tgt := 576) hx hb dL_law_354 (by decide) ?_
          refine W.widen (k := 14 + 2 * (B + 1)) (n := 13169 + 12 * (B + 1)) (by omega) (by omega) ?_
          exact back (kp_S (cc, tc, fc + 1, 0, dr, dO, fC, fO, fT, fH)) (ad_S n d (0, ct, th, fo + 1, sg + (if ac_it (fun j => ti_it fD fW (nI j) d 0 0) fM 1024 0 1 = 0 then 1 else 0), sz, 0, fL, fN, fD, fH2, f, fM, fW)) (o_set g cc) H _ (⟨n + 1, 0, 0, _, hrel⟩) hP hD hS ls (lv_sub hl [2, 3, 4, 5, 6] rfl)
        · skip
          exact absurd ((lg_cmp_eq _ _).mpr (congrArg Int32.toInt64 (hval.trans er2.symm))) c3
    · skip
      exact absurd rfl c1
  · skip
    rcases hq with ⟨z, _⟩ | ⟨_, er1, rfl⟩
    · exact absurd z hb1
    subst er1
    obtain ⟨hP1, hK1, hD1⟩ := hB9
    rw [ht] at hP1
    obtain ⟨hP, hD⟩ := va_join (wr := MW am ym (co, ct, th, fo, sg, sz, hc2, fL, fN, fD, fH2, fV, fM, fW)) (w1 := XOW ax yx qo yo ((cc, tc, fc, hc, dr, dO, fC, fO, fT, fH), (o_set g (-1 - bh_scan cc fC fT fH q 0 dr)))) hP hD [0, 1, 2, 3, 4, 13] [5, 6, 7, 8, 9, 10, 11, 12] rfl rfl (by decide) (by decide) hk1 hFc hP1 hD1
    have hP : va_P (dC, dI) cls2 (LWd ax yx am ym qo yo (cc, tc, fc, hc, dr, dO, fC, fO, fT, fH) (co, ct, th, fo, sg, sz, hc2, fL, fN, fD, fH2, fV, fM, fW) (o_set g (-1 - bh_scan cc fC fT fH q 0 dr))) H1 := hP.sub [8, 9, 10, 11, 12, 0, 1, 2, 3, 4, 5, 6, 7, 13] rfl
    have hD : va_D (fun q => s.heap.size ≤ q) (LWd ax yx am ym qo yo (cc, tc, fc, hc, dr, dO, fC, fO, fT, fH) (co, ct, th, fo, sg, sz, hc2, fL, fN, fD, fH2, fV, fM, fW) (o_set g (-1 - bh_scan cc fC fT fH q 0 dr))) := hD.sub [8, 9, 10, 11, 12, 0, 1, 2, 3, 4, 5, 6, 7, 13] (by decide) rfl
    clear hP1 hK1 hD1 hk1 hz1 ht hPc hDc hKc hFc
    generalize H1 = H at hP hS ⊢
    refine lv_istore (lv' := [(5, .int 0), (4, .int (nI (3 * B))), (0, .ref b), (1, .ref (ax 0)), (2, .ref (am 0)), (3, .ref qo)]) hx hb dL_law_318 hl (by decide) rfl (fun ls hl => ?_)
    refine lv_aload_n hx hb dL_law_320 rfl (lv_at hl 4 rfl) ?_
    have hPc := hP.sub (ws' := MW am ym (co, ct, th, fo, sg, sz, hc2, fL, fN, fD, fH2, fV, fM, fW)) [5, 6, 7, 8, 9, 10, 11, 12] rfl
    have hDc := hD.sub (ws' := MW am ym (co, ct, th, fo, sg, sz, hc2, fL, fN, fD, fH2, fV, fM, fW)) [5, 6, 7, 8, 9, 10, 11, 12] (by decide) rfl
    have hKc := hK.sub (tys' := tysM ym) [4, 5, 6, 7, 8, 9, 10] rfl
    have hFc := va_free (wc := MW am ym (co, ct, th, fo, sg, sz, hc2, fL, fN, fD, fH2, fV, fM, fW)) hD hS hA [5, 6, 7, 8, 9, 10, 11, 12] rfl
    refine va_calli (va_runV (As := []) (rest := []) ⟨hx, hb, hml, hown, hw⟩ (n_along l dC dI am ym H.size co ct th fo sg sz hc2 fL fN fD fH2 fV fM fW n (by omega) h4 d hd h9 (R_rng h11) (R_cl h15) q h8 h2) (cwV 0 hw (gw_V wb_371 wb_372 wb_373 wb_2 wb_374) rfl rfl rfl (by decide +kernel) ⟨Nat.le_of_ble_eq_true rfl, Nat.le_of_ble_eq_true rfl⟩) ⟨blind_preM, va_recv hKc hPc (ci := 1) (q0 := 0) rfl rfl, fun U hU hW => ⟨rfl, by rw [hU], by rw [hU]; exact hPc, va_K.moved hW.alike hKc, hDc.weaken (fun _ _ _ _ => trivial)⟩⟩ rfl rfl hl.1 rfl (lv_room (Nat.le_of_ble_eq_true rfl)) dL_law_321 ⟨by show (14 + 2 * B + 0) + 0 ≤ 1046; omega, by show (13169 + 12 * B + 0) + 0 ≤ 21409; omega⟩) hS (fun q _ h => hFc q h) hFc (fun r2 u t H1 locs ht hvm hq2 hB9 hz1 hk1 hS => ?_)
    rcases hq2 with ⟨z, _⟩ | ⟨ans, z, er2, f, rfl⟩
    · rw [hal] at z; cases z
    rw [hal] at z
    have hval := Option.some.inj z
    obtain ⟨hP1, hK1, hD1⟩ := hB9
    rw [ht] at hP1
    obtain ⟨hP, hD⟩ := va_join (wr := XOW ax yx qo yo ((cc, tc, fc, hc, dr, dO, fC, fO, fT, fH), (o_set g (-1 - bh_scan cc fC fT fH q 0 dr)))) (w1 := MW am ym (0, ct, th, fo, sg, sz, hc2, fL, fN, fD, fH2, f, fM, fW)) hP hD [5, 6, 7, 8, 9, 10, 11, 12] [0, 1, 2, 3, 4, 13] rfl rfl (by decide) (by decide) hk1 hFc hP1 hD1
    have hP : va_P (dC, dI) cls2 (LWd ax yx am ym qo yo (cc, tc, fc, hc, dr, dO, fC, fO, fT, fH) (0, ct, th, fo, sg, sz, hc2, fL, fN, fD, fH2, f, fM, fW) (o_set g (-1 - bh_scan cc fC fT fH q 0 dr))) H1 := hP.sub [0, 1, 2, 3, 4, 6, 7, 8, 9, 10, 11, 12, 13, 5] rfl
    have hD : va_D (fun q => s.heap.size ≤ q) (LWd ax yx am ym qo yo (cc, tc, fc, hc, dr, dO, fC, fO, fT, fH) (0, ct, th, fo, sg, sz, hc2, fL, fN, fD, fH2, f, fM, fW) (o_set g (-1 - bh_scan cc fC fT fH q 0 dr))) := hD.sub [0, 1, 2, 3, 4, 6, 7, 8, 9, 10, 11, 12, 13, 5] (by decide) rfl
    clear hP1 hK1 hD1 hk1 hz1 ht hPc hDc hKc hFc
    generalize H1 = H at hP hS ⊢
    refine lv_istore (lv' := [(6, .int r2), (5, .int 0), (4, .int (nI (3 * B))), (0, .ref b), (1, .ref (ax 0)), (2, .ref (am 0)), (3, .ref qo)]) hx hb dL_law_324 hl (by decide) rfl (fun ls hl => ?_)
    refine lv_aload_n hx hb dL_law_326 rfl (lv_at hl 5 rfl) ?_
    have hPc := hP.sub (ws' := MW am ym (0, ct, th, fo, sg, sz, hc2, fL, fN, fD, fH2, f, fM, fW)) [5, 6, 7, 8, 9, 10, 11, 12] rfl
    have hKc := hK.sub (tys' := tysM ym) [4, 5, 6, 7, 8, 9, 10] rfl
    refine vp_callSi (W.runV (As := []) (rest := []) ⟨hx, hb, hml, hown, hw⟩ (n_thrown l dC dI am ym 0 ct th fo sg sz hc2 fL fN fD fH2 f fM fW) (cwV 0 hw (gw_V wb_311 wb_312 wb_313 wb_2 wb_314) rfl rfl rfl (by decide +kernel) ⟨Nat.le_of_ble_eq_true rfl, Nat.le_of_ble_eq_true rfl⟩) ⟨blind_rdM, va_recv hKc hPc (ci := 1) (q0 := 0) rfl rfl, fun U hU hW => ⟨rfl, by rw [hU]; exact hPc, va_K.moved hW.alike hKc⟩⟩ rfl rfl hl.1 rfl (lv_room (Nat.le_of_ble_eq_true rfl)) dL_law_327 ⟨by show (14 + 2 * B + 0) + 0 ≤ 1046; omega, by show (13169 + 12 * B + 0) + 0 ≤ 21409; omega⟩) (fun r3 hr3 => ?_)
    subst hr3
    refine lv_iload hx hb dL_law_330 (lv_at hl 1 rfl) ?_
    refine lv_icmp_eq (tgt := 337) hx hb dL_law_332 (by decide) (fun c1 => ?_) (fun c1 => ?_)
    · skip
      refine lv_iload hx hb dL_law_337 (lv_at hl 1 rfl) ?_
      refine lv_if_ne (tgt := 354) hx hb dL_law_339 (by decide) (fun c2 => ?_) (fun c2 => ?_)
      · skip
        exact absurd rfl c2
      · skip
        refine lv_aload_n hx hb dL_law_342 rfl (lv_at hl 6 rfl) ?_
        refine lv_iconst (v := 0) hx hb dL_law_343 (by decide) ?_
        refine va_lald hx hb hK hP 13 11 rfl rfl in_01 dL_law_344 ?_
        rw [o_get]
        refine lv_iload hx hb dL_law_345 (lv_at hl 0 rfl) ?_
        refine lv_i2l (v := r2.toInt64) hx hb dL_law_347 rfl ?_
        refine W.lcmp hx hb dL_law_348 ?_
        refine lv_if_eq (tgt := 354) hx hb dL_law_349 (by decide) (fun c3 => ?_) (fun c3 => ?_)
        · skip
          refine lv_goto (tgt := 576) hx hb dL_law_354 (by decide) ?_
          refine W.widen (k := 14 + 2 * (B + 1)) (n := 13169 + 12 * (B + 1)) (by omega) (by omega) ?_
          exact back (cc, tc, fc, hc, dr, dO, fC, fO, fT, fH) (0, ct, th, fo, sg, sz, hc2, fL, fN, fD, fH2, f, fM, fW) (o_set g (-1 - bh_scan cc fC fT fH q 0 dr)) H _ (⟨n, d, q, zl, R_up hR⟩) hP hD hS ls (lv_sub hl [2, 3, 4, 5, 6] rfl)
        · skip
          exact absurd ((lg_cmp_eq _ _).mpr (congrArg Int32.toInt64 (hval.trans er2.symm))) c3
    · skip
      exact absurd rfl c1
set_option maxHeartbeats 1000000 in
set_option maxRecDepth 100000 in
/-- law_op2 -/
theorem law_op2 {p : Program} {l : Launch} {e : Env} {s : State} {m : MethodId} {below : List Frame} {meth : Method} {c : Code} {b L : Nat} {xs : Nat → Int32} (hl9 : l.stackTraces = false) (hL : L ≤ 1536) (C0 : lw_At p s m meth c b L xs) (hT : Th (fun q => s.heap.size ≤ q) s s.heap) {dC : Nat → ClassId} {dI : Nat → Nat → Nat} {ax : Nat → Nat} {yx : Nat → ClassId} {am : Nat → Nat} {ym : Nat → ClassId} {qo : Nat} {yo : ClassId} (hK : va_K (dC, dI) cls2 (tysL yx ym yo) s) {B : Nat} (hB : 3 * B + 3 ≤ L) {u : XS} {mm : MS} {g : Nat → Int64} {H : Heap} {locs : List Loc} (hRel : Rel B u mm) (hP : va_P (dC, dI) cls2 (LWd ax yx am ym qo yo u mm g) H) (hD : va_D (fun q => s.heap.size ≤ q) (LWd ax yx am ym qo yo u mm g)) (hS : va_S (fun q => s.heap.size ≤ q) s.heap H locs) (back : ∀ (u : XS) (mm : MS) (g : Nat → Int64) (H : Heap) (locs : List Loc), Rel (B + 1) u mm → va_P (dC, dI) cls2 (LWd ax yx am ym qo yo u mm g) H → va_D (fun q => s.heap.size ≤ q) (LWd ax yx am ym qo yo u mm g) → va_S (fun q => s.heap.size ≤ q) s.heap H locs → ∀ ls, lv_has ls 7 [(4, .int (nI (3 * B))), (0, .ref b), (1, .ref (ax 0)), (2, .ref (am 0)), (3, .ref qo)] → LWj p l e s m b below meth c H locs (B + 1) 576 ls) : ∀ ls, lv_has ls 7 [(4, .int (nI (3 * B))), (0, .ref b), (1, .ref (ax 0)), (2, .ref (am 0)), (3, .ref qo)] → LWj p l e s m b below meth c H locs B 212 ls := by
  obtain ⟨hx, hb, hr, hml, hown, hts, hX, hbl, hlocks, hgv⟩ := C0
  have hw : ∀ w ∈ WB, w.before #[Value.ref b] s = true := fun w h => hts w (WB_lw w h)
  have hA : ∀ q : Nat, s.heap.size ≤ q → (fun q : Nat => s.heap.size ≤ q) q := fun _ h => h
  have hbA : ¬ (fun q : Nat => s.heap.size ≤ q) b := Nat.not_le.mpr hbl
  obtain ⟨cc, tc, fc, hc, dr, dO, fC, fO, fT, fH⟩ := u
  obtain ⟨co, ct, th, fo, sg, sz, hc2, fL, fN, fD, fH2, fV, fM, fW⟩ := mm
  obtain ⟨n, d, q, zl, hR⟩ := hRel
  obtain ⟨h1, h2, h3, h4, h5, h6, h7, h8, h9, h10, h11, h12, h13, h14, h15, h16, h17⟩ := id hR
  have hd := gs_16 h11
  have hTH : ∀ (H : Heap) (locs : List Loc), va_S (fun q => s.heap.size ≤ q) s.heap H locs → Th (fun q => H.size ≤ q) s H := fun H locs hS => (hT.kept hS.2.1).narrow (fun q h => Nat.le_trans hS.1 h)
  intro ls hl
  have hP : va_P (dC, dI) cls2 (LWd ax yx am ym qo yo (cc, tc, fc, hc, dr, dO, fC, fO, fT, fH) (co, ct, th, fo, sg, sz, hc2, fL, fN, fD, fH2, fV, fM, fW) g) H := hP
  have hD : va_D (fun q => s.heap.size ≤ q) (LWd ax yx am ym qo yo (cc, tc, fc, hc, dr, dO, fC, fO, fT, fH) (co, ct, th, fo, sg, sz, hc2, fL, fN, fD, fH2, fV, fM, fW) g) := hD
  refine lv_aload_n hx hb dL_law_212 rfl (lv_at hl 2 rfl) ?_
  have hPc := hP.sub (ws' := XW ax yx (cc, tc, fc, hc, dr, dO, fC, fO, fT, fH)) [0, 1, 2, 3, 4] rfl
  have hDc := hD.sub (ws' := XW ax yx (cc, tc, fc, hc, dr, dO, fC, fO, fT, fH)) [0, 1, 2, 3, 4] (by decide) rfl
  have hKc := hK.sub (tys' := tysX yx) [0, 1, 2, 3] rfl
  have hFc := va_free (wc := XW ax yx (cc, tc, fc, hc, dr, dO, fC, fO, fT, fH)) hD hS hA [0, 1, 2, 3, 4] rfl
  refine va_calli (va_runV (As := []) (rest := []) ⟨hx, hb, hml, hown, hw⟩ (m_clear l dC dI ax yx H.size cc tc fc hc dr dO fC fO fT fH) (cwV 0 hw (gw_V wb_51 wb_52 wb_53 wb_1 wb_54) rfl rfl rfl (by decide +kernel) ⟨Nat.le_of_ble_eq_true rfl, Nat.le_of_ble_eq_true rfl⟩) ⟨blind_preX, va_recv hKc hPc (ci := 0) (q0 := 0) rfl rfl, fun U hU hW => ⟨rfl, by rw [hU], by rw [hU]; exact hPc, va_K.moved hW.alike hKc, hDc.weaken (fun _ _ _ _ => trivial)⟩⟩ rfl rfl hl.1 rfl (lv_room (Nat.le_of_ble_eq_true rfl)) dL_law_213 ⟨by show (14 + 2 * B) + 0 ≤ 1046; omega, by show (13169 + 12 * B) + 0 ≤ 21409; omega⟩) hS (fun q _ h => hFc q h) hFc (fun r1 u t H1 locs ht hvm hq hB9 hz1 hk1 hS => ?_)
  obtain ⟨er1, rfl⟩ := hq
  obtain ⟨hP1, hK1, hD1⟩ := hB9
  rw [ht] at hP1
  obtain ⟨hP, hD⟩ := va_join (wr := MW am ym (co, ct, th, fo, sg, sz, hc2, fL, fN, fD, fH2, fV, fM, fW) ++ [(qo, .inl (yo, 1, .inr (.inl g)))]) (w1 := XW ax yx (cc, tc, fc, 0, 0, 0, fC, fO, fT, fH)) hP hD [0, 1, 2, 3, 4] [5, 6, 7, 8, 9, 10, 11, 12, 13] rfl rfl (by decide) (by decide) hk1 hFc hP1 hD1
  have hP : va_P (dC, dI) cls2 (LWd ax yx am ym qo yo (cc, tc, fc, 0, 0, 0, fC, fO, fT, fH) (co, ct, th, fo, sg, sz, hc2, fL, fN, fD, fH2, fV, fM, fW) g) H1 := hP.sub [9, 10, 11, 12, 13, 0, 1, 2, 3, 4, 5, 6, 7, 8] rfl
  have hD : va_D (fun q => s.heap.size ≤ q) (LWd ax yx am ym qo yo (cc, tc, fc, 0, 0, 0, fC, fO, fT, fH) (co, ct, th, fo, sg, sz, hc2, fL, fN, fD, fH2, fV, fM, fW) g) := hD.sub [9, 10, 11, 12, 13, 0, 1, 2, 3, 4, 5, 6, 7, 8] (by decide) rfl
  clear hP1 hK1 hD1 hk1 hz1 ht hPc hDc hKc hFc
  generalize H1 = H at hP hS ⊢
  refine lv_aload_n hx hb dL_law_216 rfl (lv_at hl 3 rfl) ?_
  have hPc := hP.sub (ws' := MW am ym (co, ct, th, fo, sg, sz, hc2, fL, fN, fD, fH2, fV, fM, fW)) [5, 6, 7, 8, 9, 10, 11, 12] rfl
  have hDc := hD.sub (ws' := MW am ym (co, ct, th, fo, sg, sz, hc2, fL, fN, fD, fH2, fV, fM, fW)) [5, 6, 7, 8, 9, 10, 11, 12] (by decide) rfl
  have hKc := hK.sub (tys' := tysM ym) [4, 5, 6, 7, 8, 9, 10] rfl
  have hFc := va_free (wc := MW am ym (co, ct, th, fo, sg, sz, hc2, fL, fN, fD, fH2, fV, fM, fW)) hD hS hA [5, 6, 7, 8, 9, 10, 11, 12] rfl
  refine va_calli (va_runV (As := []) (rest := [.int r1]) ⟨hx, hb, hml, hown, hw⟩ (n_clear l dC dI am ym H.size co ct th fo sg sz hc2 fL fN fD fH2 fV fM fW) (cwV 0 hw (gw_V wb_323 wb_324 wb_325 wb_2 wb_326) rfl rfl rfl (by decide +kernel) ⟨Nat.le_of_ble_eq_true rfl, Nat.le_of_ble_eq_true rfl⟩) ⟨blind_preM, va_recv hKc hPc (ci := 1) (q0 := 0) rfl rfl, fun U hU hW => ⟨rfl, by rw [hU], by rw [hU]; exact hPc, va_K.moved hW.alike hKc, hDc.weaken (fun _ _ _ _ => trivial)⟩⟩ rfl rfl hl.1 rfl (lv_room (Nat.le_of_ble_eq_true rfl)) dL_law_217 ⟨by show (14 + 2 * B) + 0 ≤ 1046; omega, by show (13169 + 12 * B) + 0 ≤ 21409; omega⟩) hS (fun q _ h => hFc q h) hFc (fun r2 u t H1 locs ht hvm hq2 hB9 hz1 hk1 hS => ?_)
  obtain ⟨er2, rfl⟩ := hq2
  obtain ⟨hval, hrel⟩ := R_clear hR
  obtain ⟨hP1, hK1, hD1⟩ := hB9
  rw [ht] at hP1
  obtain ⟨hP, hD⟩ := va_join (wr := XOW ax yx qo yo ((cc, tc, fc, 0, 0, 0, fC, fO, fT, fH), g)) (w1 := MW am ym (0, ct, th, fo, sg, 0, 0, fL, fN, fD, fH2, fV, fM, fW)) hP hD [5, 6, 7, 8, 9, 10, 11, 12] [0, 1, 2, 3, 4, 13] rfl rfl (by decide) (by decide) hk1 hFc hP1 hD1
  have hP : va_P (dC, dI) cls2 (LWd ax yx am ym qo yo (cc, tc, fc, 0, 0, 0, fC, fO, fT, fH) (0, ct, th, fo, sg, 0, 0, fL, fN, fD, fH2, fV, fM, fW) g) H1 := hP.sub [0, 1, 2, 3, 4, 6, 7, 8, 9, 10, 11, 12, 13, 5] rfl
  have hD : va_D (fun q => s.heap.size ≤ q) (LWd ax yx am ym qo yo (cc, tc, fc, 0, 0, 0, fC, fO, fT, fH) (0, ct, th, fo, sg, 0, 0, fL, fN, fD, fH2, fV, fM, fW) g) := hD.sub [0, 1, 2, 3, 4, 6, 7, 8, 9, 10, 11, 12, 13, 5] (by decide) rfl
  clear hP1 hK1 hD1 hk1 hz1 ht hPc hDc hKc hFc
  generalize H1 = H at hP hS ⊢
  refine lv_icmp_eq (tgt := 576) hx hb dL_law_220 (by decide) (fun c1 => ?_) (fun c1 => ?_)
  · skip
    refine W.widen (k := 14 + 2 * (B + 1)) (n := 13169 + 12 * (B + 1)) (by omega) (by omega) ?_
    exact back (cc, tc, fc, 0, 0, 0, fC, fO, fT, fH) (0, ct, th, fo, sg, 0, 0, fL, fN, fD, fH2, fV, fM, fW) g H _ (⟨n, 0, 0, zl, hrel⟩) hP hD hS ls (lv_sub hl [0, 1, 2, 3, 4] rfl)
  · skip
    exact absurd (er1.trans (hval.trans er2.symm)) c1
set_option maxHeartbeats 1000000 in
set_option maxRecDepth 100000 in
/-- law_op8 -/
theorem law_op8 {p : Program} {l : Launch} {e : Env} {s : State} {m : MethodId} {below : List Frame} {meth : Method} {c : Code} {b L : Nat} {xs : Nat → Int32} (hl9 : l.stackTraces = false) (hL : L ≤ 1536) (C0 : lw_At p s m meth c b L xs) (hT : Th (fun q => s.heap.size ≤ q) s s.heap) {dC : Nat → ClassId} {dI : Nat → Nat → Nat} {ax : Nat → Nat} {yx : Nat → ClassId} {am : Nat → Nat} {ym : Nat → ClassId} {qo : Nat} {yo : ClassId} (hK : va_K (dC, dI) cls2 (tysL yx ym yo) s) {B : Nat} (hB : 3 * B + 3 ≤ L) {u : XS} {mm : MS} {g : Nat → Int64} {H : Heap} {locs : List Loc} (hRel : Rel B u mm) (hP : va_P (dC, dI) cls2 (LWd ax yx am ym qo yo u mm g) H) (hD : va_D (fun q => s.heap.size ≤ q) (LWd ax yx am ym qo yo u mm g)) (hS : va_S (fun q => s.heap.size ≤ q) s.heap H locs) (back : ∀ (u : XS) (mm : MS) (g : Nat → Int64) (H : Heap) (locs : List Loc), Rel (B + 1) u mm → va_P (dC, dI) cls2 (LWd ax yx am ym qo yo u mm g) H → va_D (fun q => s.heap.size ≤ q) (LWd ax yx am ym qo yo u mm g) → va_S (fun q => s.heap.size ≤ q) s.heap H locs → ∀ ls, lv_has ls 7 [(4, .int (nI (3 * B))), (0, .ref b), (1, .ref (ax 0)), (2, .ref (am 0)), (3, .ref qo)] → LWj p l e s m b below meth c H locs (B + 1) 576 ls) : ∀ ls, lv_has ls 7 [(4, .int (nI (3 * B))), (0, .ref b), (1, .ref (ax 0)), (2, .ref (am 0)), (3, .ref qo)] → LWj p l e s m b below meth c H locs B 481 ls := by
  obtain ⟨hx, hb, hr, hml, hown, hts, hX, hbl, hlocks, hgv⟩ := C0
  have hw : ∀ w ∈ WB, w.before #[Value.ref b] s = true := fun w h => hts w (WB_lw w h)
  have hA : ∀ q : Nat, s.heap.size ≤ q → (fun q : Nat => s.heap.size ≤ q) q := fun _ h => h
  have hbA : ¬ (fun q : Nat => s.heap.size ≤ q) b := Nat.not_le.mpr hbl
  obtain ⟨cc, tc, fc, hc, dr, dO, fC, fO, fT, fH⟩ := u
  obtain ⟨co, ct, th, fo, sg, sz, hc2, fL, fN, fD, fH2, fV, fM, fW⟩ := mm
  obtain ⟨n, d, q, zl, hR⟩ := hRel
  obtain ⟨h1, h2, h3, h4, h5, h6, h7, h8, h9, h10, h11, h12, h13, h14, h15, h16, h17⟩ := id hR
  have hd := gs_16 h11
  have hTH : ∀ (H : Heap) (locs : List Loc), va_S (fun q => s.heap.size ≤ q) s.heap H locs → Th (fun q => H.size ≤ q) s H := fun H locs hS => (hT.kept hS.2.1).narrow (fun q h => Nat.le_trans hS.1 h)
  intro ls hl
  have hP : va_P (dC, dI) cls2 (LWd ax yx am ym qo yo (cc, tc, fc, hc, dr, dO, fC, fO, fT, fH) (co, ct, th, fo, sg, sz, hc2, fL, fN, fD, fH2, fV, fM, fW) g) H := hP
  have hD : va_D (fun q => s.heap.size ≤ q) (LWd ax yx am ym qo yo (cc, tc, fc, hc, dr, dO, fC, fO, fT, fH) (co, ct, th, fo, sg, sz, hc2, fL, fN, fD, fH2, fV, fM, fW) g) := hD
  refine lv_aload_n hx hb dL_law_481 rfl (lv_at hl 2 rfl) ?_
  have hfol : ∃ ans : Int32, fw_it fL fN n 17 (so_it fD d 0 (zv_it 17 0 fV)) 0 = some ans ∧ td_val (tl_rounds fC fT n 17 dr) dr = ans ∧ (ans = 17 → tl_rounds fC fT n 17 dr = none) := by
    rcases follow_ok (fC := fC) (fT := fT) fV h15 h11 with ⟨hnone, htd, hfw⟩ | ⟨t9, ht9, htd, hfw⟩
    · exact ⟨17, hfw, by rw [h12]; exact htd, fun _ => by rw [h12]; exact hnone⟩
    · exact ⟨nI t9, hfw, by rw [h12]; exact htd, fun h => absurd ((nI_eq (a := t9) (b := 17) (by omega) (by decide)).mp h) (by omega)⟩
  obtain ⟨ans, hfw, htd, hnone⟩ := hfol
  have hPc := hP.sub (ws' := XW ax yx (cc, tc, fc, hc, dr, dO, fC, fO, fT, fH)) [0, 1, 2, 3, 4] rfl
  have hKc := hK.sub (tys' := tysX yx) [0, 1, 2, 3] rfl
  refine vp_callSi (W.runV (As := []) (rest := []) ⟨hx, hb, hml, hown, hw⟩ (m_told l dC dI ax yx cc tc fc hc dr dO fC fO fT fH n (by omega) h3) (cwV 0 hw (gw_V wb_68 wb_69 wb_70 wb_1 wb_71) rfl rfl rfl (by decide +kernel) ⟨Nat.le_of_ble_eq_true rfl, Nat.le_of_ble_eq_true rfl⟩) ⟨blind_rdX, va_recv hKc hPc (ci := 0) (q0 := 0) rfl rfl, fun U hU hW => ⟨rfl, by rw [hU]; exact hPc, va_K.moved hW.alike hKc⟩⟩ rfl rfl hl.1 rfl (lv_room (Nat.le_of_ble_eq_true rfl)) dL_law_482 ⟨by show (14 + 2 * B) + 0 ≤ 1046; omega, by show (13169 + 12 * B) + 0 ≤ 21409; omega⟩) (fun r1 er1 => ?_)
  refine lv_aload_n hx hb dL_law_485 rfl (lv_at hl 3 rfl) ?_
  have hPc := hP.sub (ws' := MW am ym (co, ct, th, fo, sg, sz, hc2, fL, fN, fD, fH2, fV, fM, fW)) [5, 6, 7, 8, 9, 10, 11, 12] rfl
  have hDc := hD.sub (ws' := MW am ym (co, ct, th, fo, sg, sz, hc2, fL, fN, fD, fH2, fV, fM, fW)) [5, 6, 7, 8, 9, 10, 11, 12] (by decide) rfl
  have hKc := hK.sub (tys' := tysM ym) [4, 5, 6, 7, 8, 9, 10] rfl
  have hFc := va_free (wc := MW am ym (co, ct, th, fo, sg, sz, hc2, fL, fN, fD, fH2, fV, fM, fW)) hD hS hA [5, 6, 7, 8, 9, 10, 11, 12] rfl
  refine va_calli (va_runV (As := []) (rest := [.int r1]) ⟨hx, hb, hml, hown, hw⟩ (n_told l dC dI am ym H.size co ct th fo sg sz hc2 fL fN fD fH2 fV fM fW n (by omega) h4 d hd h9 (R_rng h11) (R_cl h15) 17 ans hfw) (cwV 0 hw (gw_V wb_387 wb_388 wb_389 wb_2 wb_390) rfl rfl rfl (by decide +kernel) ⟨Nat.le_of_ble_eq_true rfl, Nat.le_of_ble_eq_true rfl⟩) ⟨blind_preM, va_recv hKc hPc (ci := 1) (q0 := 0) rfl rfl, fun U hU hW => ⟨rfl, by rw [hU], by rw [hU]; exact hPc, va_K.moved hW.alike hKc, hDc.weaken (fun _ _ _ _ => trivial)⟩⟩ rfl rfl hl.1 rfl (lv_room (Nat.le_of_ble_eq_true rfl)) dL_law_486 ⟨by show (14 + 2 * B) + 0 ≤ 1046; omega, by show (13169 + 12 * B) + 0 ≤ 21409; omega⟩) hS (fun q _ h => hFc q h) hFc (fun r2 u t H1 locs ht hvm hq2 hB9 hz1 hk1 hS => ?_)
  obtain ⟨er2, f, rfl⟩ := hq2
  obtain ⟨hP1, hK1, hD1⟩ := hB9
  rw [ht] at hP1
  obtain ⟨hP, hD⟩ := va_join (wr := XOW ax yx qo yo ((cc, tc, fc, hc, dr, dO, fC, fO, fT, fH), g)) (w1 := MW am ym (0, ct, th, fo, sg, sz, hc2, fL, fN, fD, fH2, f, fM, fW)) hP hD [5, 6, 7, 8, 9, 10, 11, 12] [0, 1, 2, 3, 4, 13] rfl rfl (by decide) (by decide) hk1 hFc hP1 hD1
  have hP : va_P (dC, dI) cls2 (LWd ax yx am ym qo yo (cc, tc, fc, hc, dr, dO, fC, fO, fT, fH) (0, ct, th, fo, sg, sz, hc2, fL, fN, fD, fH2, f, fM, fW) g) H1 := hP.sub [0, 1, 2, 3, 4, 6, 7, 8, 9, 10, 11, 12, 13, 5] rfl
  have hD : va_D (fun q => s.heap.size ≤ q) (LWd ax yx am ym qo yo (cc, tc, fc, hc, dr, dO, fC, fO, fT, fH) (0, ct, th, fo, sg, sz, hc2, fL, fN, fD, fH2, f, fM, fW) g) := hD.sub [0, 1, 2, 3, 4, 6, 7, 8, 9, 10, 11, 12, 13, 5] (by decide) rfl
  clear hP1 hK1 hD1 hk1 hz1 ht hPc hDc hKc hFc
  generalize H1 = H at hP hS ⊢
  refine lv_icmp_eq (tgt := 576) hx hb dL_law_489 (by decide) (fun c1 => ?_) (fun c1 => ?_)
  · skip
    refine W.widen (k := 14 + 2 * (B + 1)) (n := 13169 + 12 * (B + 1)) (by omega) (by omega) ?_
    exact back (cc, tc, fc, hc, dr, dO, fC, fO, fT, fH) (0, ct, th, fo, sg, sz, hc2, fL, fN, fD, fH2, f, fM, fW) g H _ (⟨n, d, q, zl, R_up hR⟩) hP hD hS ls (lv_sub hl [0, 1, 2, 3, 4] rfl)
  · skip
    exact absurd (er1.trans (htd.trans er2.symm)) c1
set_option maxHeartbeats 1000000 in
set_option maxRecDepth 100000 in
/-- law_op9 -/
theorem law_op9 {p : Program} {l : Launch} {e : Env} {s : State} {m : MethodId} {below : List Frame} {meth : Method} {c : Code} {b L : Nat} {xs : Nat → Int32} (hl9 : l.stackTraces = false) (hL : L ≤ 1536) (C0 : lw_At p s m meth c b L xs) (hT : Th (fun q => s.heap.size ≤ q) s s.heap) {dC : Nat → ClassId} {dI : Nat → Nat → Nat} {ax : Nat → Nat} {yx : Nat → ClassId} {am : Nat → Nat} {ym : Nat → ClassId} {qo : Nat} {yo : ClassId} (hK : va_K (dC, dI) cls2 (tysL yx ym yo) s) {B : Nat} (hB : 3 * B + 3 ≤ L) {u : XS} {mm : MS} {g : Nat → Int64} {H : Heap} {locs : List Loc} (hRel : Rel B u mm) (hP : va_P (dC, dI) cls2 (LWd ax yx am ym qo yo u mm g) H) (hD : va_D (fun q => s.heap.size ≤ q) (LWd ax yx am ym qo yo u mm g)) (hS : va_S (fun q => s.heap.size ≤ q) s.heap H locs) (back : ∀ (u : XS) (mm : MS) (g : Nat → Int64) (H : Heap) (locs : List Loc), Rel (B + 1) u mm → va_P (dC, dI) cls2 (LWd ax yx am ym qo yo u mm g) H → va_D (fun q => s.heap.size ≤ q) (LWd ax yx am ym qo yo u mm g) → va_S (fun q => s.heap.size ≤ q) s.heap H locs → ∀ ls, lv_has ls 7 [(4, .int (nI (3 * B))), (0, .ref b), (1, .ref (ax 0)), (2, .ref (am 0)), (3, .ref qo)] → LWj p l e s m b below meth c H locs (B + 1) 576 ls) : ∀ ls, lv_has ls 7 [(4, .int (nI (3 * B))), (0, .ref b), (1, .ref (ax 0)), (2, .ref (am 0)), (3, .ref qo)] → LWj p l e s m b below meth c H locs B 494 ls := by
  obtain ⟨hx, hb, hr, hml, hown, hts, hX, hbl, hlocks, hgv⟩ := C0
  have hw : ∀ w ∈ WB, w.before #[Value.ref b] s = true := fun w h => hts w (WB_lw w h)
  have hA : ∀ q : Nat, s.heap.size ≤ q → (fun q : Nat => s.heap.size ≤ q) q := fun _ h => h
  have hbA : ¬ (fun q : Nat => s.heap.size ≤ q) b := Nat.not_le.mpr hbl
  obtain ⟨cc, tc, fc, hc, dr, dO, fC, fO, fT, fH⟩ := u
  obtain ⟨co, ct, th, fo, sg, sz, hc2, fL, fN, fD, fH2, fV, fM, fW⟩ := mm
  obtain ⟨n, d, q, zl, hR⟩ := hRel
  obtain ⟨h1, h2, h3, h4, h5, h6, h7, h8, h9, h10, h11, h12, h13, h14, h15, h16, h17⟩ := id hR
  have hd := gs_16 h11
  have hTH : ∀ (H : Heap) (locs : List Loc), va_S (fun q => s.heap.size ≤ q) s.heap H locs → Th (fun q => H.size ≤ q) s H := fun H locs hS => (hT.kept hS.2.1).narrow (fun q h => Nat.le_trans hS.1 h)
  intro ls hl
  have hP : va_P (dC, dI) cls2 (LWd ax yx am ym qo yo (cc, tc, fc, hc, dr, dO, fC, fO, fT, fH) (co, ct, th, fo, sg, sz, hc2, fL, fN, fD, fH2, fV, fM, fW) g) H := hP
  have hD : va_D (fun q => s.heap.size ≤ q) (LWd ax yx am ym qo yo (cc, tc, fc, hc, dr, dO, fC, fO, fT, fH) (co, ct, th, fo, sg, sz, hc2, fL, fN, fD, fH2, fV, fM, fW) g) := hD
  refine lv_aload_n hx hb dL_law_494 rfl (lv_at hl 2 rfl) ?_
  have hPc := hP.sub (ws' := XW ax yx (cc, tc, fc, hc, dr, dO, fC, fO, fT, fH)) [0, 1, 2, 3, 4] rfl
  have hKc := hK.sub (tys' := tysX yx) [0, 1, 2, 3] rfl
  refine vp_callSi (W.runV (As := []) (rest := []) ⟨hx, hb, hml, hown, hw⟩ (m_isOver l dC dI ax yx cc tc fc hc dr dO fC fO fT fH n (by omega) h3) (cwV 0 hw (gw_V wb_81 wb_82 wb_83 wb_1 wb_84) rfl rfl rfl (by decide +kernel) ⟨Nat.le_of_ble_eq_true rfl, Nat.le_of_ble_eq_true rfl⟩) ⟨blind_rdX, va_recv hKc hPc (ci := 0) (q0 := 0) rfl rfl, fun U hU hW => ⟨rfl, by rw [hU]; exact hPc, va_K.moved hW.alike hKc⟩⟩ rfl rfl hl.1 rfl (lv_room (Nat.le_of_ble_eq_true rfl)) dL_law_495 ⟨by show (14 + 2 * B) + 0 ≤ 1046; omega, by show (13169 + 12 * B) + 0 ≤ 21409; omega⟩) (fun r1 er1 => ?_)
  refine lv_aload_n hx hb dL_law_498 rfl (lv_at hl 3 rfl) ?_
  have hPc := hP.sub (ws' := MW am ym (co, ct, th, fo, sg, sz, hc2, fL, fN, fD, fH2, fV, fM, fW)) [5, 6, 7, 8, 9, 10, 11, 12] rfl
  have hDc := hD.sub (ws' := MW am ym (co, ct, th, fo, sg, sz, hc2, fL, fN, fD, fH2, fV, fM, fW)) [5, 6, 7, 8, 9, 10, 11, 12] (by decide) rfl
  have hKc := hK.sub (tys' := tysM ym) [4, 5, 6, 7, 8, 9, 10] rfl
  have hFc := va_free (wc := MW am ym (co, ct, th, fo, sg, sz, hc2, fL, fN, fD, fH2, fV, fM, fW)) hD hS hA [5, 6, 7, 8, 9, 10, 11, 12] rfl
  refine va_calli (va_runV (As := []) (rest := [.int r1]) ⟨hx, hb, hml, hown, hw⟩ (n_isOver l dC dI am ym H.size co ct th fo sg sz hc2 fL fN fD fH2 fV fM fW n (by omega) h4) (cwV 0 hw (gw_V wb_391 wb_392 wb_393 wb_2 wb_394) rfl rfl rfl (by decide +kernel) ⟨Nat.le_of_ble_eq_true rfl, Nat.le_of_ble_eq_true rfl⟩) ⟨blind_preM, va_recv hKc hPc (ci := 1) (q0 := 0) rfl rfl, fun U hU hW => ⟨rfl, by rw [hU], by rw [hU]; exact hPc, va_K.moved hW.alike hKc, hDc.weaken (fun _ _ _ _ => trivial)⟩⟩ rfl rfl hl.1 rfl (lv_room (Nat.le_of_ble_eq_true rfl)) dL_law_499 ⟨by show (14 + 2 * B) + 0 ≤ 1046; omega, by show (13169 + 12 * B) + 0 ≤ 21409; omega⟩) hS (fun q _ h => hFc q h) hFc (fun r2 u t H1 locs ht hvm hq2 hB9 hz1 hk1 hS => ?_)
  obtain ⟨er2, rfl⟩ := hq2
  have hov := over_ok h15 n 0 (by omega)
  obtain ⟨hP1, hK1, hD1⟩ := hB9
  rw [ht] at hP1
  obtain ⟨hP, hD⟩ := va_join (wr := XOW ax yx qo yo ((cc, tc, fc, hc, dr, dO, fC, fO, fT, fH), g)) (w1 := MW am ym (0, ct, th, fo, sg, sz, hc2, fL, fN, fD, fH2, fV, fM, fW)) hP hD [5, 6, 7, 8, 9, 10, 11, 12] [0, 1, 2, 3, 4, 13] rfl rfl (by decide) (by decide) hk1 hFc hP1 hD1
  have hP : va_P (dC, dI) cls2 (LWd ax yx am ym qo yo (cc, tc, fc, hc, dr, dO, fC, fO, fT, fH) (0, ct, th, fo, sg, sz, hc2, fL, fN, fD, fH2, fV, fM, fW) g) H1 := hP.sub [0, 1, 2, 3, 4, 6, 7, 8, 9, 10, 11, 12, 13, 5] rfl
  have hD : va_D (fun q => s.heap.size ≤ q) (LWd ax yx am ym qo yo (cc, tc, fc, hc, dr, dO, fC, fO, fT, fH) (0, ct, th, fo, sg, sz, hc2, fL, fN, fD, fH2, fV, fM, fW) g) := hD.sub [0, 1, 2, 3, 4, 6, 7, 8, 9, 10, 11, 12, 13, 5] (by decide) rfl
  clear hP1 hK1 hD1 hk1 hz1 ht hPc hDc hKc hFc
  generalize H1 = H at hP hS ⊢
  refine lv_icmp_eq (tgt := 576) hx hb dL_law_502 (by decide) (fun c1 => ?_) (fun c1 => ?_)
  · skip
    refine W.widen (k := 14 + 2 * (B + 1)) (n := 13169 + 12 * (B + 1)) (by omega) (by omega) ?_
    exact back (cc, tc, fc, hc, dr, dO, fC, fO, fT, fH) (0, ct, th, fo, sg, sz, hc2, fL, fN, fD, fH2, fV, fM, fW) g H _ (⟨n, d, q, zl, R_up hR⟩) hP hD hS ls (lv_sub hl [0, 1, 2, 3, 4] rfl)
  · skip
    exact absurd (er1.trans (hov.trans er2.symm)) c1
set_option maxHeartbeats 1000000 in
set_option maxRecDepth 100000 in
/-- law_op10 -/
theorem law_op10 {p : Program} {l : Launch} {e : Env} {s : State} {m : MethodId} {below : List Frame} {meth : Method} {c : Code} {b L : Nat} {xs : Nat → Int32} (hl9 : l.stackTraces = false) (hL : L ≤ 1536) (C0 : lw_At p s m meth c b L xs) (hT : Th (fun q => s.heap.size ≤ q) s s.heap) {dC : Nat → ClassId} {dI : Nat → Nat → Nat} {ax : Nat → Nat} {yx : Nat → ClassId} {am : Nat → Nat} {ym : Nat → ClassId} {qo : Nat} {yo : ClassId} (hK : va_K (dC, dI) cls2 (tysL yx ym yo) s) {B : Nat} (hB : 3 * B + 3 ≤ L) {u : XS} {mm : MS} {g : Nat → Int64} {H : Heap} {locs : List Loc} (hRel : Rel B u mm) (hP : va_P (dC, dI) cls2 (LWd ax yx am ym qo yo u mm g) H) (hD : va_D (fun q => s.heap.size ≤ q) (LWd ax yx am ym qo yo u mm g)) (hS : va_S (fun q => s.heap.size ≤ q) s.heap H locs) (back : ∀ (u : XS) (mm : MS) (g : Nat → Int64) (H : Heap) (locs : List Loc), Rel (B + 1) u mm → va_P (dC, dI) cls2 (LWd ax yx am ym qo yo u mm g) H → va_D (fun q => s.heap.size ≤ q) (LWd ax yx am ym qo yo u mm g) → va_S (fun q => s.heap.size ≤ q) s.heap H locs → ∀ ls, lv_has ls 7 [(4, .int (nI (3 * B))), (0, .ref b), (1, .ref (ax 0)), (2, .ref (am 0)), (3, .ref qo)] → LWj p l e s m b below meth c H locs (B + 1) 576 ls) : ∀ ls, lv_has ls 7 [(4, .int (nI (3 * B))), (0, .ref b), (1, .ref (ax 0)), (2, .ref (am 0)), (3, .ref qo)] → LWj p l e s m b below meth c H locs B 507 ls := by
  obtain ⟨hx, hb, hr, hml, hown, hts, hX, hbl, hlocks, hgv⟩ := C0
  have hw : ∀ w ∈ WB, w.before #[Value.ref b] s = true := fun w h => hts w (WB_lw w h)
  have hA : ∀ q : Nat, s.heap.size ≤ q → (fun q : Nat => s.heap.size ≤ q) q := fun _ h => h
  have hbA : ¬ (fun q : Nat => s.heap.size ≤ q) b := Nat.not_le.mpr hbl
  obtain ⟨cc, tc, fc, hc, dr, dO, fC, fO, fT, fH⟩ := u
  obtain ⟨co, ct, th, fo, sg, sz, hc2, fL, fN, fD, fH2, fV, fM, fW⟩ := mm
  obtain ⟨n, d, q, zl, hR⟩ := hRel
  obtain ⟨h1, h2, h3, h4, h5, h6, h7, h8, h9, h10, h11, h12, h13, h14, h15, h16, h17⟩ := id hR
  have hd := gs_16 h11
  have hTH : ∀ (H : Heap) (locs : List Loc), va_S (fun q => s.heap.size ≤ q) s.heap H locs → Th (fun q => H.size ≤ q) s H := fun H locs hS => (hT.kept hS.2.1).narrow (fun q h => Nat.le_trans hS.1 h)
  intro ls hl
  have hP : va_P (dC, dI) cls2 (LWd ax yx am ym qo yo (cc, tc, fc, hc, dr, dO, fC, fO, fT, fH) (co, ct, th, fo, sg, sz, hc2, fL, fN, fD, fH2, fV, fM, fW) g) H := hP
  have hD : va_D (fun q => s.heap.size ≤ q) (LWd ax yx am ym qo yo (cc, tc, fc, hc, dr, dO, fC, fO, fT, fH) (co, ct, th, fo, sg, sz, hc2, fL, fN, fD, fH2, fV, fM, fW) g) := hD
  refine lv_aload_n hx hb dL_law_507 rfl (lv_at hl 2 rfl) ?_
  have hPc := hP.sub (ws' := XW ax yx (cc, tc, fc, hc, dr, dO, fC, fO, fT, fH)) [0, 1, 2, 3, 4] rfl
  have hKc := hK.sub (tys' := tysX yx) [0, 1, 2, 3] rfl
  refine vp_callSi (W.runV (As := []) (rest := []) ⟨hx, hb, hml, hown, hw⟩ (m_wrong l dC dI ax yx cc tc fc hc dr dO fC fO fT fH) (cwV 0 hw (gw_V wb_85 wb_86 wb_87 wb_1 wb_88) rfl rfl rfl (by decide +kernel) ⟨Nat.le_of_ble_eq_true rfl, Nat.le_of_ble_eq_true rfl⟩) ⟨blind_rdX, va_recv hKc hPc (ci := 0) (q0 := 0) rfl rfl, fun U hU hW => ⟨rfl, by rw [hU]; exact hPc, va_K.moved hW.alike hKc⟩⟩ rfl rfl hl.1 rfl (lv_room (Nat.le_of_ble_eq_true rfl)) dL_law_508 ⟨by show (14 + 2 * B) + 0 ≤ 1046; omega, by show (13169 + 12 * B) + 0 ≤ 21409; omega⟩) (fun r1 er1 => ?_)
  refine lv_aload_n hx hb dL_law_511 rfl (lv_at hl 3 rfl) ?_
  have hPc := hP.sub (ws' := MW am ym (co, ct, th, fo, sg, sz, hc2, fL, fN, fD, fH2, fV, fM, fW)) [5, 6, 7, 8, 9, 10, 11, 12] rfl
  have hDc := hD.sub (ws' := MW am ym (co, ct, th, fo, sg, sz, hc2, fL, fN, fD, fH2, fV, fM, fW)) [5, 6, 7, 8, 9, 10, 11, 12] (by decide) rfl
  have hKc := hK.sub (tys' := tysM ym) [4, 5, 6, 7, 8, 9, 10] rfl
  have hFc := va_free (wc := MW am ym (co, ct, th, fo, sg, sz, hc2, fL, fN, fD, fH2, fV, fM, fW)) hD hS hA [5, 6, 7, 8, 9, 10, 11, 12] rfl
  refine va_calli (va_runV (As := []) (rest := [.int r1]) ⟨hx, hb, hml, hown, hw⟩ (n_wrong l dC dI am ym H.size co ct th fo sg sz hc2 fL fN fD fH2 fV fM fW) (cwV 0 hw (gw_V wb_395 wb_396 wb_397 wb_2 wb_398) rfl rfl rfl (by decide +kernel) ⟨Nat.le_of_ble_eq_true rfl, Nat.le_of_ble_eq_true rfl⟩) ⟨blind_preM, va_recv hKc hPc (ci := 1) (q0 := 0) rfl rfl, fun U hU hW => ⟨rfl, by rw [hU], by rw [hU]; exact hPc, va_K.moved hW.alike hKc, hDc.weaken (fun _ _ _ _ => trivial)⟩⟩ rfl rfl hl.1 rfl (lv_room (Nat.le_of_ble_eq_true rfl)) dL_law_512 ⟨by show (14 + 2 * B) + 0 ≤ 1046; omega, by show (13169 + 12 * B) + 0 ≤ 21409; omega⟩) hS (fun q _ h => hFc q h) hFc (fun r2 u t H1 locs ht hvm hq2 hB9 hz1 hk1 hS => ?_)
  obtain ⟨er2, rfl⟩ := hq2
  obtain ⟨hP1, hK1, hD1⟩ := hB9
  rw [ht] at hP1
  obtain ⟨hP, hD⟩ := va_join (wr := XOW ax yx qo yo ((cc, tc, fc, hc, dr, dO, fC, fO, fT, fH), g)) (w1 := MW am ym (0, ct, th, fo, sg, sz, hc2, fL, fN, fD, fH2, fV, fM, fW)) hP hD [5, 6, 7, 8, 9, 10, 11, 12] [0, 1, 2, 3, 4, 13] rfl rfl (by decide) (by decide) hk1 hFc hP1 hD1
  have hP : va_P (dC, dI) cls2 (LWd ax yx am ym qo yo (cc, tc, fc, hc, dr, dO, fC, fO, fT, fH) (0, ct, th, fo, sg, sz, hc2, fL, fN, fD, fH2, fV, fM, fW) g) H1 := hP.sub [0, 1, 2, 3, 4, 6, 7, 8, 9, 10, 11, 12, 13, 5] rfl
  have hD : va_D (fun q => s.heap.size ≤ q) (LWd ax yx am ym qo yo (cc, tc, fc, hc, dr, dO, fC, fO, fT, fH) (0, ct, th, fo, sg, sz, hc2, fL, fN, fD, fH2, fV, fM, fW) g) := hD.sub [0, 1, 2, 3, 4, 6, 7, 8, 9, 10, 11, 12, 13, 5] (by decide) rfl
  clear hP1 hK1 hD1 hk1 hz1 ht hPc hDc hKc hFc
  generalize H1 = H at hP hS ⊢
  refine lv_icmp_eq (tgt := 576) hx hb dL_law_515 (by decide) (fun c1 => ?_) (fun c1 => ?_)
  · skip
    refine W.widen (k := 14 + 2 * (B + 1)) (n := 13169 + 12 * (B + 1)) (by omega) (by omega) ?_
    exact back (cc, tc, fc, hc, dr, dO, fC, fO, fT, fH) (0, ct, th, fo, sg, sz, hc2, fL, fN, fD, fH2, fV, fM, fW) g H _ (⟨n, d, q, zl, R_up hR⟩) hP hD hS ls (lv_sub hl [0, 1, 2, 3, 4] rfl)
  · skip
    exact absurd (er1.trans (h10.symm.trans er2.symm)) c1
