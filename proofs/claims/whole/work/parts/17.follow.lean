/-! the reference: following, by itself and along hints; told, step, isOver -/
def sy_of (fL fN fV : Nat → Int32) (c : Nat) : Int32 := sy_it fL fV (fN c).toNatClampNeg (16 * c) 0 0
def fw_scan (fL fN : Nat → Int32) : Nat → Nat → (Nat → Int32) → Int32 → Int32 → Option ((Nat → Int32) × Int32 × Int32)
  | 0, _, f, g, b => some (f, g, b)
  | a + 1, i, f, g, b => if fN i < 0 then fw_scan fL fN a (i + 1) f g b else if sy_of fL fN f i = 17 then none else if sy_of fL fN f i = 0 then fw_scan fL fN a (i + 1) f g b else fw_scan fL fN a (i + 1) (tell_v f (sy_of fL fN f i)) (g + 1) 1
def fw_it (fL fN : Nat → Int32) (n : Nat) : Nat → (Nat → Int32) → Int32 → Option Int32
  | 0, _, _ => none
  | a + 1, f, g => match fw_scan fL fN n 0 f g 0 with
    | none => some 17
    | some (f1, g1, b1) => if b1 = 0 then some g1 else fw_it fL fN n a f1 g1
theorem sy_rng {fL fV : Nat → Int32} : ∀ (a i : Nat) (op la : Int32), (∀ j, j < a → rng (fL (i + j))) → rng la → sy_it fL fV a i op la = 17 ∨ rng (sy_it fL fV a i op la)
  | 0, i, op, la, _, hl => by
    rw [sy_it]
    by_cases h : op = 0
    · exact Or.inl (by rw [if_pos h])
    · rw [if_neg h]
      by_cases h1 : op = 1
      · rw [if_pos h1]; exact Or.inr hl
      · rw [if_neg h1]; exact Or.inr ⟨by decide, by decide⟩
  | a + 1, i, op, la, hr, hl => by
    rw [sy_it]
    by_cases h : of_v fV (fL i) = 1
    · rw [if_pos h]; exact Or.inr ⟨by decide, by decide⟩
    · rw [if_neg h]
      refine sy_rng a (i + 1) _ _ (fun j hj => ?_) ?_
      · have := hr (j + 1) (by omega)
        rw [show i + 1 + j = i + (j + 1) by omega]
        exact this
      · by_cases h0 : of_v fV (fL i) = 0
        · rw [if_pos h0]; exact hr 0 (by omega)
        · rw [if_neg h0]; exact hl
/-- the clauses are as they should be: dropped, or of at most 16 literals -/
def cl_ok (n : Nat) (fL fN : Nat → Int32) : Prop := ∀ c, c < n → fN c < 0 ∨ ∃ z : Nat, z ≤ 16 ∧ fN c = nI z ∧ ∀ j, j < z → rng (fL (16 * c + j))
theorem cl_get {n c : Nat} {fL fN : Nat → Int32} (h : cl_ok n fL fN) (hc : c < n) (h0 : ¬ fN c < 0) : ∃ z : Nat, z ≤ 16 ∧ fN c = nI z ∧ (fN c).toNatClampNeg = z ∧ ∀ j, j < z → rng (fL (16 * c + j)) := by
  rcases h c hc with h | ⟨z, hz, ez, hr⟩
  · exact absurd h h0
  · exact ⟨z, hz, ez, by rw [ez]; exact nI_clamp (by omega), hr⟩
theorem sy_of_rng {n c : Nat} {fL fN fV : Nat → Int32} (h : cl_ok n fL fN) (hc : c < n) (h0 : ¬ fN c < 0) (h17 : ¬ sy_of fL fN fV c = 17) : rng (sy_of fL fN fV c) := by
  obtain ⟨z, hz, ez, cz, hr⟩ := cl_get h hc h0
  rw [sy_of, cz] at h17 ⊢
  rcases sy_rng (fL := fL) (fV := fV) z (16 * c) 0 0 hr ⟨by decide, by decide⟩ with h | h
  · exact absurd h h17
  · exact h
theorem mt_ix {ct k : Int32} {fN : Nat → Int32} {n : Nat} (e : ct = nI n) (hn : n < 2 ^ 31) (h : ¬ mt_b ct fN k = 0) : ∃ c : Nat, c < n ∧ k = nI c ∧ k.toNatClampNeg = c ∧ ¬ fN c < 0 := by
  by_cases z : ¬ k < 0 ∧ ¬ ct ≤ k ∧ ¬ fN k.toNatClampNeg < 0
  · rcases pk_ix k (n := n) hn with q | q | ⟨j, hj, ej⟩
    · exact absurd q z.1
    · exact absurd (by rw [e]; exact q) z.2.1
    · have cj : k.toNatClampNeg = j := by rw [ej]; exact nI_clamp (by omega)
      exact ⟨j, hj, ej, cj, by have := z.2.2; rw [cj] at this; exact this⟩
  · exact absurd (by rw [mt_b, if_neg z]) h
def io_it (fN : Nat → Int32) : Nat → Nat → Int32 → Int32
  | 0, _, g => g
  | a + 1, i, g => io_it fN a (i + 1) (if ¬ g = 0 ∨ fN i = 0 then 1 else 0)
def al_said (ct : Int32) (fL fN fH f : Nat → Int32) (i : Nat) : Int32 := if mt_b ct fN (fH i) = 0 then 0 else sy_of fL fN f (fH i).toNatClampNeg
def al_it (ct hc : Int32) (fL fN fH : Nat → Int32) : Nat → Nat → (Nat → Int32) → Option Int32
  | 0, _, _ => some (-1 - hc)
  | a + 1, i, f => if al_said ct fL fN fH f i = 17 ∧ a = 0 then none else if al_said ct fL fN fH f i = 0 ∨ al_said ct fL fN fH f i = 17 then some (-1 - nI i) else al_it ct hc fL fN fH a (i + 1) (tell_v f (al_said ct fL fN fH f i))
theorem n_bool {g : Int32} (h : g = 0 ∨ g = 1) : narrow .boolean (.int g) = .int g := by
  rcases h with h | h <;> rw [h] <;> decide
set_option maxHeartbeats 4000000 in
set_option maxRecDepth 100000 in
/-- follow -/
theorem n_follow (l : Launch) (dC : Nat → ClassId) (dI : Nat → Nat → Nat) (am : Nat → Nat) (ym : Nat → ClassId) (sz0 : Nat) (co ct th fo sg sz hc : Int32) (fL fN fD fH fV : Nat → Int32) (fM fW : Nat → Int64)  (n : Nat) (hn : n < 600) (ect : ct = nI n) (d : Nat) (hd : d ≤ 16) (esz : sz = nI d) (hR : ∀ j, j < d → rng (fD j)) (hC : cl_ok n fL fN) (K : Nat) (ans : Int32) (hKa : fw_it fL fN n K (so_it fD d 0 (zv_it 17 0 fV)) 0 = some ans) : Met l yX1_follow wsX1_follow (rmN 2 0 0) (va_Pc [.ref (am 0)] (preM dC dI am ym sz0 (co, ct, th, fo, sg, sz, hc, fL, fN, fD, fH, fV, fM, fW))) (va_Qi (fun (r : Int32) (u : MS) => r = ans ∧ ∃ f : Nat → Int32, u = (co, ct, th, fo, sg, sz, hc, fL, fN, fD, fH, f, fM, fW)) (atM dC dI (va_A (MW am ym (co, ct, th, fo, sg, sz, hc, fL, fN, fD, fH, fV, fM, fW)) sz0) am ym) (va_A (MW am ym (co, ct, th, fo, sg, sz, hc, fL, fN, fD, fH, fV, fM, fW)) sz0)) 0 0 (va_A (MW am ym (co, ct, th, fo, sg, sz, hc, fL, fN, fD, fH, fV, fM, fW)) sz0) := by
  refine Met.ofW (cc := cX1_follow) (maxL := 5) (ret := (some .int)) (by decide) rfl ?_
  intro p e s m args below meth c s₁ B hml hv
  obtain ⟨rfl, hsz, hP, hK, hD0⟩ := hv
  have hx := B.exec
  have hb := B.bytes
  have hrt := B.returns
  have hlocks := B.notSynchronized
  have hts := atoms_spec (ws := wsX1_follow) B.pre
  have hw : ∀ w ∈ WB, w.before ([.ref (am 0)] : List Value).toArray s = true := fun w h => hts w (List.mem_cons_of_mem _ h)
  have hown : s.vm.findClass "ProofBenchModel" = some m.cls := findClass_of_methodNamed B.named
  subst hsz
  have hD := hD0.self (sz := s.heap.size)
  generalize hAe : va_A (MW am ym (co, ct, th, fo, sg, sz, hc, fL, fN, fD, fH, fV, fM, fW)) s.heap.size = A at hD ⊢
  have hA : ∀ q : Nat, s.heap.size ≤ q → A q := fun q h => by rw [← hAe]; exact Or.inr h
  have hS : va_S A s.heap s.heap [] := va_S.rf
  have hP : va_P (dC, dI) cls2 (MW am ym (co, ct, th, fo, sg, sz, hc, fL, fN, fD, fH, fV, fM, fW)) s.heap := hP
  have hl := lv_entry ([.ref (am 0)]) (n := 5) (Nat.le_of_ble_eq_true rfl)
  rw [lg_entry_eq]
  generalize (lg_sl ([.ref (am 0)]) ++ List.replicate (5 - (lg_sl ([.ref (am 0)])).length) Slot.unset).toArray = ls at hl ⊢
  have hl : lv_has ls 5 [(0, .ref (am 0))] := hl
  have inner : ∀ (a i : Nat) (f : Nat → Int32) (g b : Int32) (H : Heap) (locs : List Loc), i + a = n → (∀ (f1 : Nat → Int32) (g1 b1 : Int32), fw_scan fL fN a i f g b = some (f1, g1, b1) → ∀ (H : Heap) (locs : List Loc), va_P (dC, dI) cls2 (MW am ym (co, ct, th, fo, sg, sz, hc, fL, fN, fD, fH, f1, fM, fW)) H → va_D A (MW am ym (co, ct, th, fo, sg, sz, hc, fL, fN, fD, fH, f1, fM, fW)) → va_S A s.heap H locs → ∀ ls, lv_has ls 5 [(1, .int g1), (2, .int b1), (0, .ref (am 0))] → W p l e (headSpec wsX1_follow (rmN 2 0 0)).room s m ([.ref (am 0)] : List Value).toArray below meth c H locs 0 0 (MQ below (va_Qi (fun (r : Int32) (u : MS) => r = ans ∧ ∃ f : Nat → Int32, u = (co, ct, th, fo, sg, sz, hc, fL, fN, fD, fH, f, fM, fW)) (atM dC dI A am ym) A) ([.ref (am 0)] : List Value).toArray s 0 0 A) (F0 m 76 ls [])) → (fw_scan fL fN a i f g b = none → ans = 17) → va_P (dC, dI) cls2 (MW am ym (co, ct, th, fo, sg, sz, hc, fL, fN, fD, fH, f, fM, fW)) H → va_D A (MW am ym (co, ct, th, fo, sg, sz, hc, fL, fN, fD, fH, f, fM, fW)) → va_S A s.heap H locs → ∀ ls, lv_has ls 5 [(3, .int (nI i)), (2, .int b), (1, .int g), (0, .ref (am 0))] → W p l e (headSpec wsX1_follow (rmN 2 0 0)).room s m ([.ref (am 0)] : List Value).toArray below meth c H locs 0 0 (MQ below (va_Qi (fun (r : Int32) (u : MS) => r = ans ∧ ∃ f : Nat → Int32, u = (co, ct, th, fo, sg, sz, hc, fL, fN, fD, fH, f, fM, fW)) (atM dC dI A am ym) A) ([.ref (am 0)] : List Value).toArray s 0 0 A) (F0 m 16 ls []) := by
    intro a
    induction a with
    | zero =>
      intro i f g b H locs hk h1 h2 hP hD hS ls hl
      have e0 : i = n := by omega
      refine lv_iload_n hx hb dX1_follow_16 rfl (lv_at hl 0 rfl) ?_
      refine lv_aload_n hx hb dX1_follow_17 rfl (lv_at hl 3 rfl) ?_
      refine va_get (D := (dC, dI)) (ci := 1) (v := .int ct) (C := RX1) (T := TX1) (N := 14) hx hb hw inX1 hown hK hP 0 rfl rfl 1 (by decide) (hw _ wb_269) (fun _ h9 => h9) rfl dX1_follow_18 ?_
      refine lv_icmp_ge (tgt := 76) hx hb dX1_follow_21 (by decide) (fun c1 => ?_) (fun c1 => ?_)
      · skip
        exact h1 f g b rfl H locs hP hD hS ls (lv_sub hl [2, 1, 3] rfl)
      · skip
        exact absurd (by rw [ect, e0]; exact Int32.le_refl _) c1
    | succ a ih =>
      intro i f g b H locs hk h1 h2 hP hD hS ls hl
      have ci : (nI i).toNatClampNeg = i := nI_clamp (by omega)
      have hin : vp_in (nI i) 600 := vp_in_nI (by omega) (by decide)
      refine lv_iload_n hx hb dX1_follow_16 rfl (lv_at hl 0 rfl) ?_
      refine lv_aload_n hx hb dX1_follow_17 rfl (lv_at hl 3 rfl) ?_
      refine va_get (D := (dC, dI)) (ci := 1) (v := .int ct) (C := RX1) (T := TX1) (N := 14) hx hb hw inX1 hown hK hP 0 rfl rfl 1 (by decide) (hw _ wb_269) (fun _ h9 => h9) rfl dX1_follow_18 ?_
      refine lv_icmp_ge (tgt := 76) hx hb dX1_follow_21 (by decide) (fun c1 => ?_) (fun c1 => ?_)
      · skip
        exact absurd (by rw [ect] at c1; exact c1) (nI_ge (by omega) (by omega))
      · skip
        refine lv_aload_n hx hb dX1_follow_24 rfl (lv_at hl 3 rfl) ?_
        refine va_get (D := (dC, dI)) (ci := 1) (v := .ref (am 2)) (C := RX1) (T := TX1) (N := 14) hx hb hw inX1 hown hK hP 0 rfl rfl 6 (by decide) (hw _ wb_274) (fun _ h9 => h9) rfl dX1_follow_25 ?_
        refine lv_iload_n hx hb dX1_follow_28 rfl (lv_at hl 0 rfl) ?_
        refine va_iald hx hb hK hP 2 1 rfl rfl hin dX1_follow_29 ?_
        rw [ci]
        refine lv_if_ge (tgt := 37) hx hb dX1_follow_30 (by decide) (fun c2 => ?_) (fun c2 => ?_)
        · skip
          have c2 : ¬ fN i < 0 := Int32.not_lt.mpr c2
          obtain ⟨z, hz, ez, cz, hr⟩ := cl_get hC (show i < n by omega) c2
          refine lv_aload_n hx hb dX1_follow_37 rfl (lv_at hl 3 rfl) ?_
          refine lv_iload_n hx hb dX1_follow_38 rfl (lv_at hl 0 rfl) ?_
          refine vp_callSi (W.runV (As := [.int (nI i)]) (rest := []) ⟨hx, hb, hml, hown, hw⟩ (n_says l dC dI am ym co ct th fo sg sz hc fL fN fD fH f fM fW (nI i) i (by omega) rfl z hz ez hr) (cwV 1 hw (gw_V wb_359 wb_361 wbs_13 wb_2 wb_362) rfl rfl rfl (by decide +kernel) ⟨Nat.le_of_ble_eq_true rfl, Nat.le_of_ble_eq_true rfl⟩) ⟨blind_rdM, va_recv hK hP (ci := 1) (q0 := 0) rfl rfl, fun U hU hW => ⟨rfl, by rw [hU]; exact hP, va_K.moved hW.alike hK⟩⟩ rfl rfl hl.1 rfl (lv_room (Nat.le_of_ble_eq_true rfl)) dX1_follow_39 ⟨Nat.le_of_ble_eq_true rfl, Nat.le_of_ble_eq_true rfl⟩) (fun r1 hr1 => ?_)
          have hr1 : r1 = sy_of fL fN f i := by rw [hr1, sy_of, cz]
          subst hr1
          refine lv_istore (lv' := [(4, .int (sy_of fL fN f i)), (3, .int (nI i)), (2, .int b), (1, .int g), (0, .ref (am 0))]) hx hb dX1_follow_42 hl (by decide) rfl (fun ls hl => ?_)
          refine lv_iload hx hb dX1_follow_44 (lv_at hl 0 rfl) ?_
          refine lv_bipush (v := 17) hx hb dX1_follow_46 (by decide) ?_
          refine lv_icmp_ne (tgt := 54) hx hb dX1_follow_48 (by decide) (fun c3 => ?_) (fun c3 => ?_)
          · skip
            refine lv_iload hx hb dX1_follow_54 (lv_at hl 0 rfl) ?_
            refine lv_if_eq (tgt := 70) hx hb dX1_follow_56 (by decide) (fun c4 => ?_) (fun c4 => ?_)
            · skip
              have es : fw_scan fL fN (a + 1) i f g b = fw_scan fL fN a (i + 1) f g b := (if_neg c2).trans ((if_neg c3).trans (if_pos c4))
              refine lv_iinc (v := (nI i) + 1) (lv' := [(3, .int ((nI i) + 1)), (4, .int (sy_of fL fN f i)), (2, .int b), (1, .int g), (0, .ref (am 0))]) hx hb dX1_follow_70 hl (k := 1) rfl rfl (by decide) rfl (fun ls hl => ?_)
              refine lv_goto (tgt := 16) hx hb dX1_follow_73 (by decide) ?_
              rw [nI_1] at hl
              exact ih (i + 1) f g b H locs (by omega) (fun f1 g1 b1 hg => h1 f1 g1 b1 (es.trans hg)) (fun hg => h2 (es.trans hg)) hP hD hS ls (lv_sub hl [0, 2, 3, 4] rfl)
            · skip
              have es : fw_scan fL fN (a + 1) i f g b = fw_scan fL fN a (i + 1) (tell_v f (sy_of fL fN f i)) (g + 1) 1 := (if_neg c2).trans ((if_neg c3).trans (if_neg c4))
              have hr9 := sy_of_rng (fV := f) hC (show i < n by omega) c2 c3
              refine lv_aload_n hx hb dX1_follow_59 rfl (lv_at hl 4 rfl) ?_
              refine lv_iload hx hb dX1_follow_60 (lv_at hl 0 rfl) ?_
              have hFc := va_free (wc := MW am ym (co, ct, th, fo, sg, sz, hc, fL, fN, fD, fH, f, fM, fW)) hD hS hA [0, 1, 2, 3, 4, 5, 6, 7] rfl
              refine va_callv (va_runV (As := [.int (sy_of fL fN f i)]) (rest := []) ⟨hx, hb, hml, hown, hw⟩ (n_tell l dC dI am ym H.size co ct th fo sg sz hc fL fN fD fH f fM fW (sy_of fL fN f i) hr9.1 hr9.2) (cwV 1 hw (gw_V wb_355 wb_357 wbs_12 wb_2 wb_358) rfl rfl rfl (by decide +kernel) ⟨Nat.le_of_ble_eq_true rfl, Nat.le_of_ble_eq_true rfl⟩) ⟨blind_preM, va_recv hK hP (ci := 1) (q0 := 0) rfl rfl, fun U hU hW => ⟨rfl, by rw [hU], by rw [hU]; exact hP, va_K.moved hW.alike hK, hD.weaken (fun _ _ _ _ => trivial)⟩⟩ rfl rfl hl.1 rfl (lv_room (Nat.le_of_ble_eq_true rfl)) dX1_follow_62 ⟨Nat.le_of_ble_eq_true rfl, Nat.le_of_ble_eq_true rfl⟩) hS (fun q _ h => hFc q h) hFc (fun u t H1 locs ht hvm hq hB hz1 hk1 hS => ?_)
              obtain rfl := hq
              obtain ⟨hP1, hK1, hD1⟩ := hB
              rw [ht] at hP1
              have hP : va_P (dC, dI) cls2 (MW am ym (co, ct, th, fo, sg, sz, hc, fL, fN, fD, fH, tell_v f (sy_of fL fN f i), fM, fW)) H1 := hP1
              have hD : va_D A (MW am ym (co, ct, th, fo, sg, sz, hc, fL, fN, fD, fH, tell_v f (sy_of fL fN f i), fM, fW)) := hD1.weaken (fun k q h _ => hFc q.1 (hD1.2 k q h))
              generalize H1 = H at hP hS ⊢
              refine lv_iinc (v := g + 1) (lv' := [(1, .int (g + 1)), (4, .int (sy_of fL fN f i)), (3, .int (nI i)), (2, .int b), (0, .ref (am 0))]) hx hb dX1_follow_65 hl (k := 3) rfl rfl (by decide) rfl (fun ls hl => ?_)
              refine lv_iconst (v := 1) hx hb dX1_follow_68 (by decide) ?_
              refine lv_istore_n (lv' := [(2, .int 1), (1, .int (g + 1)), (4, .int (sy_of fL fN f i)), (3, .int (nI i)), (0, .ref (am 0))]) hx hb dX1_follow_69 rfl hl (by decide) rfl (fun ls hl => ?_)
              refine lv_iinc (v := (nI i) + 1) (lv' := [(3, .int ((nI i) + 1)), (2, .int 1), (1, .int (g + 1)), (4, .int (sy_of fL fN f i)), (0, .ref (am 0))]) hx hb dX1_follow_70 hl (k := 3) rfl rfl (by decide) rfl (fun ls hl => ?_)
              refine lv_goto (tgt := 16) hx hb dX1_follow_73 (by decide) ?_
              rw [nI_1] at hl
              exact ih (i + 1) _ _ _ H _ (by omega) (fun f1 g1 b1 hg => h1 f1 g1 b1 (es.trans hg)) (fun hg => h2 (es.trans hg)) hP hD hS ls (lv_sub hl [0, 1, 2, 4] rfl)
          · skip
            have es : fw_scan fL fN (a + 1) i f g b = none := (if_neg c2).trans (if_pos c3)
            refine lv_bipush (v := 17) hx hb dX1_follow_51 (by decide) ?_
            exact W.iret (v := 17) hx hb hrt (fun t ht hW => ⟨⟨_, _, rfl, ⟨(h2 es).symm, f, rfl⟩, by rw [ht]; exact hP, va_K.moved hW.alike hK, hD⟩, hS.F ht⟩) hS.2.2 dX1_follow_53
        · skip
          have c2 : fN i < 0 := Int32.not_le.mp c2
          have es : fw_scan fL fN (a + 1) i f g b = fw_scan fL fN a (i + 1) f g b := if_pos c2
          refine lv_iconst (v := 0) hx hb dX1_follow_33 (by decide) ?_
          refine lv_goto (tgt := 42) hx hb dX1_follow_34 (by decide) ?_
          refine lv_istore (lv' := [(4, .int 0), (3, .int (nI i)), (2, .int b), (1, .int g), (0, .ref (am 0))]) hx hb dX1_follow_42 hl (by decide) rfl (fun ls hl => ?_)
          refine lv_iload hx hb dX1_follow_44 (lv_at hl 0 rfl) ?_
          refine lv_bipush (v := 17) hx hb dX1_follow_46 (by decide) ?_
          refine lv_icmp_ne (tgt := 54) hx hb dX1_follow_48 (by decide) (fun c3 => ?_) (fun c3 => ?_)
          · skip
            refine lv_iload hx hb dX1_follow_54 (lv_at hl 0 rfl) ?_
            refine lv_if_eq (tgt := 70) hx hb dX1_follow_56 (by decide) (fun c4 => ?_) (fun c4 => ?_)
            · skip
              refine lv_iinc (v := (nI i) + 1) (lv' := [(3, .int ((nI i) + 1)), (4, .int 0), (2, .int b), (1, .int g), (0, .ref (am 0))]) hx hb dX1_follow_70 hl (k := 1) rfl rfl (by decide) rfl (fun ls hl => ?_)
              refine lv_goto (tgt := 16) hx hb dX1_follow_73 (by decide) ?_
              rw [nI_1] at hl
              exact ih (i + 1) f g b H locs (by omega) (fun f1 g1 b1 hg => h1 f1 g1 b1 (es.trans hg)) (fun hg => h2 (es.trans hg)) hP hD hS ls (lv_sub hl [0, 2, 3, 4] rfl)
            · skip
              exact absurd rfl c4
          · skip
            exact absurd c3 (by decide)
  have outer : ∀ (K : Nat) (f : Nat → Int32) (g b : Int32) (H : Heap) (locs : List Loc), (¬ b = 0 → fw_it fL fN n K f g = some ans) → (b = 0 → g = ans) → va_P (dC, dI) cls2 (MW am ym (co, ct, th, fo, sg, sz, hc, fL, fN, fD, fH, f, fM, fW)) H → va_D A (MW am ym (co, ct, th, fo, sg, sz, hc, fL, fN, fD, fH, f, fM, fW)) → va_S A s.heap H locs → ∀ ls, lv_has ls 5 [(2, .int b), (1, .int g), (0, .ref (am 0))] → W p l e (headSpec wsX1_follow (rmN 2 0 0)).room s m ([.ref (am 0)] : List Value).toArray below meth c H locs 0 0 (MQ below (va_Qi (fun (r : Int32) (u : MS) => r = ans ∧ ∃ f : Nat → Int32, u = (co, ct, th, fo, sg, sz, hc, fL, fN, fD, fH, f, fM, fW)) (atM dC dI A am ym) A) ([.ref (am 0)] : List Value).toArray s 0 0 A) (F0 m 8 ls []) := by
    intro K
    induction K with
    | zero =>
      intro f g b H locs h1 h2 hP hD hS ls hl
      refine lv_iload_n hx hb dX1_follow_8 rfl (lv_at hl 0 rfl) ?_
      refine lv_if_eq (tgt := 79) hx hb dX1_follow_9 (by decide) (fun c1 => ?_) (fun c1 => ?_)
      · skip
        refine lv_iload_n hx hb dX1_follow_79 rfl (lv_at hl 1 rfl) ?_
        exact W.iret (v := g) hx hb hrt (fun t ht hW => ⟨⟨_, _, rfl, ⟨h2 c1, f, rfl⟩, by rw [ht]; exact hP, va_K.moved hW.alike hK, hD⟩, hS.F ht⟩) hS.2.2 dX1_follow_80
      · skip
        exact absurd (h1 c1) (fun h => nomatch h)
    | succ K ih =>
      intro f g b H locs h1 h2 hP hD hS ls hl
      refine lv_iload_n hx hb dX1_follow_8 rfl (lv_at hl 0 rfl) ?_
      refine lv_if_eq (tgt := 79) hx hb dX1_follow_9 (by decide) (fun c1 => ?_) (fun c1 => ?_)
      · skip
        refine lv_iload_n hx hb dX1_follow_79 rfl (lv_at hl 1 rfl) ?_
        exact W.iret (v := g) hx hb hrt (fun t ht hW => ⟨⟨_, _, rfl, ⟨h2 c1, f, rfl⟩, by rw [ht]; exact hP, va_K.moved hW.alike hK, hD⟩, hS.F ht⟩) hS.2.2 dX1_follow_80
      · skip
        have hq := h1 c1
        rw [fw_it] at hq
        refine lv_iconst (v := 0) hx hb dX1_follow_12 (by decide) ?_
        refine lv_istore_n (lv' := [(2, .int 0), (1, .int g), (0, .ref (am 0))]) hx hb dX1_follow_13 rfl hl (by decide) rfl (fun ls hl => ?_)
        refine lv_iconst (v := 0) hx hb dX1_follow_14 (by decide) ?_
        refine lv_istore_n (lv' := [(3, .int 0), (2, .int 0), (1, .int g), (0, .ref (am 0))]) hx hb dX1_follow_15 rfl hl (by decide) rfl (fun ls hl => ?_)
        refine inner n 0 f g 0 H locs (by omega) ?_ (fun hg => by rw [hg] at hq; exact (Option.some.inj hq).symm) hP hD hS ls (lv_sub hl [0, 1, 2, 3] rfl)
        intro f1 g1 b1 hg H locs hP hD hS ls hl
        rw [hg] at hq
        replace hq : (if b1 = 0 then some g1 else fw_it fL fN n K f1 g1) = some ans := hq
        refine lv_goto (tgt := 8) hx hb dX1_follow_76 (by decide) ?_
        exact ih f1 g1 b1 H locs (fun hb9 => by rw [if_neg hb9] at hq; exact hq) (fun hb9 => by rw [if_pos hb9] at hq; exact Option.some.inj hq) hP hD hS ls (lv_sub hl [1, 0, 2] rfl)
  refine lv_aload_n hx hb dX1_follow_0 rfl (lv_at hl 0 rfl) ?_
  have hFc := va_free (wc := MW am ym (co, ct, th, fo, sg, sz, hc, fL, fN, fD, fH, fV, fM, fW)) hD hS hA [0, 1, 2, 3, 4, 5, 6, 7] rfl
  refine va_callv (va_runV (As := []) (rest := []) ⟨hx, hb, hml, hown, hw⟩ (n_setOut l dC dI am ym s.heap.size co ct th fo sg sz hc fL fN fD fH fV fM fW d hd esz hR) (cwV 0 hw (gw_V wb_351 wb_353 wbs_11 wb_2 wb_354) rfl rfl rfl (by decide +kernel) ⟨Nat.le_of_ble_eq_true rfl, Nat.le_of_ble_eq_true rfl⟩) ⟨blind_preM, va_recv hK hP (ci := 1) (q0 := 0) rfl rfl, fun U hU hW => ⟨rfl, by rw [hU], by rw [hU]; exact hP, va_K.moved hW.alike hK, hD.weaken (fun _ _ _ _ => trivial)⟩⟩ rfl rfl hl.1 rfl (lv_room (Nat.le_of_ble_eq_true rfl)) dX1_follow_1 ⟨Nat.le_of_ble_eq_true rfl, Nat.le_of_ble_eq_true rfl⟩) hS (fun q _ h => hFc q h) hFc (fun u t H1 locs ht hvm hq hB hz1 hk1 hS => ?_)
  obtain rfl := hq
  obtain ⟨hP1, hK1, hD1⟩ := hB
  rw [ht] at hP1
  have hP : va_P (dC, dI) cls2 (MW am ym (co, ct, th, fo, sg, sz, hc, fL, fN, fD, fH, so_it fD d 0 (zv_it 17 0 fV), fM, fW)) H1 := hP1
  have hD : va_D A (MW am ym (co, ct, th, fo, sg, sz, hc, fL, fN, fD, fH, so_it fD d 0 (zv_it 17 0 fV), fM, fW)) := hD1.weaken (fun k q h _ => hFc q.1 (hD1.2 k q h))
  generalize H1 = H at hP hS ⊢
  refine lv_iconst (v := 0) hx hb dX1_follow_4 (by decide) ?_
  refine lv_istore_n (lv' := [(1, .int 0), (0, .ref (am 0))]) hx hb dX1_follow_5 rfl hl (by decide) rfl (fun ls hl => ?_)
  refine lv_iconst (v := 1) hx hb dX1_follow_6 (by decide) ?_
  refine lv_istore_n (lv' := [(2, .int 1), (1, .int 0), (0, .ref (am 0))]) hx hb dX1_follow_7 rfl hl (by decide) rfl (fun ls hl => ?_)
  exact outer K _ 0 1 H _ (fun _ => hKa) (fun h => absurd h (by decide)) hP hD hS ls hl
set_option maxHeartbeats 4000000 in
set_option maxRecDepth 100000 in
/-- told -/
theorem n_told (l : Launch) (dC : Nat → ClassId) (dI : Nat → Nat → Nat) (am : Nat → Nat) (ym : Nat → ClassId) (sz0 : Nat) (co ct th fo sg sz hc : Int32) (fL fN fD fH fV : Nat → Int32) (fM fW : Nat → Int64)  (n : Nat) (hn : n < 600) (ect : ct = nI n) (d : Nat) (hd : d ≤ 16) (esz : sz = nI d) (hR : ∀ j, j < d → rng (fD j)) (hC : cl_ok n fL fN) (K : Nat) (ans : Int32) (hKa : fw_it fL fN n K (so_it fD d 0 (zv_it 17 0 fV)) 0 = some ans) : Met l yX1_told wsX1_told (rmN 3 0 0) (va_Pc [.ref (am 0)] (preM dC dI am ym sz0 (co, ct, th, fo, sg, sz, hc, fL, fN, fD, fH, fV, fM, fW))) (va_Qi (fun (r : Int32) (u : MS) => r = ans ∧ ∃ f : Nat → Int32, u = (0, ct, th, fo, sg, sz, hc, fL, fN, fD, fH, f, fM, fW)) (atM dC dI (va_A (MW am ym (co, ct, th, fo, sg, sz, hc, fL, fN, fD, fH, fV, fM, fW)) sz0) am ym) (va_A (MW am ym (co, ct, th, fo, sg, sz, hc, fL, fN, fD, fH, fV, fM, fW)) sz0)) 0 0 (va_A (MW am ym (co, ct, th, fo, sg, sz, hc, fL, fN, fD, fH, fV, fM, fW)) sz0) := by
  refine Met.ofW (cc := cX1_told) (maxL := 1) (ret := (some .int)) (by decide) rfl ?_
  intro p e s m args below meth c s₁ B hml hv
  obtain ⟨rfl, hsz, hP, hK, hD0⟩ := hv
  have hx := B.exec
  have hb := B.bytes
  have hrt := B.returns
  have hlocks := B.notSynchronized
  have hts := atoms_spec (ws := wsX1_told) B.pre
  have hw : ∀ w ∈ WB, w.before ([.ref (am 0)] : List Value).toArray s = true := fun w h => hts w (List.mem_cons_of_mem _ h)
  have hown : s.vm.findClass "ProofBenchModel" = some m.cls := findClass_of_methodNamed B.named
  subst hsz
  have hD := hD0.self (sz := s.heap.size)
  generalize hAe : va_A (MW am ym (co, ct, th, fo, sg, sz, hc, fL, fN, fD, fH, fV, fM, fW)) s.heap.size = A at hD ⊢
  have hA : ∀ q : Nat, s.heap.size ≤ q → A q := fun q h => by rw [← hAe]; exact Or.inr h
  have hS : va_S A s.heap s.heap [] := va_S.rf
  have hP : va_P (dC, dI) cls2 (MW am ym (co, ct, th, fo, sg, sz, hc, fL, fN, fD, fH, fV, fM, fW)) s.heap := hP
  have hl := lv_entry ([.ref (am 0)]) (n := 1) (Nat.le_of_ble_eq_true rfl)
  rw [lg_entry_eq]
  generalize (lg_sl ([.ref (am 0)]) ++ List.replicate (1 - (lg_sl ([.ref (am 0)])).length) Slot.unset).toArray = ls at hl ⊢
  have hl : lv_has ls 1 [(0, .ref (am 0))] := hl
  refine lv_aload_n hx hb dX1_told_0 rfl (lv_at hl 0 rfl) ?_
  refine lv_iconst (v := 0) hx hb dX1_told_1 (by decide) ?_
  refine va_put (D := (dC, dI)) (ci := 1) (v := .int 0) (ty := .int) (C := RX1) (T := TX1) (N := 14) hx hb hw inX1 tyX1 tyX1_ok nmX1 hown hK hP hD hS 0 rfl rfl 0 (by decide) (hw _ wb_268) (fun _ h9 => h9) rfl (by decide +kernel) rfl rfl (Nat.le_of_ble_eq_true rfl) dX1_told_2 (fun H locs hP hD hS => ?_)
  have hP : va_P (dC, dI) cls2 (MW am ym (0, ct, th, fo, sg, sz, hc, fL, fN, fD, fH, fV, fM, fW)) H := hP
  have hD : va_D A (MW am ym (0, ct, th, fo, sg, sz, hc, fL, fN, fD, fH, fV, fM, fW)) := hD
  refine lv_aload_n hx hb dX1_told_5 rfl (lv_at hl 0 rfl) ?_
  have hFc := va_free (wc := MW am ym (0, ct, th, fo, sg, sz, hc, fL, fN, fD, fH, fV, fM, fW)) hD hS hA [0, 1, 2, 3, 4, 5, 6, 7] rfl
  refine va_calli (va_runV (As := []) (rest := []) ⟨hx, hb, hml, hown, hw⟩ (n_follow l dC dI am ym H.size 0 ct th fo sg sz hc fL fN fD fH fV fM fW n hn ect d hd esz hR hC K ans hKa) (cwV 0 hw (gw_V wb_347 wb_349 wbs_10 wb_2 wb_350) rfl rfl rfl (by decide +kernel) ⟨Nat.le_of_ble_eq_true rfl, Nat.le_of_ble_eq_true rfl⟩) ⟨blind_preM, va_recv hK hP (ci := 1) (q0 := 0) rfl rfl, fun U hU hW => ⟨rfl, by rw [hU], by rw [hU]; exact hP, va_K.moved hW.alike hK, hD.weaken (fun _ _ _ _ => trivial)⟩⟩ rfl rfl hl.1 rfl (lv_room (Nat.le_of_ble_eq_true rfl)) dX1_told_6 ⟨Nat.le_of_ble_eq_true rfl, Nat.le_of_ble_eq_true rfl⟩) hS (fun q _ h => hFc q h) hFc (fun r1 u t H1 locs ht hvm hq hB hz1 hk1 hS => ?_)
  obtain ⟨hr1, f1, rfl⟩ := hq
  obtain ⟨hP1, hK1, hD1⟩ := hB
  rw [ht] at hP1
  have hP : va_P (dC, dI) cls2 (MW am ym (0, ct, th, fo, sg, sz, hc, fL, fN, fD, fH, f1, fM, fW)) H1 := hP1
  have hD : va_D A (MW am ym (0, ct, th, fo, sg, sz, hc, fL, fN, fD, fH, f1, fM, fW)) := hD1.weaken (fun k q h _ => hFc q.1 (hD1.2 k q h))
  generalize H1 = H at hP hS ⊢
  exact W.iret (v := r1) hx hb hrt (fun t ht hW => ⟨⟨_, _, rfl, ⟨hr1, f1, rfl⟩, by rw [ht]; exact hP, va_K.moved hW.alike hK, hD⟩, hS.F ht⟩) hS.2.2 dX1_told_9
set_option maxHeartbeats 4000000 in
set_option maxRecDepth 100000 in
/-- step -/
theorem n_step (l : Launch) (dC : Nat → ClassId) (dI : Nat → Nat → Nat) (am : Nat → Nat) (ym : Nat → ClassId) (sz0 : Nat) (co ct th fo sg sz hc : Int32) (fL fN fD fH fV : Nat → Int32) (fM fW : Nat → Int64)  (n : Nat) (hn : n < 600) (ect : ct = nI n) (d : Nat) (hd : d ≤ 16) (esz : sz = nI d) (hR : ∀ j, j < d → rng (fD j)) (hC : cl_ok n fL fN) (K : Nat) (ans : Int32) (hKa : fw_it fL fN n K (so_it fD d 0 (zv_it 17 0 fV)) 0 = some ans) : Met l yX1_step wsX1_step (rmN 3 0 0) (va_Pc [.ref (am 0)] (preM dC dI am ym sz0 (co, ct, th, fo, sg, sz, hc, fL, fN, fD, fH, fV, fM, fW))) (va_Qi (fun (r : Int32) (u : MS) => (ans = 17 ∧ r = ct + 1 - 1 ∧ ∃ f : Nat → Int32, u = ad_S n d (0, ct, th, fo + 1, sg + (if ac_it (fun j => ti_it fD fW (nI j) d 0 0) fM 1024 0 1 = 0 then 1 else 0), sz, hc, fL, fN, fD, fH, f, fM, fW)) ∨ (¬ ans = 17 ∧ r = -1 ∧ ∃ f : Nat → Int32, u = (0, ct, th, fo, sg, sz, hc, fL, fN, fD, fH, f, fM, fW))) (atM dC dI (va_A (MW am ym (co, ct, th, fo, sg, sz, hc, fL, fN, fD, fH, fV, fM, fW)) sz0) am ym) (va_A (MW am ym (co, ct, th, fo, sg, sz, hc, fL, fN, fD, fH, fV, fM, fW)) sz0)) 0 0 (va_A (MW am ym (co, ct, th, fo, sg, sz, hc, fL, fN, fD, fH, fV, fM, fW)) sz0) := by
  refine Met.ofW (cc := cX1_step) (maxL := 1) (ret := (some .int)) (by decide) rfl ?_
  intro p e s m args below meth c s₁ B hml hv
  obtain ⟨rfl, hsz, hP, hK, hD0⟩ := hv
  have hx := B.exec
  have hb := B.bytes
  have hrt := B.returns
  have hlocks := B.notSynchronized
  have hts := atoms_spec (ws := wsX1_step) B.pre
  have hw : ∀ w ∈ WB, w.before ([.ref (am 0)] : List Value).toArray s = true := fun w h => hts w (List.mem_cons_of_mem _ h)
  have hown : s.vm.findClass "ProofBenchModel" = some m.cls := findClass_of_methodNamed B.named
  subst hsz
  have hD := hD0.self (sz := s.heap.size)
  generalize hAe : va_A (MW am ym (co, ct, th, fo, sg, sz, hc, fL, fN, fD, fH, fV, fM, fW)) s.heap.size = A at hD ⊢
  have hA : ∀ q : Nat, s.heap.size ≤ q → A q := fun q h => by rw [← hAe]; exact Or.inr h
  have hS : va_S A s.heap s.heap [] := va_S.rf
  have hP : va_P (dC, dI) cls2 (MW am ym (co, ct, th, fo, sg, sz, hc, fL, fN, fD, fH, fV, fM, fW)) s.heap := hP
  have hl := lv_entry ([.ref (am 0)]) (n := 1) (Nat.le_of_ble_eq_true rfl)
  rw [lg_entry_eq]
  generalize (lg_sl ([.ref (am 0)]) ++ List.replicate (1 - (lg_sl ([.ref (am 0)])).length) Slot.unset).toArray = ls at hl ⊢
  have hl : lv_has ls 1 [(0, .ref (am 0))] := hl
  refine lv_aload_n hx hb dX1_step_0 rfl (lv_at hl 0 rfl) ?_
  refine lv_aload_n hx hb dX1_step_1 rfl (lv_at hl 0 rfl) ?_
  refine va_get (D := (dC, dI)) (ci := 1) (v := .int ct) (C := RX1) (T := TX1) (N := 14) hx hb hw inX1 hown hK hP 0 rfl rfl 1 (by decide) (hw _ wb_269) (fun _ h9 => h9) rfl dX1_step_2 ?_
  refine lv_sipush (v := 600) hx hb dX1_step_5 (by decide) ?_
  refine lv_icmp_ne (tgt := 15) hx hb dX1_step_8 (by decide) (fun c1 => ?_) (fun c1 => ?_)
  · skip
    refine lv_iconst (v := 0) hx hb dX1_step_15 (by decide) ?_
    refine va_put (D := (dC, dI)) (ci := 1) (v := .int 0) (ty := .int) (C := RX1) (T := TX1) (N := 14) hx hb hw inX1 tyX1 tyX1_ok nmX1 hown hK hP hD hS 0 rfl rfl 0 (by decide) (hw _ wb_268) (fun _ h9 => h9) rfl (by decide +kernel) rfl rfl (Nat.le_of_ble_eq_true rfl) dX1_step_16 (fun H locs hP hD hS => ?_)
    have hP : va_P (dC, dI) cls2 (MW am ym (0, ct, th, fo, sg, sz, hc, fL, fN, fD, fH, fV, fM, fW)) H := hP
    have hD : va_D A (MW am ym (0, ct, th, fo, sg, sz, hc, fL, fN, fD, fH, fV, fM, fW)) := hD
    refine lv_aload_n hx hb dX1_step_19 rfl (lv_at hl 0 rfl) ?_
    refine va_get (D := (dC, dI)) (ci := 1) (v := .int 0) (C := RX1) (T := TX1) (N := 14) hx hb hw inX1 hown hK hP 0 rfl rfl 0 (by decide) (hw _ wb_268) (fun _ h9 => h9) rfl dX1_step_20 ?_
    refine lv_if_le (tgt := 28) hx hb dX1_step_23 (by decide) (fun c9 => ?_) (fun c9 => ?_)
    · skip
      refine lv_aload_n hx hb dX1_step_28 rfl (lv_at hl 0 rfl) ?_
      have hFc := va_free (wc := MW am ym (0, ct, th, fo, sg, sz, hc, fL, fN, fD, fH, fV, fM, fW)) hD hS hA [0, 1, 2, 3, 4, 5, 6, 7] rfl
      refine va_calli (va_runV (As := []) (rest := []) ⟨hx, hb, hml, hown, hw⟩ (n_follow l dC dI am ym H.size 0 ct th fo sg sz hc fL fN fD fH fV fM fW n hn ect d hd esz hR hC K ans hKa) (cwV 0 hw (gw_V wb_347 wb_349 wbs_10 wb_2 wb_350) rfl rfl rfl (by decide +kernel) ⟨Nat.le_of_ble_eq_true rfl, Nat.le_of_ble_eq_true rfl⟩) ⟨blind_preM, va_recv hK hP (ci := 1) (q0 := 0) rfl rfl, fun U hU hW => ⟨rfl, by rw [hU], by rw [hU]; exact hP, va_K.moved hW.alike hK, hD.weaken (fun _ _ _ _ => trivial)⟩⟩ rfl rfl hl.1 rfl (lv_room (Nat.le_of_ble_eq_true rfl)) dX1_step_29 ⟨Nat.le_of_ble_eq_true rfl, Nat.le_of_ble_eq_true rfl⟩) hS (fun q _ h => hFc q h) hFc (fun r1 u t H1 locs ht hvm hq hB hz1 hk1 hS => ?_)
      obtain ⟨hr1, f1, rfl⟩ := hq
      obtain ⟨hP1, hK1, hD1⟩ := hB
      rw [ht] at hP1
      have hP : va_P (dC, dI) cls2 (MW am ym (0, ct, th, fo, sg, sz, hc, fL, fN, fD, fH, f1, fM, fW)) H1 := hP1
      have hD : va_D A (MW am ym (0, ct, th, fo, sg, sz, hc, fL, fN, fD, fH, f1, fM, fW)) := hD1.weaken (fun k q h _ => hFc q.1 (hD1.2 k q h))
      generalize H1 = H at hP hS ⊢
      have hr1 : r1 = ans := hr1
      refine lv_bipush (v := 17) hx hb dX1_step_32 (by decide) ?_
      refine lv_icmp_ne (tgt := 44) hx hb dX1_step_34 (by decide) (fun c2 => ?_) (fun c2 => ?_)
      · skip
        refine lv_iconst (v := (-1)) hx hb dX1_step_44 (by decide) ?_
        exact W.iret (v := (-1)) hx hb hrt (fun t ht hW => ⟨⟨_, _, rfl, Or.inr ⟨fun h => c2 (hr1.trans h), rfl, f1, rfl⟩, by rw [ht]; exact hP, va_K.moved hW.alike hK, hD⟩, hS.F ht⟩) hS.2.2 dX1_step_45
      · skip
        refine lv_aload_n hx hb dX1_step_37 rfl (lv_at hl 0 rfl) ?_
        have hFc := va_free (wc := MW am ym (0, ct, th, fo, sg, sz, hc, fL, fN, fD, fH, f1, fM, fW)) hD hS hA [0, 1, 2, 3, 4, 5, 6, 7] rfl
        refine va_calli (va_runV (As := []) (rest := []) ⟨hx, hb, hml, hown, hw⟩ (n_accept l dC dI am ym H.size 0 ct th fo sg sz hc fL fN fD fH f1 fM fW n hn ect d hd esz hR) (cwV 0 hw (gw_V wb_367 wb_369 wbs_15 wb_2 wb_370) rfl rfl rfl (by decide +kernel) ⟨Nat.le_of_ble_eq_true rfl, Nat.le_of_ble_eq_true rfl⟩) ⟨blind_preM, va_recv hK hP (ci := 1) (q0 := 0) rfl rfl, fun U hU hW => ⟨rfl, by rw [hU], by rw [hU]; exact hP, va_K.moved hW.alike hK, hD.weaken (fun _ _ _ _ => trivial)⟩⟩ rfl rfl hl.1 rfl (lv_room (Nat.le_of_ble_eq_true rfl)) dX1_step_38 ⟨Nat.le_of_ble_eq_true rfl, Nat.le_of_ble_eq_true rfl⟩) hS (fun q _ h => hFc q h) hFc (fun r2 u t H1 locs ht hvm hq hB hz1 hk1 hS => ?_)
        obtain ⟨hr2, rfl⟩ := hq
        obtain ⟨hP1, hK1, hD1⟩ := hB
        rw [ht] at hP1
        have hP : va_P (dC, dI) cls2 (MW am ym (0, ct + 1, th + 1, fo + 1, sg + (if ac_it (fun j => ti_it fD fW (nI j) d 0 0) fM 1024 0 1 = 0 then 1 else 0), 0, hc, ad_it fD n d 0 fL, upd fN n sz, fD, fH, f1, fM, fW)) H1 := hP1
        have hD : va_D A (MW am ym (0, ct + 1, th + 1, fo + 1, sg + (if ac_it (fun j => ti_it fD fW (nI j) d 0 0) fM 1024 0 1 = 0 then 1 else 0), 0, hc, ad_it fD n d 0 fL, upd fN n sz, fD, fH, f1, fM, fW)) := hD1.weaken (fun k q h _ => hFc q.1 (hD1.2 k q h))
        generalize H1 = H at hP hS ⊢
        refine lv_goto (tgt := 45) hx hb dX1_step_41 (by decide) ?_
        exact W.iret (v := r2) hx hb hrt (fun t ht hW => ⟨⟨_, _, rfl, Or.inl ⟨hr1.symm.trans c2, hr2, f1, rfl⟩, by rw [ht]; exact hP, va_K.moved hW.alike hK, hD⟩, hS.F ht⟩) hS.2.2 dX1_step_45
    · skip
      exact absurd (by decide) c9
  · skip
    exact absurd ((nI_eq (a := n) (b := 600) (by omega) (by decide)).mp (by rw [← ect]; exact c1)) (by omega)
set_option maxHeartbeats 4000000 in
set_option maxRecDepth 100000 in
/-- isOver -/
theorem n_isOver (l : Launch) (dC : Nat → ClassId) (dI : Nat → Nat → Nat) (am : Nat → Nat) (ym : Nat → ClassId) (sz0 : Nat) (co ct th fo sg sz hc : Int32) (fL fN fD fH fV : Nat → Int32) (fM fW : Nat → Int64)  (n : Nat) (hn : n < 600) (ect : ct = nI n) : Met l yX1_isOver wsX1_isOver (rmN 0 0 0) (va_Pc [.ref (am 0)] (preM dC dI am ym sz0 (co, ct, th, fo, sg, sz, hc, fL, fN, fD, fH, fV, fM, fW))) (va_Qi (fun (r : Int32) (u : MS) => r = io_it fN n 0 0 ∧ u = (0, ct, th, fo, sg, sz, hc, fL, fN, fD, fH, fV, fM, fW)) (atM dC dI (va_A (MW am ym (co, ct, th, fo, sg, sz, hc, fL, fN, fD, fH, fV, fM, fW)) sz0) am ym) (va_A (MW am ym (co, ct, th, fo, sg, sz, hc, fL, fN, fD, fH, fV, fM, fW)) sz0)) 0 0 (va_A (MW am ym (co, ct, th, fo, sg, sz, hc, fL, fN, fD, fH, fV, fM, fW)) sz0) := by
  refine Met.ofW (cc := cX1_isOver) (maxL := 3) (ret := (some .boolean)) (by decide) rfl ?_
  intro p e s m args below meth c s₁ B hml hv
  obtain ⟨rfl, hsz, hP, hK, hD0⟩ := hv
  have hx := B.exec
  have hb := B.bytes
  have hrt := B.returns
  have hlocks := B.notSynchronized
  have hts := atoms_spec (ws := wsX1_isOver) B.pre
  have hw : ∀ w ∈ WB, w.before ([.ref (am 0)] : List Value).toArray s = true := fun w h => hts w (List.mem_cons_of_mem _ h)
  have hown : s.vm.findClass "ProofBenchModel" = some m.cls := findClass_of_methodNamed B.named
  subst hsz
  have hD := hD0.self (sz := s.heap.size)
  generalize hAe : va_A (MW am ym (co, ct, th, fo, sg, sz, hc, fL, fN, fD, fH, fV, fM, fW)) s.heap.size = A at hD ⊢
  have hA : ∀ q : Nat, s.heap.size ≤ q → A q := fun q h => by rw [← hAe]; exact Or.inr h
  have hS : va_S A s.heap s.heap [] := va_S.rf
  have hP : va_P (dC, dI) cls2 (MW am ym (co, ct, th, fo, sg, sz, hc, fL, fN, fD, fH, fV, fM, fW)) s.heap := hP
  have hl := lv_entry ([.ref (am 0)]) (n := 3) (Nat.le_of_ble_eq_true rfl)
  rw [lg_entry_eq]
  generalize (lg_sl ([.ref (am 0)]) ++ List.replicate (3 - (lg_sl ([.ref (am 0)])).length) Slot.unset).toArray = ls at hl ⊢
  have hl : lv_has ls 3 [(0, .ref (am 0))] := hl
  refine lv_aload_n hx hb dX1_isOver_0 rfl (lv_at hl 0 rfl) ?_
  refine lv_iconst (v := 0) hx hb dX1_isOver_1 (by decide) ?_
  refine va_put (D := (dC, dI)) (ci := 1) (v := .int 0) (ty := .int) (C := RX1) (T := TX1) (N := 14) hx hb hw inX1 tyX1 tyX1_ok nmX1 hown hK hP hD hS 0 rfl rfl 0 (by decide) (hw _ wb_268) (fun _ h9 => h9) rfl (by decide +kernel) rfl rfl (Nat.le_of_ble_eq_true rfl) dX1_isOver_2 (fun H locs hP hD hS => ?_)
  have hP : va_P (dC, dI) cls2 (MW am ym (0, ct, th, fo, sg, sz, hc, fL, fN, fD, fH, fV, fM, fW)) H := hP
  have hD : va_D A (MW am ym (0, ct, th, fo, sg, sz, hc, fL, fN, fD, fH, fV, fM, fW)) := hD
  refine lv_iconst (v := 0) hx hb dX1_isOver_5 (by decide) ?_
  refine lv_istore_n (lv' := [(1, .int 0), (0, .ref (am 0))]) hx hb dX1_isOver_6 rfl hl (by decide) rfl (fun ls hl => ?_)
  refine lv_iconst (v := 0) hx hb dX1_isOver_7 (by decide) ?_
  refine lv_istore_n (lv' := [(2, .int 0), (1, .int 0), (0, .ref (am 0))]) hx hb dX1_isOver_8 rfl hl (by decide) rfl (fun ls hl => ?_)
  have loop : ∀ (a i : Nat) (g : Int32), i + a = n → (g = 0 ∨ g = 1) → io_it fN n 0 0 = io_it fN a i g → ∀ ls, lv_has ls 3 [(2, .int (nI i)), (1, .int g), (0, .ref (am 0))] → W p l e (headSpec wsX1_isOver (rmN 0 0 0)).room s m ([.ref (am 0)] : List Value).toArray below meth c H locs 0 0 (MQ below (va_Qi (fun (r : Int32) (u : MS) => r = io_it fN n 0 0 ∧ u = (0, ct, th, fo, sg, sz, hc, fL, fN, fD, fH, fV, fM, fW)) (atM dC dI A am ym) A) ([.ref (am 0)] : List Value).toArray s 0 0 A) (F0 m 9 ls []) := by
    intro a
    induction a with
    | zero =>
      intro i g hk hg hq ls hl
      have e0 : i = n := by omega
      refine lv_iload_n hx hb dX1_isOver_9 rfl (lv_at hl 0 rfl) ?_
      refine lv_aload_n hx hb dX1_isOver_10 rfl (lv_at hl 2 rfl) ?_
      refine va_get (D := (dC, dI)) (ci := 1) (v := .int ct) (C := RX1) (T := TX1) (N := 14) hx hb hw inX1 hown hK hP 0 rfl rfl 1 (by decide) (hw _ wb_269) (fun _ h9 => h9) rfl dX1_isOver_11 ?_
      refine lv_icmp_ge (tgt := 42) hx hb dX1_isOver_14 (by decide) (fun c1 => ?_) (fun c1 => ?_)
      · skip
        refine lv_iload_n hx hb dX1_isOver_42 rfl (lv_at hl 1 rfl) ?_
        exact W.zret (v := g) hx hb hrt (n_bool hg) (fun t ht hW => ⟨⟨_, _, rfl, ⟨hq.symm, rfl⟩, by rw [ht]; exact hP, va_K.moved hW.alike hK, hD⟩, hS.F ht⟩) hS.2.2 dX1_isOver_43
      · skip
        exact absurd (by rw [ect, e0]; exact Int32.le_refl _) c1
    | succ a ih =>
      intro i g hk hg hq ls hl
      have ci : (nI i).toNatClampNeg = i := nI_clamp (by omega)
      refine lv_iload_n hx hb dX1_isOver_9 rfl (lv_at hl 0 rfl) ?_
      refine lv_aload_n hx hb dX1_isOver_10 rfl (lv_at hl 2 rfl) ?_
      refine va_get (D := (dC, dI)) (ci := 1) (v := .int ct) (C := RX1) (T := TX1) (N := 14) hx hb hw inX1 hown hK hP 0 rfl rfl 1 (by decide) (hw _ wb_269) (fun _ h9 => h9) rfl dX1_isOver_11 ?_
      refine lv_icmp_ge (tgt := 42) hx hb dX1_isOver_14 (by decide) (fun c1 => ?_) (fun c1 => ?_)
      · skip
        exact absurd (by rw [ect] at c1; exact c1) (nI_ge (by omega) (by omega))
      · skip
        refine lv_iload_n hx hb dX1_isOver_17 rfl (lv_at hl 1 rfl) ?_
        refine lv_if_ne (tgt := 30) hx hb dX1_isOver_18 (by decide) (fun c2 => ?_) (fun c2 => ?_)
        · skip
          have es : io_it fN (a + 1) i g = io_it fN a (i + 1) 1 := by rw [io_it, if_pos (Or.inl c2)]
          refine lv_iconst (v := 1) hx hb dX1_isOver_30 (by decide) ?_
          refine lv_goto (tgt := 35) hx hb dX1_isOver_31 (by decide) ?_
          refine lv_istore_n (lv' := [(1, .int 1), (2, .int (nI i)), (0, .ref (am 0))]) hx hb dX1_isOver_35 rfl hl (by decide) rfl (fun ls hl => ?_)
          refine lv_iinc (v := (nI i) + 1) (lv' := [(2, .int ((nI i) + 1)), (1, .int 1), (0, .ref (am 0))]) hx hb dX1_isOver_36 hl (k := 1) rfl rfl (by decide) rfl (fun ls hl => ?_)
          refine lv_goto (tgt := 9) hx hb dX1_isOver_39 (by decide) ?_
          rw [nI_1] at hl
          exact ih (i + 1) 1 (by omega) (Or.inr rfl) (hq.trans es) ls (lv_sub hl [0, 1, 2] rfl)
        · skip
          refine lv_aload_n hx hb dX1_isOver_21 rfl (lv_at hl 2 rfl) ?_
          refine va_get (D := (dC, dI)) (ci := 1) (v := .ref (am 2)) (C := RX1) (T := TX1) (N := 14) hx hb hw inX1 hown hK hP 0 rfl rfl 6 (by decide) (hw _ wb_274) (fun _ h9 => h9) rfl dX1_isOver_22 ?_
          refine lv_iload_n hx hb dX1_isOver_25 rfl (lv_at hl 0 rfl) ?_
          refine va_iald hx hb hK hP 2 1 rfl rfl (vp_in_nI (by omega) (by decide)) dX1_isOver_26 ?_
          rw [ci]
          refine lv_if_ne (tgt := 34) hx hb dX1_isOver_27 (by decide) (fun c3 => ?_) (fun c3 => ?_)
          · skip
            have es : io_it fN (a + 1) i g = io_it fN a (i + 1) 0 := by rw [io_it, if_neg (fun h => h.elim (fun h => h c2) c3)]
            refine lv_iconst (v := 0) hx hb dX1_isOver_34 (by decide) ?_
            refine lv_istore_n (lv' := [(1, .int 0), (2, .int (nI i)), (0, .ref (am 0))]) hx hb dX1_isOver_35 rfl hl (by decide) rfl (fun ls hl => ?_)
            refine lv_iinc (v := (nI i) + 1) (lv' := [(2, .int ((nI i) + 1)), (1, .int 0), (0, .ref (am 0))]) hx hb dX1_isOver_36 hl (k := 1) rfl rfl (by decide) rfl (fun ls hl => ?_)
            refine lv_goto (tgt := 9) hx hb dX1_isOver_39 (by decide) ?_
            rw [nI_1] at hl
            exact ih (i + 1) 0 (by omega) (Or.inl rfl) (hq.trans es) ls (lv_sub hl [0, 1, 2] rfl)
          · skip
            have es : io_it fN (a + 1) i g = io_it fN a (i + 1) 1 := by rw [io_it, if_pos (Or.inr c3)]
            refine lv_iconst (v := 1) hx hb dX1_isOver_30 (by decide) ?_
            refine lv_goto (tgt := 35) hx hb dX1_isOver_31 (by decide) ?_
            refine lv_istore_n (lv' := [(1, .int 1), (2, .int (nI i)), (0, .ref (am 0))]) hx hb dX1_isOver_35 rfl hl (by decide) rfl (fun ls hl => ?_)
            refine lv_iinc (v := (nI i) + 1) (lv' := [(2, .int ((nI i) + 1)), (1, .int 1), (0, .ref (am 0))]) hx hb dX1_isOver_36 hl (k := 1) rfl rfl (by decide) rfl (fun ls hl => ?_)
            refine lv_goto (tgt := 9) hx hb dX1_isOver_39 (by decide) ?_
            rw [nI_1] at hl
            exact ih (i + 1) 1 (by omega) (Or.inr rfl) (hq.trans es) ls (lv_sub hl [0, 1, 2] rfl)
  exact loop n 0 0 (by omega) (Or.inl rfl) rfl ls hl
set_option maxHeartbeats 4000000 in
set_option maxRecDepth 100000 in
/-- along -/
theorem n_along (l : Launch) (dC : Nat → ClassId) (dI : Nat → Nat → Nat) (am : Nat → Nat) (ym : Nat → ClassId) (sz0 : Nat) (co ct th fo sg sz hc : Int32) (fL fN fD fH fV : Nat → Int32) (fM fW : Nat → Int64)  (n : Nat) (hn : n < 600) (ect : ct = nI n) (d : Nat) (hd : d ≤ 16) (esz : sz = nI d) (hR : ∀ j, j < d → rng (fD j)) (hC : cl_ok n fL fN) (q : Nat) (ehc : hc = nI q) (hq40 : q ≤ 40) : Met l yX1_along wsX1_along (rmN 3 0 0) (va_Pc [.ref (am 0)] (preM dC dI am ym sz0 (co, ct, th, fo, sg, sz, hc, fL, fN, fD, fH, fV, fM, fW))) (va_Qi (fun (r : Int32) (u : MS) => (al_it ct hc fL fN fH q 0 (so_it fD d 0 (zv_it 17 0 fV)) = none ∧ r = ct + 1 - 1 ∧ ∃ f : Nat → Int32, u = ad_S n d (0, ct, th, fo + 1, sg + (if ac_it (fun j => ti_it fD fW (nI j) d 0 0) fM 1024 0 1 = 0 then 1 else 0), sz, 0, fL, fN, fD, fH, f, fM, fW)) ∨ (∃ ans : Int32, al_it ct hc fL fN fH q 0 (so_it fD d 0 (zv_it 17 0 fV)) = some ans ∧ r = ans ∧ ∃ f : Nat → Int32, u = (0, ct, th, fo, sg, sz, hc, fL, fN, fD, fH, f, fM, fW))) (atM dC dI (va_A (MW am ym (co, ct, th, fo, sg, sz, hc, fL, fN, fD, fH, fV, fM, fW)) sz0) am ym) (va_A (MW am ym (co, ct, th, fo, sg, sz, hc, fL, fN, fD, fH, fV, fM, fW)) sz0)) 0 0 (va_A (MW am ym (co, ct, th, fo, sg, sz, hc, fL, fN, fD, fH, fV, fM, fW)) sz0) := by
  refine Met.ofW (cc := cX1_along) (maxL := 3) (ret := (some .int)) (by decide) rfl ?_
  intro p e s m args below meth c s₁ B hml hv
  obtain ⟨rfl, hsz, hP, hK, hD0⟩ := hv
  have hx := B.exec
  have hb := B.bytes
  have hrt := B.returns
  have hlocks := B.notSynchronized
  have hts := atoms_spec (ws := wsX1_along) B.pre
  have hw : ∀ w ∈ WB, w.before ([.ref (am 0)] : List Value).toArray s = true := fun w h => hts w (List.mem_cons_of_mem _ h)
  have hown : s.vm.findClass "ProofBenchModel" = some m.cls := findClass_of_methodNamed B.named
  subst hsz
  have hD := hD0.self (sz := s.heap.size)
  generalize hAe : va_A (MW am ym (co, ct, th, fo, sg, sz, hc, fL, fN, fD, fH, fV, fM, fW)) s.heap.size = A at hD ⊢
  have hA : ∀ q : Nat, s.heap.size ≤ q → A q := fun q h => by rw [← hAe]; exact Or.inr h
  have hS : va_S A s.heap s.heap [] := va_S.rf
  have hP : va_P (dC, dI) cls2 (MW am ym (co, ct, th, fo, sg, sz, hc, fL, fN, fD, fH, fV, fM, fW)) s.heap := hP
  have hl := lv_entry ([.ref (am 0)]) (n := 3) (Nat.le_of_ble_eq_true rfl)
  rw [lg_entry_eq]
  generalize (lg_sl ([.ref (am 0)]) ++ List.replicate (3 - (lg_sl ([.ref (am 0)])).length) Slot.unset).toArray = ls at hl ⊢
  have hl : lv_has ls 3 [(0, .ref (am 0))] := hl
  have loop : ∀ (a i : Nat) (f : Nat → Int32) (H : Heap) (locs : List Loc), i + a = q → al_it ct hc fL fN fH q 0 (so_it fD d 0 (zv_it 17 0 fV)) = al_it ct hc fL fN fH a i f → va_P (dC, dI) cls2 (MW am ym (0, ct, th, fo, sg, sz, hc, fL, fN, fD, fH, f, fM, fW)) H → va_D A (MW am ym (0, ct, th, fo, sg, sz, hc, fL, fN, fD, fH, f, fM, fW)) → va_S A s.heap H locs → ∀ ls, lv_has ls 3 [(1, .int (nI i)), (0, .ref (am 0))] → W p l e (headSpec wsX1_along (rmN 3 0 0)).room s m ([.ref (am 0)] : List Value).toArray below meth c H locs 0 0 (MQ below (va_Qi (fun (r : Int32) (u : MS) => (al_it ct hc fL fN fH q 0 (so_it fD d 0 (zv_it 17 0 fV)) = none ∧ r = ct + 1 - 1 ∧ ∃ f : Nat → Int32, u = ad_S n d (0, ct, th, fo + 1, sg + (if ac_it (fun j => ti_it fD fW (nI j) d 0 0) fM 1024 0 1 = 0 then 1 else 0), sz, 0, fL, fN, fD, fH, f, fM, fW)) ∨ (∃ ans : Int32, al_it ct hc fL fN fH q 0 (so_it fD d 0 (zv_it 17 0 fV)) = some ans ∧ r = ans ∧ ∃ f : Nat → Int32, u = (0, ct, th, fo, sg, sz, hc, fL, fN, fD, fH, f, fM, fW))) (atM dC dI A am ym) A) ([.ref (am 0)] : List Value).toArray s 0 0 A) (F0 m 34 ls []) := by
    intro a
    induction a with
    | zero =>
      intro i f H locs hk hq hP hD hS ls hl
      have e0 : i = q := by omega
      refine lv_iload_n hx hb dX1_along_34 rfl (lv_at hl 0 rfl) ?_
      refine lv_aload_n hx hb dX1_along_35 rfl (lv_at hl 1 rfl) ?_
      refine va_get (D := (dC, dI)) (ci := 1) (v := .int hc) (C := RX1) (T := TX1) (N := 14) hx hb hw inX1 hown hK hP 0 rfl rfl 9 (by decide) (hw _ wb_277) (fun _ h9 => h9) rfl dX1_along_36 ?_
      refine lv_icmp_ge (tgt := 121) hx hb dX1_along_39 (by decide) (fun c1 => ?_) (fun c1 => ?_)
      · skip
        refine lv_iconst (v := (-1)) hx hb dX1_along_121 (by decide) ?_
        refine lv_aload_n hx hb dX1_along_122 rfl (lv_at hl 1 rfl) ?_
        refine va_get (D := (dC, dI)) (ci := 1) (v := .int hc) (C := RX1) (T := TX1) (N := 14) hx hb hw inX1 hown hK hP 0 rfl rfl 9 (by decide) (hw _ wb_277) (fun _ h9 => h9) rfl dX1_along_123 ?_
        refine lv_isub hx hb dX1_along_126 ?_
        exact W.iret (v := (-1) - hc) hx hb hrt (fun t ht hW => ⟨⟨_, _, rfl, Or.inr ⟨_, hq, rfl, f, rfl⟩, by rw [ht]; exact hP, va_K.moved hW.alike hK, hD⟩, hS.F ht⟩) hS.2.2 dX1_along_127
      · skip
        exact absurd (by rw [ehc, e0]; exact Int32.le_refl _) c1
    | succ a ih =>
      intro i f H locs hk hq hP hD hS ls hl
      have ci : (nI i).toNatClampNeg = i := nI_clamp (by omega)
      have hin : vp_in (nI i) 40 := vp_in_nI (by omega) (by decide)
      rw [al_it] at hq
      refine lv_iload_n hx hb dX1_along_34 rfl (lv_at hl 0 rfl) ?_
      refine lv_aload_n hx hb dX1_along_35 rfl (lv_at hl 1 rfl) ?_
      refine va_get (D := (dC, dI)) (ci := 1) (v := .int hc) (C := RX1) (T := TX1) (N := 14) hx hb hw inX1 hown hK hP 0 rfl rfl 9 (by decide) (hw _ wb_277) (fun _ h9 => h9) rfl dX1_along_36 ?_
      refine lv_icmp_ge (tgt := 121) hx hb dX1_along_39 (by decide) (fun c1 => ?_) (fun c1 => ?_)
      · skip
        exact absurd (by rw [ehc] at c1; exact c1) (nI_ge (by omega) (by omega))
      · skip
        refine lv_aload_n hx hb dX1_along_42 rfl (lv_at hl 1 rfl) ?_
        refine lv_aload_n hx hb dX1_along_43 rfl (lv_at hl 1 rfl) ?_
        refine va_get (D := (dC, dI)) (ci := 1) (v := .ref (am 4)) (C := RX1) (T := TX1) (N := 14) hx hb hw inX1 hown hK hP 0 rfl rfl 10 (by decide) (hw _ wb_278) (fun _ h9 => h9) rfl dX1_along_44 ?_
        refine lv_iload_n hx hb dX1_along_47 rfl (lv_at hl 0 rfl) ?_
        refine va_iald hx hb hK hP 4 3 rfl rfl hin dX1_along_48 ?_
        rw [ci]
        refine vp_callSi (W.runV (As := [.int (fH i)]) (rest := []) ⟨hx, hb, hml, hown, hw⟩ (n_isThere l dC dI am ym 0 ct th fo sg sz hc fL fN fD fH f fM fW (fH i) n (Nat.le_of_lt hn) ect) (cwV 1 hw (gw_V wb_375 wb_377 wbs_16 wb_2 wb_378) rfl rfl rfl (by decide +kernel) ⟨Nat.le_of_ble_eq_true rfl, Nat.le_of_ble_eq_true rfl⟩) ⟨blind_rdM, va_recv hK hP (ci := 1) (q0 := 0) rfl rfl, fun U hU hW => ⟨rfl, by rw [hU]; exact hP, va_K.moved hW.alike hK⟩⟩ rfl rfl hl.1 rfl (lv_room (Nat.le_of_ble_eq_true rfl)) dX1_along_49 ⟨Nat.le_of_ble_eq_true rfl, Nat.le_of_ble_eq_true rfl⟩) (fun r1 hr1 => ?_)
        subst hr1
        refine lv_if_eq (tgt := 68) hx hb dX1_along_52 (by decide) (fun c2 => ?_) (fun c2 => ?_)
        · skip
          have es : al_said ct fL fN fH f i = 0 := by rw [al_said, if_pos c2]
          rw [es, if_neg (fun h => absurd h.1 (by decide)), if_pos (Or.inl rfl)] at hq
          refine lv_iconst (v := 0) hx hb dX1_along_68 (by decide) ?_
          refine lv_istore_n (lv' := [(2, .int 0), (1, .int (nI i)), (0, .ref (am 0))]) hx hb dX1_along_69 rfl hl (by decide) rfl (fun ls hl => ?_)
          refine lv_iload_n hx hb dX1_along_70 rfl (lv_at hl 0 rfl) ?_
          refine lv_bipush (v := 17) hx hb dX1_along_71 (by decide) ?_
          refine lv_icmp_ne (tgt := 96) hx hb dX1_along_73 (by decide) (fun c3 => ?_) (fun c3 => ?_)
          · skip
            refine lv_iload_n hx hb dX1_along_96 rfl (lv_at hl 0 rfl) ?_
            refine lv_if_eq (tgt := 106) hx hb dX1_along_97 (by decide) (fun c4 => ?_) (fun c4 => ?_)
            · skip
              refine lv_iconst (v := (-1)) hx hb dX1_along_106 (by decide) ?_
              refine lv_iload_n hx hb dX1_along_107 rfl (lv_at hl 1 rfl) ?_
              refine lv_isub hx hb dX1_along_108 ?_
              exact W.iret (v := (-1) - (nI i)) hx hb hrt (fun t ht hW => ⟨⟨_, _, rfl, Or.inr ⟨_, hq, rfl, f, rfl⟩, by rw [ht]; exact hP, va_K.moved hW.alike hK, hD⟩, hS.F ht⟩) hS.2.2 dX1_along_109
            · skip
              exact absurd rfl c4
          · skip
            exact absurd c3 (by decide)
        · skip
          obtain ⟨c9, hc9, e9, k9, n9⟩ := mt_ix ect (by omega) c2
          obtain ⟨z, hz, ez, cz, hr⟩ := cl_get hC hc9 n9
          have es : al_said ct fL fN fH f i = sy_of fL fN f c9 := by rw [al_said, if_neg c2, k9]
          rw [es] at hq
          refine lv_aload_n hx hb dX1_along_55 rfl (lv_at hl 1 rfl) ?_
          refine lv_aload_n hx hb dX1_along_56 rfl (lv_at hl 1 rfl) ?_
          refine va_get (D := (dC, dI)) (ci := 1) (v := .ref (am 4)) (C := RX1) (T := TX1) (N := 14) hx hb hw inX1 hown hK hP 0 rfl rfl 10 (by decide) (hw _ wb_278) (fun _ h9 => h9) rfl dX1_along_57 ?_
          refine lv_iload_n hx hb dX1_along_60 rfl (lv_at hl 0 rfl) ?_
          refine va_iald hx hb hK hP 4 3 rfl rfl hin dX1_along_61 ?_
          rw [ci]
          refine vp_callSi (W.runV (As := [.int (fH i)]) (rest := []) ⟨hx, hb, hml, hown, hw⟩ (n_says l dC dI am ym 0 ct th fo sg sz hc fL fN fD fH f fM fW (fH i) c9 (by omega) e9 z hz ez hr) (cwV 1 hw (gw_V wb_359 wb_361 wbs_13 wb_2 wb_362) rfl rfl rfl (by decide +kernel) ⟨Nat.le_of_ble_eq_true rfl, Nat.le_of_ble_eq_true rfl⟩) ⟨blind_rdM, va_recv hK hP (ci := 1) (q0 := 0) rfl rfl, fun U hU hW => ⟨rfl, by rw [hU]; exact hP, va_K.moved hW.alike hK⟩⟩ rfl rfl hl.1 rfl (lv_room (Nat.le_of_ble_eq_true rfl)) dX1_along_62 ⟨Nat.le_of_ble_eq_true rfl, Nat.le_of_ble_eq_true rfl⟩) (fun r2 hr2 => ?_)
          have hr2 : r2 = sy_of fL fN f c9 := by rw [hr2, sy_of, cz]
          subst hr2
          refine lv_goto (tgt := 69) hx hb dX1_along_65 (by decide) ?_
          refine lv_istore_n (lv' := [(2, .int (sy_of fL fN f c9)), (1, .int (nI i)), (0, .ref (am 0))]) hx hb dX1_along_69 rfl hl (by decide) rfl (fun ls hl => ?_)
          refine lv_iload_n hx hb dX1_along_70 rfl (lv_at hl 0 rfl) ?_
          refine lv_bipush (v := 17) hx hb dX1_along_71 (by decide) ?_
          refine lv_icmp_ne (tgt := 96) hx hb dX1_along_73 (by decide) (fun c3 => ?_) (fun c3 => ?_)
          · skip
            rw [if_neg (fun h => c3 h.1)] at hq
            refine lv_iload_n hx hb dX1_along_96 rfl (lv_at hl 0 rfl) ?_
            refine lv_if_eq (tgt := 106) hx hb dX1_along_97 (by decide) (fun c4 => ?_) (fun c4 => ?_)
            · skip
              rw [if_pos (Or.inl c4)] at hq
              refine lv_iconst (v := (-1)) hx hb dX1_along_106 (by decide) ?_
              refine lv_iload_n hx hb dX1_along_107 rfl (lv_at hl 1 rfl) ?_
              refine lv_isub hx hb dX1_along_108 ?_
              exact W.iret (v := (-1) - (nI i)) hx hb hrt (fun t ht hW => ⟨⟨_, _, rfl, Or.inr ⟨_, hq, rfl, f, rfl⟩, by rw [ht]; exact hP, va_K.moved hW.alike hK, hD⟩, hS.F ht⟩) hS.2.2 dX1_along_109
            · skip
              rw [if_neg (fun h => h.elim c4 c3)] at hq
              have hr9 := sy_of_rng (fV := f) hC hc9 n9 c3
              refine lv_iload_n hx hb dX1_along_100 rfl (lv_at hl 0 rfl) ?_
              refine lv_bipush (v := 17) hx hb dX1_along_101 (by decide) ?_
              refine lv_icmp_ne (tgt := 110) hx hb dX1_along_103 (by decide) (fun c5 => ?_) (fun c5 => ?_)
              · skip
                refine lv_aload_n hx hb dX1_along_110 rfl (lv_at hl 2 rfl) ?_
                refine lv_iload_n hx hb dX1_along_111 rfl (lv_at hl 0 rfl) ?_
                have hFc := va_free (wc := MW am ym (0, ct, th, fo, sg, sz, hc, fL, fN, fD, fH, f, fM, fW)) hD hS hA [0, 1, 2, 3, 4, 5, 6, 7] rfl
                refine va_callv (va_runV (As := [.int (sy_of fL fN f c9)]) (rest := []) ⟨hx, hb, hml, hown, hw⟩ (n_tell l dC dI am ym H.size 0 ct th fo sg sz hc fL fN fD fH f fM fW (sy_of fL fN f c9) hr9.1 hr9.2) (cwV 1 hw (gw_V wb_355 wb_357 wbs_12 wb_2 wb_358) rfl rfl rfl (by decide +kernel) ⟨Nat.le_of_ble_eq_true rfl, Nat.le_of_ble_eq_true rfl⟩) ⟨blind_preM, va_recv hK hP (ci := 1) (q0 := 0) rfl rfl, fun U hU hW => ⟨rfl, by rw [hU], by rw [hU]; exact hP, va_K.moved hW.alike hK, hD.weaken (fun _ _ _ _ => trivial)⟩⟩ rfl rfl hl.1 rfl (lv_room (Nat.le_of_ble_eq_true rfl)) dX1_along_112 ⟨Nat.le_of_ble_eq_true rfl, Nat.le_of_ble_eq_true rfl⟩) hS (fun q _ h => hFc q h) hFc (fun u t H1 locs ht hvm hq hB hz1 hk1 hS => ?_)
                obtain rfl := hq
                obtain ⟨hP1, hK1, hD1⟩ := hB
                rw [ht] at hP1
                have hP : va_P (dC, dI) cls2 (MW am ym (0, ct, th, fo, sg, sz, hc, fL, fN, fD, fH, tell_v f (sy_of fL fN f c9), fM, fW)) H1 := hP1
                have hD : va_D A (MW am ym (0, ct, th, fo, sg, sz, hc, fL, fN, fD, fH, tell_v f (sy_of fL fN f c9), fM, fW)) := hD1.weaken (fun k q h _ => hFc q.1 (hD1.2 k q h))
                generalize H1 = H at hP hS ⊢
                refine lv_iinc (v := (nI i) + 1) (lv' := [(1, .int ((nI i) + 1)), (2, .int (sy_of fL fN f c9)), (0, .ref (am 0))]) hx hb dX1_along_115 hl (k := 1) rfl rfl (by decide) rfl (fun ls hl => ?_)
                refine lv_goto (tgt := 34) hx hb dX1_along_118 (by decide) ?_
                rw [nI_1] at hl
                exact ih (i + 1) _ H _ (by omega) hq hP hD hS ls (lv_sub hl [0, 2] rfl)
              · skip
                exact absurd c5 c3
          · skip
            refine lv_iload_n hx hb dX1_along_76 rfl (lv_at hl 1 rfl) ?_
            refine lv_aload_n hx hb dX1_along_77 rfl (lv_at hl 2 rfl) ?_
            refine va_get (D := (dC, dI)) (ci := 1) (v := .int hc) (C := RX1) (T := TX1) (N := 14) hx hb hw inX1 hown hK hP 0 rfl rfl 9 (by decide) (hw _ wb_277) (fun _ h9 => h9) rfl dX1_along_78 ?_
            refine lv_iconst (v := 1) hx hb dX1_along_81 (by decide) ?_
            refine lv_isub hx hb dX1_along_82 ?_
            refine lv_icmp_ne (tgt := 96) hx hb dX1_along_83 (by decide) (fun c4 => ?_) (fun c4 => ?_)
            · skip
              have a0 : ¬ a = 0 := fun h => c4 (by rw [ehc, show q = i + 1 by omega]; exact (nI_pred i).symm)
              rw [if_neg (fun h => a0 h.2), if_pos (Or.inr c3)] at hq
              refine lv_iload_n hx hb dX1_along_96 rfl (lv_at hl 0 rfl) ?_
              refine lv_if_eq (tgt := 106) hx hb dX1_along_97 (by decide) (fun c5 => ?_) (fun c5 => ?_)
              · skip
                exact absurd (c3.symm.trans c5) (by decide)
              · skip
                refine lv_iload_n hx hb dX1_along_100 rfl (lv_at hl 0 rfl) ?_
                refine lv_bipush (v := 17) hx hb dX1_along_101 (by decide) ?_
                refine lv_icmp_ne (tgt := 110) hx hb dX1_along_103 (by decide) (fun c6 => ?_) (fun c6 => ?_)
                · skip
                  exact absurd c3 c6
                · skip
                  refine lv_iconst (v := (-1)) hx hb dX1_along_106 (by decide) ?_
                  refine lv_iload_n hx hb dX1_along_107 rfl (lv_at hl 1 rfl) ?_
                  refine lv_isub hx hb dX1_along_108 ?_
                  exact W.iret (v := (-1) - (nI i)) hx hb hrt (fun t ht hW => ⟨⟨_, _, rfl, Or.inr ⟨_, hq, rfl, f, rfl⟩, by rw [ht]; exact hP, va_K.moved hW.alike hK, hD⟩, hS.F ht⟩) hS.2.2 dX1_along_109
            · skip
              have a0 : a = 0 := by
                have h9 : nI i = nI (q - 1) := by rw [c4, ehc]; exact (by rw [show q = (q - 1) + 1 by omega]; exact nI_pred _)
                have h8 := (nI_eq (by omega) (by omega)).mp h9
                omega
              rw [if_pos ⟨c3, a0⟩] at hq
              refine lv_aload_n hx hb dX1_along_86 rfl (lv_at hl 2 rfl) ?_
              refine lv_iconst (v := 0) hx hb dX1_along_87 (by decide) ?_
              refine va_put (D := (dC, dI)) (ci := 1) (v := .int 0) (ty := .int) (C := RX1) (T := TX1) (N := 14) hx hb hw inX1 tyX1 tyX1_ok nmX1 hown hK hP hD hS 0 rfl rfl 9 (by decide) (hw _ wb_277) (fun _ h9 => h9) rfl (by decide +kernel) rfl rfl (Nat.le_of_ble_eq_true rfl) dX1_along_88 (fun H locs hP hD hS => ?_)
              have hP : va_P (dC, dI) cls2 (MW am ym (0, ct, th, fo, sg, sz, 0, fL, fN, fD, fH, f, fM, fW)) H := hP
              have hD : va_D A (MW am ym (0, ct, th, fo, sg, sz, 0, fL, fN, fD, fH, f, fM, fW)) := hD
              refine lv_aload_n hx hb dX1_along_91 rfl (lv_at hl 2 rfl) ?_
              have hFc := va_free (wc := MW am ym (0, ct, th, fo, sg, sz, 0, fL, fN, fD, fH, f, fM, fW)) hD hS hA [0, 1, 2, 3, 4, 5, 6, 7] rfl
              refine va_calli (va_runV (As := []) (rest := []) ⟨hx, hb, hml, hown, hw⟩ (n_accept l dC dI am ym H.size 0 ct th fo sg sz 0 fL fN fD fH f fM fW n hn ect d hd esz hR) (cwV 0 hw (gw_V wb_367 wb_369 wbs_15 wb_2 wb_370) rfl rfl rfl (by decide +kernel) ⟨Nat.le_of_ble_eq_true rfl, Nat.le_of_ble_eq_true rfl⟩) ⟨blind_preM, va_recv hK hP (ci := 1) (q0 := 0) rfl rfl, fun U hU hW => ⟨rfl, by rw [hU], by rw [hU]; exact hP, va_K.moved hW.alike hK, hD.weaken (fun _ _ _ _ => trivial)⟩⟩ rfl rfl hl.1 rfl (lv_room (Nat.le_of_ble_eq_true rfl)) dX1_along_92 ⟨Nat.le_of_ble_eq_true rfl, Nat.le_of_ble_eq_true rfl⟩) hS (fun q _ h => hFc q h) hFc (fun r3 u t H1 locs ht hvm hq hB hz1 hk1 hS => ?_)
              obtain ⟨hr3, rfl⟩ := hq
              obtain ⟨hP1, hK1, hD1⟩ := hB
              rw [ht] at hP1
              have hP : va_P (dC, dI) cls2 (MW am ym (0, ct + 1, th + 1, fo + 1, sg + (if ac_it (fun j => ti_it fD fW (nI j) d 0 0) fM 1024 0 1 = 0 then 1 else 0), 0, 0, ad_it fD n d 0 fL, upd fN n sz, fD, fH, f, fM, fW)) H1 := hP1
              have hD : va_D A (MW am ym (0, ct + 1, th + 1, fo + 1, sg + (if ac_it (fun j => ti_it fD fW (nI j) d 0 0) fM 1024 0 1 = 0 then 1 else 0), 0, 0, ad_it fD n d 0 fL, upd fN n sz, fD, fH, f, fM, fW)) := hD1.weaken (fun k q h _ => hFc q.1 (hD1.2 k q h))
              generalize H1 = H at hP hS ⊢
              exact W.iret (v := r3) hx hb hrt (fun t ht hW => ⟨⟨_, _, rfl, Or.inl ⟨hq, hr3, f, rfl⟩, by rw [ht]; exact hP, va_K.moved hW.alike hK, hD⟩, hS.F ht⟩) hS.2.2 dX1_along_95
  refine lv_aload_n hx hb dX1_along_0 rfl (lv_at hl 0 rfl) ?_
  refine lv_aload_n hx hb dX1_along_1 rfl (lv_at hl 0 rfl) ?_
  refine va_get (D := (dC, dI)) (ci := 1) (v := .int ct) (C := RX1) (T := TX1) (N := 14) hx hb hw inX1 hown hK hP 0 rfl rfl 1 (by decide) (hw _ wb_269) (fun _ h9 => h9) rfl dX1_along_2 ?_
  refine lv_sipush (v := 600) hx hb dX1_along_5 (by decide) ?_
  refine lv_icmp_ne (tgt := 15) hx hb dX1_along_8 (by decide) (fun c1 => ?_) (fun c1 => ?_)
  · skip
    refine lv_iconst (v := 0) hx hb dX1_along_15 (by decide) ?_
    refine va_put (D := (dC, dI)) (ci := 1) (v := .int 0) (ty := .int) (C := RX1) (T := TX1) (N := 14) hx hb hw inX1 tyX1 tyX1_ok nmX1 hown hK hP hD hS 0 rfl rfl 0 (by decide) (hw _ wb_268) (fun _ h9 => h9) rfl (by decide +kernel) rfl rfl (Nat.le_of_ble_eq_true rfl) dX1_along_16 (fun H locs hP hD hS => ?_)
    have hP : va_P (dC, dI) cls2 (MW am ym (0, ct, th, fo, sg, sz, hc, fL, fN, fD, fH, fV, fM, fW)) H := hP
    have hD : va_D A (MW am ym (0, ct, th, fo, sg, sz, hc, fL, fN, fD, fH, fV, fM, fW)) := hD
    refine lv_aload_n hx hb dX1_along_19 rfl (lv_at hl 0 rfl) ?_
    refine va_get (D := (dC, dI)) (ci := 1) (v := .int 0) (C := RX1) (T := TX1) (N := 14) hx hb hw inX1 hown hK hP 0 rfl rfl 0 (by decide) (hw _ wb_268) (fun _ h9 => h9) rfl dX1_along_20 ?_
    refine lv_if_le (tgt := 28) hx hb dX1_along_23 (by decide) (fun c9 => ?_) (fun c9 => ?_)
    · skip
      refine lv_aload_n hx hb dX1_along_28 rfl (lv_at hl 0 rfl) ?_
      have hFc := va_free (wc := MW am ym (0, ct, th, fo, sg, sz, hc, fL, fN, fD, fH, fV, fM, fW)) hD hS hA [0, 1, 2, 3, 4, 5, 6, 7] rfl
      refine va_callv (va_runV (As := []) (rest := []) ⟨hx, hb, hml, hown, hw⟩ (n_setOut l dC dI am ym H.size 0 ct th fo sg sz hc fL fN fD fH fV fM fW d hd esz hR) (cwV 0 hw (gw_V wb_351 wb_353 wbs_11 wb_2 wb_354) rfl rfl rfl (by decide +kernel) ⟨Nat.le_of_ble_eq_true rfl, Nat.le_of_ble_eq_true rfl⟩) ⟨blind_preM, va_recv hK hP (ci := 1) (q0 := 0) rfl rfl, fun U hU hW => ⟨rfl, by rw [hU], by rw [hU]; exact hP, va_K.moved hW.alike hK, hD.weaken (fun _ _ _ _ => trivial)⟩⟩ rfl rfl hl.1 rfl (lv_room (Nat.le_of_ble_eq_true rfl)) dX1_along_29 ⟨Nat.le_of_ble_eq_true rfl, Nat.le_of_ble_eq_true rfl⟩) hS (fun q _ h => hFc q h) hFc (fun u t H1 locs ht hvm hq hB hz1 hk1 hS => ?_)
      obtain rfl := hq
      obtain ⟨hP1, hK1, hD1⟩ := hB
      rw [ht] at hP1
      have hP : va_P (dC, dI) cls2 (MW am ym (0, ct, th, fo, sg, sz, hc, fL, fN, fD, fH, so_it fD d 0 (zv_it 17 0 fV), fM, fW)) H1 := hP1
      have hD : va_D A (MW am ym (0, ct, th, fo, sg, sz, hc, fL, fN, fD, fH, so_it fD d 0 (zv_it 17 0 fV), fM, fW)) := hD1.weaken (fun k q h _ => hFc q.1 (hD1.2 k q h))
      generalize H1 = H at hP hS ⊢
      refine lv_iconst (v := 0) hx hb dX1_along_32 (by decide) ?_
      refine lv_istore_n (lv' := [(1, .int 0), (0, .ref (am 0))]) hx hb dX1_along_33 rfl hl (by decide) rfl (fun ls hl => ?_)
      exact loop q 0 _ H _ (by omega) rfl hP hD hS ls hl
    · skip
      exact absurd (by decide) c9
  · skip
    exact absurd ((nI_eq (a := n) (b := 600) (by omega) (by decide)).mp (by rw [← ect]; exact c1)) (by omega)
