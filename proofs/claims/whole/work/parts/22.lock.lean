/-! the class and the reference follow in step -/
/-- the clauses, as the class and as the reference have them -/
def CR (n : Nat) (zl : Nat → Nat) (fC fT fL fN : Nat → Int32) : Prop := ∀ c, c < n → gs (fun j => fL (16 * c + j)) (zl c) ∧ fC c = ms_of (fun j => fL (16 * c + j)) (zl c) ∧ ((fT c = 0 ∧ fN c = -1) ∨ (fT c = 1 ∧ fN c = nI (zl c)))
theorem CR_sy {n c : Nat} {zl : Nat → Nat} {fC fT fL fN fV : Nat → Int32} {f : Int32} (h : CR n zl fC fT fL fN) (hc : c < n) (hV : VR fV f) (ht : ¬ fT c = 0) : ¬ fN c < 0 ∧ SY (fC c) f (sy_of fL fN fV c) := by
  obtain ⟨hg, hm, hh⟩ := h c hc
  rcases hh with ⟨h1, _⟩ | ⟨_, h2⟩
  · exact absurd h1 ht
  · have hz := gs_16 hg
    have e : (fN c).toNatClampNeg = zl c := by rw [h2]; exact nI_clamp (by omega)
    refine ⟨by rw [h2]; exact nI_pos (by omega), ?_⟩
    rw [sy_of, e, hm]
    exact sy_ok hV (16 * c) (zl c) hg
theorem CR_dead {n c : Nat} {zl : Nat → Nat} {fC fT fL fN : Nat → Int32} (h : CR n zl fC fT fL fN) (hc : c < n) (ht : fT c = 0) : fN c < 0 := by
  rcases (h c hc).2.2 with ⟨_, h2⟩ | ⟨h1, _⟩
  · rw [h2]; decide
  · rw [ht] at h1; exact absurd h1 (by decide)
theorem scan_ok {n : Nat} {zl : Nat → Nat} {fC fT fL fN : Nat → Int32} (hC : CR n zl fC fT fL fN) : ∀ (a i : Nat) (f : Int32) (fV : Nat → Int32) (g b : Int32), i + a = n → VR fV f → (tl_scan fC fT a i f = none ∧ fw_scan fL fN a i fV g b = none) ∨ (∃ (f1 : Int32) (fV1 : Nat → Int32) (t : Nat) (b1 : Int32), tl_scan fC fT a i f = some f1 ∧ fw_scan fL fN a i fV g b = some (fV1, g + nI t, b1) ∧ VR fV1 f1 ∧ pb_sz f1 = pb_sz f + t ∧ ((t = 0 ∧ f1 = f ∧ b1 = b) ∨ (0 < t ∧ b1 = 1))) := by
  intro a
  induction a with
  | zero =>
    intro i f fV g b hk hV
    exact Or.inr ⟨f, fV, 0, b, rfl, by rw [fw_scan, nI_0]; simp, hV, rfl, Or.inl ⟨rfl, rfl, rfl⟩⟩
  | succ a ih =>
    intro i f fV g b hk hV
    rw [tl_scan, fw_scan]
    by_cases ht : fT i = 0
    · rw [if_pos ht, if_pos (CR_dead hC (by omega) ht)]
      exact ih (i + 1) f fV g b (by omega) hV
    · obtain ⟨hn, hsy⟩ := CR_sy hC (show i < n by omega) hV ht
      rw [if_neg ht, if_neg hn]
      rcases hsy with ⟨h0, h17⟩ | ⟨hr, ht0, hs0⟩ | ⟨hr, j, hj, hs, ht1, hf1, hf2, _⟩
      · rw [if_pos h0, if_pos h17]
        exact Or.inl ⟨rfl, rfl⟩
      · rw [if_neg hr, if_neg (by rw [hs0]; decide), if_pos hs0, ht0, neg_0, or_0]
        exact ih (i + 1) f fV g b (by omega) hV
      · rw [if_neg hr, if_neg (by rw [hs]; exact (lb_ne j hj).2), if_neg (by rw [hs]; exact (lb_ne j hj).1), ht1, neg_lb j hj, hs]
        have hV2 := VR_tell hV hj hf1
        have hsz : pb_sz (f ||| mk_bit (lb ((j + 16) % 32))) = pb_sz f + 1 := sz_add (by omega) hf2
        rcases ih (i + 1) _ _ (g + 1) 1 (by omega) hV2 with ⟨h1, h2⟩ | ⟨f1, fV1, t, b1, h1, h2, h3, h4, h5⟩
        · exact Or.inl ⟨h1, h2⟩
        · refine Or.inr ⟨f1, fV1, t + 1, 1, h1, ?_, h3, by omega, Or.inr ⟨by omega, rfl⟩⟩
          have eb : b1 = 1 := by
            rcases h5 with ⟨_, _, h⟩ | ⟨_, h⟩ <;> exact h
          rw [h2, eb, show g + 1 + nI t = g + nI (t + 1) by rw [← nI_1 t, Int32.add_assoc, Int32.add_comm 1]]
theorem rounds_ok {n : Nat} {zl : Nat → Nat} {fC fT fL fN : Nat → Int32} (hC : CR n zl fC fT fL fN) : ∀ (k : Nat) (f : Int32) (fV : Nat → Int32) (g : Int32), VR fV f → 17 ≤ pb_sz f + k → (tl_rounds fC fT n k f = none ∧ fw_it fL fN n k fV g = some 17) ∨ (∃ (f1 : Int32) (t : Nat), tl_rounds fC fT n k f = some f1 ∧ fw_it fL fN n k fV g = some (g + nI t) ∧ pb_sz f1 = pb_sz f + t ∧ pb_sz f1 ≤ 16) := by
  intro k
  induction k with
  | zero =>
    intro f fV g hV hk
    have := sz_cons hV.1
    omega
  | succ k ih =>
    intro f fV g hV hk
    rw [tl_rounds, fw_it]
    rcases scan_ok hC n 0 f fV g 0 (by omega) hV with ⟨h1, h2⟩ | ⟨f1, fV1, t, b1, h1, h2, h3, h4, h5⟩
    · rw [h1, h2]
      exact Or.inl ⟨rfl, rfl⟩
    · rw [h1, h2]
      show (((if f1 = f then some f1 else tl_rounds fC fT n k f1) = none ∧ (if b1 = 0 then some (g + nI t) else fw_it fL fN n k fV1 (g + nI t)) = some 17) ∨ _)
      rcases h5 with ⟨e1, e2, e3⟩ | ⟨e1, e2⟩
      · refine Or.inr ⟨f1, t, ?_, ?_, h4, sz_cons h3.1⟩
        · show (if f1 = f then some f1 else tl_rounds fC fT n k f1) = some f1
          rw [if_pos e2]
        · show (if b1 = 0 then some (g + nI t) else fw_it fL fN n k fV1 (g + nI t)) = some (g + nI t)
          rw [if_pos e3]
      · have hne : ¬ f1 = f := fun h => by rw [h] at h4; omega
        have hb : ¬ b1 = 0 := by rw [e2]; decide
        rw [if_neg hne, if_neg hb]
        rcases ih f1 fV1 (g + nI t) h3 (by omega) with ⟨q1, q2⟩ | ⟨f2, t2, q1, q2, q3, q4⟩
        · exact Or.inl ⟨q1, q2⟩
        · refine Or.inr ⟨f2, t + t2, ?_, ?_, by omega, q4⟩
          · show (if f1 = f then some f1 else tl_rounds fC fT n k f1) = some f2
            rw [if_neg hne]; exact q1
          · show (if b1 = 0 then some (g + nI t) else fw_it fL fN n k fV1 (g + nI t)) = some (g + nI (t + t2))
            rw [if_neg hb, q2, Int32.add_assoc, nI_add]
theorem zv_at : ∀ (a i : Nat) (f : Nat → Int32) (j : Nat), zv_it a i f j = if i ≤ j ∧ j < i + a then 0 else f j
  | 0, i, f, j => by rw [zv_it, if_neg (by omega)]
  | a + 1, i, f, j => by
    rw [zv_it, zv_at a (i + 1)]
    by_cases h : i + 1 ≤ j ∧ j < i + 1 + a
    · rw [if_pos h, if_pos (by omega)]
    · rw [if_neg h]
      by_cases e : j = i
      · rw [e, pk_us, if_pos (by omega)]
      · rw [pk_un e, if_neg (by omega)]
theorem so_ok {fD : Nat → Int32} {d : Nat} (hg : gs fD d) : ∀ (a i : Nat) (f : Nat → Int32), i + a = d → VR f (ms_of fD i) → VR (so_it fD a i f) (ms_of fD d) := by
  intro a
  induction a with
  | zero =>
    intro i f hk hV
    have e : i = d := by omega
    rw [so_it, ← e]
    exact hV
  | succ a ih =>
    intro i f hk hV
    rw [so_it]
    refine ih (i + 1) _ (by omega) ?_
    have hgi : gs fD (i + 1) := gs_le hg (by omega)
    obtain ⟨m, hm, em⟩ := lit_lb (hgi.1 i (Nat.lt_succ_self i))
    have h2 := (gs_new hgi hm em).2
    have h3 := VR_tell hV (show (m + 16) % 32 < 32 by omega) h2
    rw [show ((m + 16) % 32 + 16) % 32 = m by omega] at h3
    rw [ms_of, em, lb_neg m hm]
    exact h3
theorem VR_0 {fD fV : Nat → Int32} {d : Nat} (hg : gs fD d) : VR (so_it fD d 0 (zv_it 17 0 fV)) (ms_of fD d) := by
  refine so_ok hg d 0 _ (by omega) ⟨fun i _ => by rw [ms_of, b_0]; rfl, fun i hi => ?_⟩
  rw [zv_at, if_pos (by omega), ms_of, b_0, b_0]
  rfl
/-- FOLLOWING, by itself -/
theorem follow_ok {n d : Nat} {zl : Nat → Nat} {fC fT fL fN fD : Nat → Int32} (fV : Nat → Int32) (hC : CR n zl fC fT fL fN) (hg : gs fD d) : (tl_rounds fC fT n 17 (ms_of fD d) = none ∧ td_val (tl_rounds fC fT n 17 (ms_of fD d)) (ms_of fD d) = 17 ∧ fw_it fL fN n 17 (so_it fD d 0 (zv_it 17 0 fV)) 0 = some 17) ∨ (∃ t : Nat, t ≤ 16 ∧ td_val (tl_rounds fC fT n 17 (ms_of fD d)) (ms_of fD d) = nI t ∧ fw_it fL fN n 17 (so_it fD d 0 (zv_it 17 0 fV)) 0 = some (nI t)) := by
  rcases rounds_ok hC 17 (ms_of fD d) _ 0 (VR_0 (fV := fV) hg) (by omega) with ⟨h1, h2⟩ | ⟨f1, t, h1, h2, h3, h4⟩
  · exact Or.inl ⟨h1, by rw [h1]; rfl, h2⟩
  · refine Or.inr ⟨t, by omega, ?_, by rw [h2]; simp⟩
    rw [h1]
    show nI (pb_sz f1) - nI (pb_sz (ms_of fD d)) = nI t
    rw [pk_sub (by omega), h3, show pb_sz (ms_of fD d) + t - pb_sz (ms_of fD d) = t by omega]
theorem there_ok {n : Nat} {zl : Nat → Nat} {cc ct : Int32} {fC fT fL fN : Nat → Int32} (hC : CR n zl fC fT fL fN) (hn : n < 2 ^ 31) (e1 : cc = nI n) (e2 : ct = nI n) (k : Int32) : th_b cc fT k = mt_b ct fN k := by
  rw [th_b, mt_b, e1, e2]
  by_cases z : ¬ k < 0 ∧ ¬ nI n ≤ k
  · rcases pk_ix k (n := n) hn with q | q | ⟨j, hj, ej⟩
    · exact absurd q z.1
    · exact absurd q z.2
    · have cj : k.toNatClampNeg = j := by rw [ej]; exact nI_clamp (by omega)
      rw [cj]
      by_cases ht : fT j = 0
      · rw [if_neg (fun h => h.2.2 ht), if_neg (fun h => h.2.2 (CR_dead hC hj ht))]
      · have hnn : ¬ fN j < 0 := by
          rcases (hC j hj).2.2 with ⟨h1, _⟩ | ⟨_, h2⟩
          · exact absurd h1 ht
          · rw [h2]; exact nI_pos (by have := gs_16 (hC j hj).1; omega)
        rw [if_pos ⟨z.1, z.2, ht⟩, if_pos ⟨z.1, z.2, hnn⟩]
  · rw [if_neg (fun h => z ⟨h.1, h.2.1⟩), if_neg (fun h => z ⟨h.1, h.2.1⟩)]
theorem th_ix {cc k : Int32} {fT : Nat → Int32} {n : Nat} (e : cc = nI n) (hn : n < 2 ^ 31) (h : ¬ th_b cc fT k = 0) : ∃ c : Nat, c < n ∧ k = nI c ∧ k.toNatClampNeg = c ∧ ¬ fT c = 0 := by
  by_cases z : ¬ k < 0 ∧ ¬ cc ≤ k ∧ fT k.toNatClampNeg ≠ 0
  · rcases pk_ix k (n := n) hn with q | q | ⟨j, hj, ej⟩
    · exact absurd q z.1
    · exact absurd (by rw [e]; exact q) z.2.1
    · have cj : k.toNatClampNeg = j := by rw [ej]; exact nI_clamp (by omega)
      exact ⟨j, hj, ej, cj, by have := z.2.2; rw [cj] at this; exact this⟩
  · exact absurd (by rw [th_b, if_neg z]) h
theorem nI_m1 {i : Nat} (h : i < 2 ^ 31) : ¬ nI i = -1 := fun e => by
  have := nI_pos h
  rw [e] at this
  exact this (by decide)
theorem told_0 {c f : Int32} (h : mk_rest c f = 0) : mk_told c f = 0 := by
  rw [mk_told, if_neg]
  intro h1
  rw [h] at h1
  exact absurd h1.1 (by rw [pb_sz_0]; decide)
/-- FOLLOWING, along hints -/
theorem along_ok {n q : Nat} {zl : Nat → Nat} {cc ct hc : Int32} {fC fT fL fN fH fH2 : Nat → Int32} (hC : CR n zl fC fT fL fN) (hn : n < 2 ^ 31) (e1 : cc = nI n) (e2 : ct = nI n) (e3 : hc = nI q) (hq : q ≤ 40) (eH : ∀ j, j < q → fH j = fH2 j) : ∀ (a i : Nat) (f : Int32) (fV : Nat → Int32), i + a = q → VR fV f → (bh_scan cc fC fT fH a i f = -1 ∧ al_it ct hc fL fN fH2 a i fV = none) ∨ (¬ bh_scan cc fC fT fH a i f = -1 ∧ al_it ct hc fL fN fH2 a i fV = some (-1 - bh_scan cc fC fT fH a i f)) := by
  intro a
  induction a with
  | zero =>
    intro i f fV hk hV
    have e : i = q := by omega
    rw [bh_scan, al_it]
    exact Or.inr ⟨nI_m1 (by omega), by rw [e3, e]⟩
  | succ a ih =>
    intro i f fV hk hV
    rw [bh_scan, al_it, show al_said ct fL fN fH2 fV i = if th_b cc fT (fH i) = 0 then 0 else sy_of fL fN fV (fH i).toNatClampNeg by rw [al_said, ← eH i (by omega), there_ok hC hn e1 e2]]
    by_cases ht : th_b cc fT (fH i) = 0
    · rw [if_pos ht, if_pos ht, if_neg (fun h => absurd h.1 (by decide)), if_pos (Or.inl rfl)]
      exact Or.inr ⟨nI_m1 (by omega), rfl⟩
    · obtain ⟨c, hc9, ec, cc9, hT9⟩ := th_ix e1 hn ht
      obtain ⟨_, hsy⟩ := CR_sy hC hc9 hV hT9
      rw [if_neg ht, if_neg ht, cc9]
      rcases hsy with ⟨h0, h17⟩ | ⟨hr, ht0, hs0⟩ | ⟨hr, j, hj, hs, ht1, hf1, hf2, _⟩
      · by_cases ha : a = 0
        · rw [if_pos ⟨ha, h0⟩, if_pos ⟨h17, ha⟩]
          exact Or.inl ⟨rfl, rfl⟩
        · rw [if_neg (fun h => ha h.1), if_pos (told_0 h0), if_neg (fun h => ha h.2), if_pos (Or.inr h17)]
          exact Or.inr ⟨nI_m1 (by omega), rfl⟩
      · rw [if_neg (fun h => hr h.2), if_pos ht0, if_neg (fun h => absurd h.1 (by rw [hs0]; decide)), if_pos (Or.inl hs0)]
        exact Or.inr ⟨nI_m1 (by omega), rfl⟩
      · have hn17 : ¬ sy_of fL fN fV c = 17 := by rw [hs]; exact (lb_ne j hj).2
        have hn0 : ¬ sy_of fL fN fV c = 0 := by rw [hs]; exact (lb_ne j hj).1
        rw [if_neg (fun h => hr h.2), if_neg (by rw [ht1]; exact bit_ne j hj), if_neg (fun h => hn17 h.1), if_neg (fun h => h.elim hn0 hn17), ht1, neg_lb j hj, hs]
        exact ih (i + 1) _ _ (by omega) (VR_tell hV hj hf1)
