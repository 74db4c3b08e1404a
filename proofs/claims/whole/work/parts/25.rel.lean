/-! the class and the reference hold the same: what each call does to that -/
def RC (B n d q : Nat) (zl : Nat → Nat) (cc tc fc hc dr : Int32) (dO : Int64) (fC : Nat → Int32) (fO : Nat → Int64) (fT fH : Nat → Int32) (ct th fo sg sz hc2 : Int32) (fL fN fD fH2 : Nat → Int32) (fM fW : Nat → Int64) : Prop :=
  n ≤ B ∧ q ≤ 40 ∧ cc = nI n ∧ ct = nI n ∧ tc = th ∧ fc = fo ∧ hc = nI q ∧ hc2 = nI q ∧ sz = nI d ∧ sg = 0 ∧ gs fD d ∧ dr = ms_of fD d ∧ dO = or_of fD d ∧ (∀ j, j < q → fH j = fH2 j) ∧ CR n zl fC fT fL fN ∧ (∀ c, c < n → fO c = or_of (fun j => fL (16 * c + j)) (zl c)) ∧ MI n fC fM fW
def Rel (B : Nat) (u : XS) (m : MS) : Prop := match u, m with
  | (cc, tc, fc, hc, dr, dO, fC, fO, fT, fH), (_, ct, th, fo, sg, sz, hc2, fL, fN, fD, fH2, _, fM, fW) => ∃ (n d q : Nat) (zl : Nat → Nat), RC B n d q zl cc tc fc hc dr dO fC fO fT fH ct th fo sg sz hc2 fL fN fD fH2 fM fW
section RELS
variable {B n d q : Nat} {zl : Nat → Nat} {cc tc fc hc dr : Int32} {dO : Int64} {fC : Nat → Int32} {fO : Nat → Int64} {fT fH : Nat → Int32} {ct th fo sg sz hc2 : Int32} {fL fN fD fH2 : Nat → Int32} {fM fW : Nat → Int64}
theorem R_up (h : RC B n d q zl cc tc fc hc dr dO fC fO fT fH ct th fo sg sz hc2 fL fN fD fH2 fM fW) : RC (B + 1) n d q zl cc tc fc hc dr dO fC fO fT fH ct th fo sg sz hc2 fL fN fD fH2 fM fW := ⟨Nat.le_succ_of_le h.1, h.2⟩
theorem R_rng (hg : gs fD d) : ∀ j, j < d → rng (fD j) := fun j hj => (hg.1 j hj).2
theorem R_cl (hC : CR n zl fC fT fL fN) : cl_ok n fL fN := fun c hc => by
  obtain ⟨hg, _, hh⟩ := hC c hc
  rcases hh with ⟨_, h2⟩ | ⟨_, h2⟩
  · exact Or.inl (by rw [h2]; decide)
  · exact Or.inr ⟨zl c, gs_16 hg, h2, fun j hj => (hg.1 j hj).2⟩
theorem R_0 : RC 0 0 0 0 (fun _ => 0) 0 0 0 0 0 0 (fun _ => 0) (fun _ => 0) (fun _ => 0) (fun _ => 0) 0 0 0 0 0 0 (fun _ => 0) (fun _ => 0) (fun _ => 0) (fun _ => 0) fM fW :=
  ⟨Nat.le_refl _, Nat.zero_le _, rfl, rfl, rfl, rfl, rfl, rfl, rfl, rfl, ⟨fun j h => absurd h (Nat.not_lt_zero j), fun i j _ h => absurd h (Nat.not_lt_zero j)⟩, rfl, rfl, fun j h => absurd h (Nat.not_lt_zero j), fun c h => absurd h (Nat.not_lt_zero c), fun c h => absurd h (Nat.not_lt_zero c), fun w b _ _ _ c h => absurd h (Nat.not_lt_zero c)⟩
theorem R_lit (h : RC B n d q zl cc tc fc hc dr dO fC fO fT fH ct th fo sg sz hc2 fL fN fD fH2 fM fW) {k : Int32} (hd : d < 16) (hgn : gs (upd fD d k) (d + 1)) : nI (pb_sz (dr ||| mk_bit k)) = sz + 1 ∧ RC (B + 1) n (d + 1) q zl cc tc fc hc (dr ||| mk_bit k) (lt_ord dr dO k) fC fO fT fH ct th fo sg (sz + 1) hc2 fL fN (upd fD sz.toNatClampNeg k) fH2 fM fW := by
  obtain ⟨h1, h2, h3, h4, h5, h6, h7, h8, h9, h10, h11, h12, h13, h14, h15, h16, h17⟩ := h
  have cz : sz.toNatClampNeg = d := by rw [h9]; exact nI_clamp (by omega)
  have em : dr ||| mk_bit k = ms_of (upd fD d k) (d + 1) := by
    rw [ms_of, pk_us, h12, ms_eq (f := upd fD d k) (g := fD) (fun j hj => pk_un (by omega))]
  have eo : lt_ord dr dO k = or_of (upd fD d k) (d + 1) := by
    rw [or_of, pk_us, lt_ord, h12, h13, ms_sz h11, or_eq (f := upd fD d k) (g := fD) (fun j hj => pk_un (by omega))]
  rw [cz]
  exact ⟨by rw [em, ms_sz hgn, h9, nI_1], Nat.le_succ_of_le h1, h2, h3, h4, h5, h6, h7, h8, by rw [h9, nI_1], h10, hgn, em, eo, h14, h15, h16, h17⟩
theorem R_hint (h : RC B n d q zl cc tc fc hc dr dO fC fO fT fH ct th fo sg sz hc2 fL fN fD fH2 fM fW) {k : Int32} (hq : q < 40) : hc + 1 = hc2 + 1 ∧ RC (B + 1) n d (q + 1) zl cc tc fc (hc + 1) dr dO fC fO fT (upd fH hc.toNatClampNeg k) ct th fo sg sz (hc2 + 1) fL fN fD (upd fH2 hc2.toNatClampNeg k) fM fW := by
  obtain ⟨h1, h2, h3, h4, h5, h6, h7, h8, h9, h10, h11, h12, h13, h14, h15, h16, h17⟩ := h
  have c1 : hc.toNatClampNeg = q := by rw [h7]; exact nI_clamp (by omega)
  have c2 : hc2.toNatClampNeg = q := by rw [h8]; exact nI_clamp (by omega)
  rw [c1, c2]
  refine ⟨by rw [h7, h8], Nat.le_succ_of_le h1, by omega, h3, h4, h5, h6, by rw [h7, nI_1], by rw [h8, nI_1], h9, h10, h11, h12, h13, fun j hj => ?_, h15, h16, h17⟩
  by_cases e : j = q
  · rw [e, pk_us, pk_us]
  · rw [pk_un e, pk_un e]; exact h14 j (by omega)
theorem gs_nil (f : Nat → Int32) : gs f 0 := ⟨fun j h => absurd h (Nat.not_lt_zero j), fun i j _ h => absurd h (Nat.not_lt_zero j)⟩
theorem R_clear (h : RC B n d q zl cc tc fc hc dr dO fC fO fT fH ct th fo sg sz hc2 fL fN fD fH2 fM fW) : nI (pb_sz dr) + hc = sz + hc2 ∧ RC (B + 1) n 0 0 zl cc tc fc 0 0 0 fC fO fT fH ct th fo sg 0 0 fL fN fD fH2 fM fW := by
  obtain ⟨h1, h2, h3, h4, h5, h6, h7, h8, h9, h10, h11, h12, h13, h14, h15, h16, h17⟩ := h
  exact ⟨by rw [h12, ms_sz h11, h9, h7, h8], Nat.le_succ_of_le h1, Nat.zero_le _, h3, h4, h5, h6, rfl, rfl, rfl, h10, gs_nil fD, rfl, rfl, fun j h => absurd h (Nat.not_lt_zero j), h15, h16, h17⟩
/-- the draft becomes a clause -/
theorem R_add (h : RC B n d q zl cc tc fc hc dr dO fC fO fT fH ct th fo sg sz hc2 fL fN fD fH2 fM fW) (hn : n < 600) {fc1 fo1 hc1 hc3 sg1 : Int32} {fM1 : Nat → Int64} {q1 : Nat} (ef : fc1 = fo1) (e1 : hc1 = nI q1) (e2 : hc3 = nI q1) (hq1 : q1 ≤ q) (es : sg1 = 0) (hM : ∀ fC2 : Nat → Int32, (∀ c, c < n → fC2 c = fC c) → fC2 n = ms_of fD d → MI (n + 1) fC2 fM1 fW) :
    cc = ct + 1 - 1 ∧ RC (B + 1) (n + 1) 0 q1 (fun c => if c = n then d else zl c) (cc + 1) (tc + 1) fc1 hc1 0 0 (upd fC cc.toNatClampNeg dr) (vp_updL fO cc.toNatClampNeg dO) (upd fT cc.toNatClampNeg (vp_nar .boolean 1)) fH (ct + 1) (th + 1) fo1 sg1 0 hc3 (ad_it fD n d 0 fL) (upd fN n sz) fD fH2 fM1 fW := by
  obtain ⟨h1, h2, h3, h4, h5, h6, h7, h8, h9, h10, h11, h12, h13, h14, h15, h16, h17⟩ := h
  have c1 : cc.toNatClampNeg = n := by rw [h3]; exact nI_clamp (by omega)
  have hd := gs_16 h11
  rw [c1]
  have hrow : ∀ c j, c < n → j < 16 → ad_it fD n d 0 fL (16 * c + j) = fL (16 * c + j) := fun c j hc hj => by rw [ad_at, if_neg (by omega)]
  have hnew : ∀ j, j < d → ad_it fD n d 0 fL (16 * n + j) = fD j := fun j hj => by rw [ad_at, if_pos (by omega), show 16 * n + j - 16 * n = j by omega]
  refine ⟨by rw [h3, h4, nI_1, nI_pred], by omega, by omega, by rw [h3, nI_1], by rw [h4, nI_1], by rw [h5], ef, e1, e2, rfl, es, gs_nil fD, rfl, rfl, fun j hj => h14 j (by omega), fun c hc => ?_, fun c hc => ?_, hM _ (fun c hc => pk_un (by omega)) (by rw [pk_us, h12])⟩
  · by_cases e : c = n
    · subst e
      rw [pk_us, pk_us, pk_us, show (fun x => if x = c then d else zl x) c = d from if_pos rfl]
      exact ⟨gs_eq h11 (fun j hj => (hnew j hj).symm), by rw [h12]; exact ms_eq (fun j hj => (hnew j hj).symm), Or.inr ⟨by decide, h9⟩⟩
    · obtain ⟨g1, g2, g3⟩ := h15 c (by omega)
      have hz := gs_16 g1
      rw [pk_un e, pk_un e, pk_un e, show (fun x => if x = n then d else zl x) c = zl c from if_neg e]
      have hr : ∀ j, j < zl c → fL (16 * c + j) = ad_it fD n d 0 fL (16 * c + j) := fun j hj => (hrow c j (by omega) (by omega)).symm
      exact ⟨gs_eq g1 hr, by rw [g2]; exact ms_eq hr, g3⟩
  · by_cases e : c = n
    · subst e
      rw [pk_uLs, show (fun x => if x = c then d else zl x) c = d from if_pos rfl, h13]
      exact or_eq (fun j hj => (hnew j hj).symm)
    · have hz := gs_16 (h15 c (by omega)).1
      rw [pk_uLn e, show (fun x => if x = n then d else zl x) c = zl c from if_neg e, h16 c (by omega)]
      exact or_eq (fun j hj => (hrow c j (by omega) (by omega)).symm)
theorem R_drop (h : RC B n d q zl cc tc fc hc dr dO fC fO fT fH ct th fo sg sz hc2 fL fN fD fH2 fM fW) (hn : n < 600) {k : Int32} (hk : ¬ th_b cc fT k = 0) : nI (pb_sz (fC k.toNatClampNeg)) = fN k.toNatClampNeg ∧ RC (B + 1) n d q zl cc (tc - 1) fc hc dr dO fC fO (upd fT k.toNatClampNeg (vp_nar .boolean 0)) fH ct (th - 1) fo sg sz hc2 fL (upd fN k.toNatClampNeg (-1)) fD fH2 fM fW := by
  obtain ⟨h1, h2, h3, h4, h5, h6, h7, h8, h9, h10, h11, h12, h13, h14, h15, h16, h17⟩ := h
  obtain ⟨c, hc, ek, ck, ht⟩ := th_ix h3 (by omega) hk
  rw [ck]
  refine ⟨?_, Nat.le_succ_of_le h1, h2, h3, h4, by rw [h5], h6, h7, h8, h9, h10, h11, h12, h13, h14, fun c2 hc2 => ?_, h16, h17⟩
  · obtain ⟨g1, g2, g3⟩ := h15 c hc
    rcases g3 with ⟨g3, _⟩ | ⟨_, g4⟩
    · exact absurd g3 ht
    · rw [g2, ms_sz g1, g4]
  · obtain ⟨g1, g2, g3⟩ := h15 c2 hc2
    refine ⟨g1, g2, ?_⟩
    by_cases e : c2 = c
    · rw [e, pk_us, pk_us]; exact Or.inl ⟨by decide, rfl⟩
    · rw [pk_un e, pk_un e]; exact g3
/-- at(): both answer alike, and the place is in range -/
theorem R_at (h : RC B n d q zl cc tc fc hc dr dO fC fO fT fH ct th fo sg sz hc2 fL fN fD fH2 fM fW) (hn : n < 600) {k i : Int32} (hk : ¬ th_b cc fT k = 0) (hi : ¬ i < 0) : at_val (fC k.toNatClampNeg) (fO k.toNatClampNeg) i = (if i < fN k.toNatClampNeg then fL (16 * k + i).toNatClampNeg else 0) ∧ (i < fN k.toNatClampNeg → vp_in (16 * k + i) 9600) := by
  obtain ⟨h1, h2, h3, h4, h5, h6, h7, h8, h9, h10, h11, h12, h13, h14, h15, h16, h17⟩ := h
  obtain ⟨c, hc, ek, ck, ht⟩ := th_ix h3 (by omega) hk
  obtain ⟨g1, g2, g3⟩ := h15 c hc
  have hz := gs_16 g1
  have eN : fN c = nI (zl c) := by
    rcases g3 with ⟨g3, _⟩ | ⟨_, g4⟩
    · exact absurd g3 ht
    · exact g4
  obtain ⟨j, hj, ej⟩ := nI_of hi
  rw [ck, g2, h16 c hc, ej, at_ok g1 hj, eN]
  have e16 : 16 * k + nI j = nI (16 * c + j) := by rw [ek, show (16 : Int32) = nI 16 from rfl, pk_mul, nI_add]
  rw [e16]
  by_cases hjz : j < zl c
  · rw [if_pos hjz, if_pos (nI_lt hjz (by omega)), nI_clamp (by omega)]
    exact ⟨rfl, fun _ => vp_in_nI (by omega) (by decide)⟩
  · rw [if_neg hjz, if_neg (nI_nlt (by omega) hj)]
    exact ⟨rfl, fun h => absurd h (nI_nlt (by omega) hj)⟩
theorem R_count (h : RC B n d q zl cc tc fc hc dr dO fC fO fT fH ct th fo sg sz hc2 fL fN fD fH2 fM fW) (k : Int32) : cn_val cc tc fc hc dr k = if k = 0 then ct else if k = 1 then th else if k = 2 then fo else if k = 3 then sz else hc2 := by
  obtain ⟨h1, h2, h3, h4, h5, h6, h7, h8, h9, h10, h11, h12, h13, h14, h15, h16, h17⟩ := h
  rw [cn_val, h3, h4, h5, h6, h7, h8, h9, h12, ms_sz h11]
end RELS
