/-! what is followed follows: so the reference counts no strange clause -/
def b6 (x : Int64) (i : Nat) : Bool := x.toBitVec.getLsbD i
theorem b6_ext {x y : Int64} (h : ∀ i, i < 64 → b6 x i = b6 y i) : x = y := Int64.toBitVec_inj.mp (BitVec.eq_of_getLsbD_eq (fun i hi => h i hi))
theorem b6_or (x y : Int64) (i : Nat) : b6 (x ||| y) i = (b6 x i || b6 y i) := by unfold b6; rw [Int64.toBitVec_or, BitVec.getLsbD_or]
theorem b6_and (x y : Int64) (i : Nat) : b6 (x &&& y) i = (b6 x i && b6 y i) := by unfold b6; rw [Int64.toBitVec_and, BitVec.getLsbD_and]
theorem b6_xor (x y : Int64) (i : Nat) : b6 (x ^^^ y) i = (b6 x i ^^ b6 y i) := by unfold b6; rw [Int64.toBitVec_xor, BitVec.getLsbD_xor]
theorem b6_0 (i : Nat) : b6 0 i = false := BitVec.getLsbD_zero
theorem b6_m1 : ∀ i, i < 64 → b6 (-1) i = true := by decide +kernel
theorem b6_not (x : Int64) {i : Nat} (hi : i < 64) : b6 (x ^^^ (-1)) i = !b6 x i := by rw [b6_xor, b6_m1 i hi]; simp
/-- the value of a literal (by its bit) in place b of row w of the table of all values -/
def vb (fW : Nat → Int64) (w b i : Nat) : Bool := if i < 16 then b6 (tr_v fW (nI (i + 1)) (nI w)) b else !b6 (tr_v fW (nI (i - 15)) (nI w)) b
theorem vb_other (fW : Nat → Int64) (w b : Nat) {i : Nat} (hi : i < 32) : vb fW w b ((i + 16) % 32) = !vb fW w b i := by
  rw [vb, vb]
  rcases Nat.lt_or_ge i 16 with h | h
  · rw [if_neg (show ¬ (i + 16) % 32 < 16 by omega), if_pos h, show (i + 16) % 32 - 15 = i + 1 by omega]
  · rw [if_pos (show (i + 16) % 32 < 16 by omega), if_neg (show ¬ i < 16 by omega), show (i + 16) % 32 + 1 = i - 15 by omega]
    simp
theorem lb_lo : ∀ i, i < 16 → lb i = nI (i + 1) := by decide +kernel
theorem lb_hi : ∀ i, i < 32 → 16 ≤ i → -(lb i) = nI (i - 15) := by decide +kernel
theorem vb_lb (fW : Nat → Int64) (w : Nat) {b i : Nat} (hb : b < 64) (hi : i < 32) : b6 (if 0 < lb i then tr_v fW (lb i) (nI w) else tr_v fW (-(lb i)) (nI w) ^^^ (-1)) b = vb fW w b i := by
  rw [vb]
  rcases Nat.lt_or_ge i 16 with h | h
  · rw [if_pos ((lb_pos i hi).mpr h), if_pos h, lb_lo i h]
  · rw [if_neg (fun z => absurd ((lb_pos i hi).mp z) (by omega)), if_neg (show ¬ i < 16 by omega), lb_hi i hi h, b6_not _ hb]
/-- a set of literals, taken as a clause, is true under val -/
def CT (c : Int32) (val : Nat → Bool) : Prop := ∃ m, m < 32 ∧ bt c m = true ∧ val m = true
theorem ti_bit {fD : Nat → Int32} {fW : Nat → Int64} {w b d : Nat} (hb : b < 64) (hl : ∀ j, j < d → lit (fD j)) : ∀ (a i : Nat) (f : Int64), i + a = d → (b6 (ti_it fD fW (nI w) a i f) b = true ↔ b6 f b = true ∨ ∃ j m, i ≤ j ∧ j < d ∧ m < 32 ∧ fD j = lb m ∧ vb fW w b m = true)
  | 0, i, f, hk => by
    rw [ti_it]
    exact ⟨Or.inl, fun h => h.elim id (fun ⟨j, m, h1, h2, _⟩ => by omega)⟩
  | a + 1, i, f, hk => by
    obtain ⟨m, hm, em⟩ := lit_lb (hl i (by omega))
    rw [ti_it, ti_bit hb hl a (i + 1) _ (by omega), b6_or, em, vb_lb fW w hb hm, Bool.or_eq_true]
    constructor
    · rintro ((h | h) | ⟨j, k, h1, h2, h3⟩)
      · exact Or.inl h
      · exact Or.inr ⟨i, m, Nat.le_refl _, by omega, hm, em, h⟩
      · exact Or.inr ⟨j, k, by omega, h2, h3⟩
    · rintro (h | ⟨j, k, h1, h2, h3, h4, h5⟩)
      · exact Or.inl (Or.inl h)
      · rcases Nat.lt_or_ge i j with q | q
        · exact Or.inr ⟨j, k, q, h2, h3, h4, h5⟩
        · have e : j = i := by omega
          rw [e, em] at h4
          rw [lb_inj hm h3 h4]
          exact Or.inl (Or.inr h5)
theorem ti_CT {fD : Nat → Int32} {fW : Nat → Int64} {w b d : Nat} (hb : b < 64) (hg : gs fD d) : b6 (ti_it fD fW (nI w) d 0 0) b = true ↔ CT (ms_of fD d) (vb fW w b) := by
  rw [ti_bit hb hg.1 d 0 0 (by omega), b6_0]
  constructor
  · rintro (h | ⟨j, m, _, h2, h3, h4, h5⟩)
    · cases h
    · exact ⟨m, h3, (ms_bt h3 hg.1).mpr ⟨j, h2, h4⟩, h5⟩
  · rintro ⟨m, h3, h4, h5⟩
    obtain ⟨j, hj, ej⟩ := (ms_bt h3 hg.1).mp h4
    exact Or.inr ⟨j, m, Nat.zero_le _, hj, h3, ej, h5⟩
section SND
variable {val : Nat → Bool} (hval : ∀ i, i < 32 → val ((i + 16) % 32) = !val i)
theorem snd_told {c f : Int32} (hval : ∀ i, i < 32 → val ((i + 16) % 32) = !val i) (hc : CT c val) (hf : ∀ m, m < 32 → bt f m = true → val m = false) : ¬ mk_rest c f = 0 ∧ ∀ m, m < 32 → bt (f ||| mk_neg (mk_told c f)) m = true → val m = false := by
  obtain ⟨m, hm, h1, h2⟩ := hc
  have hfm : bt f m = false := by
    cases h : bt f m with
    | false => rfl
    | true => rw [hf m hm h] at h2; cases h2
  have hr : bt (mk_rest c f) m = true := by rw [bt_rest _ _ hm, h1, hfm]; rfl
  refine ⟨fun h => (by rw [h, b_0] at hr; cases hr), fun k hk hb => ?_⟩
  rw [b_or, Bool.or_eq_true] at hb
  rcases hb with hb | hb
  · exact hf k hk hb
  · by_cases ht : pb_sz (mk_rest c f) = 1 ∧ mk_rest c f &&& mk_neg f = 0
    · rw [mk_told, if_pos ht] at hb
      obtain ⟨i, hi, ei⟩ := sz_1 ht.1
      rw [ei, bt_lb hi m hm, decide_eq_true_eq] at hr
      rw [ei, neg_lb i hi, bt_lb (by omega) k hk, decide_eq_true_eq] at hb
      rw [hb, hval i hi, ← hr, h2]
      rfl
    · rw [mk_told, if_neg ht, neg_0, b_0] at hb
      cases hb
theorem snd_scan {n : Nat} {fC fT : Nat → Int32} (hval : ∀ i, i < 32 → val ((i + 16) % 32) = !val i) (hc : ∀ c, c < n → CT (fC c) val) : ∀ (a i : Nat) (f : Int32), i + a ≤ n → (∀ m, m < 32 → bt f m = true → val m = false) → ∃ g, tl_scan fC fT a i f = some g ∧ ∀ m, m < 32 → bt g m = true → val m = false
  | 0, i, f, _, hf => ⟨f, rfl, hf⟩
  | a + 1, i, f, hk, hf => by
    rw [tl_scan]
    by_cases ht : fT i = 0
    · rw [if_pos ht]
      exact snd_scan hval hc a (i + 1) f (by omega) hf
    · obtain ⟨h1, h2⟩ := snd_told hval (hc i (by omega)) hf
      rw [if_neg ht, if_neg h1]
      exact snd_scan hval hc a (i + 1) _ (by omega) h2
theorem snd_rounds {n : Nat} {fC fT : Nat → Int32} (hval : ∀ i, i < 32 → val ((i + 16) % 32) = !val i) (hc : ∀ c, c < n → CT (fC c) val) : ∀ (k : Nat) (f : Int32), (∀ m, m < 32 → bt f m = true → val m = false) → ¬ tl_rounds fC fT n k f = none
  | 0, f, _ => fun h => by rw [tl_rounds] at h; cases h
  | k + 1, f, hf => by
    obtain ⟨g, h1, h2⟩ := snd_scan (fT := fT) hval hc n 0 f (by omega) hf
    rw [tl_rounds, h1]
    show ¬ (if g = f then some g else tl_rounds fC fT n k g) = none
    by_cases e : g = f
    · rw [if_pos e]; exact fun h => nomatch h
    · rw [if_neg e]
      exact snd_rounds hval hc k g h2
theorem snd_hints {n q : Nat} {cc : Int32} {fC fT fH : Nat → Int32} (hval : ∀ i, i < 32 → val ((i + 16) % 32) = !val i) (hn : n < 2 ^ 31) (e1 : cc = nI n) (hq : q ≤ 40) (hc : ∀ c, c < n → CT (fC c) val) : ∀ (a i : Nat) (f : Int32), i + a = q → (∀ m, m < 32 → bt f m = true → val m = false) → ¬ bh_scan cc fC fT fH a i f = -1
  | 0, i, f, hk, _ => by rw [bh_scan]; exact nI_m1 (by omega)
  | a + 1, i, f, hk, hf => by
    rw [bh_scan]
    by_cases ht : th_b cc fT (fH i) = 0
    · rw [if_pos ht]; exact nI_m1 (by omega)
    · obtain ⟨c, hc9, _, cc9, _⟩ := th_ix e1 hn ht
      rw [if_neg ht, cc9]
      obtain ⟨h1, h2⟩ := snd_told hval (hc c hc9) hf
      rw [if_neg (fun h => h1 h.2)]
      by_cases h0 : mk_told (fC c) f = 0
      · rw [if_pos h0]; exact nI_m1 (by omega)
      · rw [if_neg h0]
        exact snd_hints hval hn e1 hq hc a (i + 1) _ (by omega) h2
theorem CT_of {dr : Int32} (h : ¬ ∀ m, m < 32 → bt dr m = true → val m = false) : CT dr val := by
  refine Classical.byContradiction fun hn => h fun m hm hb => ?_
  cases hv : val m with
  | false => rfl
  | true => exact absurd ⟨m, hm, hb, hv⟩ hn
end SND
/-- all clauses are true wherever the given ones are -/
def MI (n : Nat) (fC : Nat → Int32) (fM fW : Nat → Int64) : Prop := ∀ w b, w < 1024 → b < 64 → b6 (fM w) b = true → ∀ c, c < n → CT (fC c) (vb fW w b)
theorem ac_1 {ti fM : Nat → Int64} : ∀ (a i : Nat), (∀ w, i ≤ w → w < i + a → fM w = 0 ∨ fM w &&& (ti w ^^^ (-1)) = 0) → ac_it ti fM a i 1 = 1
  | 0, _, _ => rfl
  | a + 1, i, h => by
    rw [ac_it, if_neg (by decide), if_pos (h i (Nat.le_refl _) (by omega))]
    exact ac_1 a (i + 1) (fun w h1 h2 => h w (by omega) (by omega))
/-- a draft that is true wherever the given clauses are isn't strange -/
theorem ac_ok {fD : Nat → Int32} {fM fW : Nat → Int64} {d : Nat} (hg : gs fD d) (h : ∀ w b, w < 1024 → b < 64 → b6 (fM w) b = true → CT (ms_of fD d) (vb fW w b)) : ac_it (fun j => ti_it fD fW (nI j) d 0 0) fM 1024 0 1 = 1 := by
  refine ac_1 1024 0 fun w _ hw => Or.inr (b6_ext fun b hb => ?_)
  rw [b6_and, b6_not _ hb, b6_0]
  cases h1 : b6 (fM w) b with
  | false => rfl
  | true =>
    have h2 := (ti_CT (fW := fW) (w := w) hb hg).mpr (h w b (by omega) hb h1)
    show (true && !b6 (ti_it fD fW (nI w) d 0 0) b) = false
    rw [h2]
    rfl
theorem gm_at {ti : Nat → Int64} : ∀ (a i : Nat) (f : Nat → Int64) (j : Nat), gm_it ti a i f j = if i ≤ j ∧ j < i + a then f j &&& (if f j = 0 then 0 else ti j) else f j
  | 0, i, f, j => by rw [gm_it, if_neg (by omega)]
  | a + 1, i, f, j => by
    rw [gm_it, gm_at a (i + 1)]
    by_cases e : j = i
    · rw [e, if_neg (show ¬ (i + 1 ≤ i ∧ i < i + 1 + a) by omega), pk_uLs, if_pos (show i ≤ i ∧ i < i + (a + 1) by omega)]
    · rw [pk_uLn e]
      by_cases h : i + 1 ≤ j ∧ j < i + 1 + a
      · rw [if_pos h, if_pos (show i ≤ j ∧ j < i + (a + 1) by omega)]
      · rw [if_neg h, if_neg (show ¬ (i ≤ j ∧ j < i + (a + 1)) by omega)]
/-- giving: the table afterwards -/
theorem MI_give {n d : Nat} {fC fC2 fD : Nat → Int32} {fM fW : Nat → Int64} (hg : gs fD d) (h : MI n fC fM fW) (h1 : ∀ c, c < n → fC2 c = fC c) (h2 : fC2 n = ms_of fD d) : MI (n + 1) fC2 (gm_it (fun j => ti_it fD fW (nI j) d 0 0) 1024 0 fM) fW := by
  intro w b hw hb hm c hc
  rw [gm_at, if_pos (by omega), b6_and, Bool.and_eq_true] at hm
  rcases Nat.lt_or_ge c n with q | q
  · rw [h1 c q]
    exact h w b hw hb hm.1 c q
  · rw [show c = n by omega, h2]
    have h3 := hm.2
    by_cases e : fM w = 0
    · rw [if_pos e, b6_0] at h3; cases h3
    · rw [if_neg e] at h3
      exact (ti_CT hb hg).mp h3
theorem MI_acc {n d : Nat} {fC fC2 fD : Nat → Int32} {fM fW : Nat → Int64} (h : MI n fC fM fW) (h1 : ∀ c, c < n → fC2 c = fC c) (h2 : fC2 n = ms_of fD d) (h3 : ∀ w b, w < 1024 → b < 64 → b6 (fM w) b = true → CT (ms_of fD d) (vb fW w b)) : MI (n + 1) fC2 fM fW := by
  intro w b hw hb hm c hc
  rcases Nat.lt_or_ge c n with q | q
  · rw [h1 c q]
    exact h w b hw hb hm c q
  · rw [show c = n by omega, h2]
    exact h3 w b hw hb hm
theorem snd_step {n : Nat} {fC fT : Nat → Int32} {fM fW : Nat → Int64} {dr : Int32} (h : MI n fC fM fW) (h17 : tl_rounds fC fT n 17 dr = none) : ∀ w b, w < 1024 → b < 64 → b6 (fM w) b = true → CT dr (vb fW w b) := fun w b hw hb hm =>
  CT_of fun hf => snd_rounds (fun i hi => vb_other fW w b hi) (h w b hw hb hm) 17 dr hf h17
theorem snd_along {n q : Nat} {cc : Int32} {fC fT fH : Nat → Int32} {fM fW : Nat → Int64} {dr : Int32} (hn : n < 2 ^ 31) (e1 : cc = nI n) (hq : q ≤ 40) (h : MI n fC fM fW) (h1 : bh_scan cc fC fT fH q 0 dr = -1) : ∀ w b, w < 1024 → b < 64 → b6 (fM w) b = true → CT dr (vb fW w b) := fun w b hw hb hm =>
  CT_of fun hf => snd_hints (fun i hi => vb_other fW w b hi) hn e1 hq (h w b hw hb hm) q 0 dr (by omega) hf h1
