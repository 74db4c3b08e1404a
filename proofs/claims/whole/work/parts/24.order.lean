/-! the order of a clause's literals, at(); literal(); isOver() -/
def or_of (f : Nat → Int32) : Nat → Int64
  | 0 => 0
  | k + 1 => or_of f k ||| ((lt_abs (f k) - 1).toInt64 <<< ((4 * nI k).toInt64 &&& 63))
theorem or_eq {f g : Nat → Int32} : ∀ {k : Nat}, (∀ j, j < k → f j = g j) → or_of f k = or_of g k
  | 0, _ => rfl
  | k + 1, h => by rw [or_of, or_of, or_eq (fun j hj => h j (Nat.lt_succ_of_lt hj)), h k (Nat.lt_succ_self k)]
def or_N (f : Nat → Int32) : Nat → Nat
  | 0 => 0
  | k + 1 => or_N f k + bi (f k) % 16 * 2 ^ (4 * k)
theorem or_lt {f : Nat → Int32} : ∀ (k : Nat), or_N f k < 2 ^ (4 * k)
  | 0 => by rw [or_N]; decide
  | k + 1 => by
    have h := or_lt (f := f) k
    have h2 : bi (f k) % 16 < 16 := Nat.mod_lt _ (by decide)
    rw [or_N, show 2 ^ (4 * (k + 1)) = 16 * 2 ^ (4 * k) by rw [show 4 * (k + 1) = 4 + 4 * k by omega, Nat.pow_add]]
    have h3 : bi (f k) % 16 * 2 ^ (4 * k) ≤ 15 * 2 ^ (4 * k) := Nat.mul_le_mul_right _ (by omega)
    omega
theorem or_dig {f : Nat → Int32} {i : Nat} : ∀ (z : Nat), i < z → or_N f z / 2 ^ (4 * i) % 16 = bi (f i) % 16
  | 0, h => absurd h (Nat.not_lt_zero i)
  | z + 1, h => by
    rw [or_N]
    rcases Nat.lt_or_ge i z with q | q
    · have e : bi (f z) % 16 * 2 ^ (4 * z) = 2 ^ (4 * i) * (16 * (bi (f z) % 16 * 2 ^ (4 * (z - i - 1)))) := by
        rw [show 4 * z = 4 * i + (4 + 4 * (z - i - 1)) by omega, Nat.pow_add, Nat.pow_add]
        generalize 2 ^ (4 * i) = A
        generalize 2 ^ (4 * (z - i - 1)) = B
        generalize bi (f z) % 16 = C
        show C * (A * (16 * B)) = A * (16 * (C * B))
        rw [← Nat.mul_assoc, Nat.mul_comm C A, Nat.mul_assoc]
        congr 1
        rw [← Nat.mul_assoc, Nat.mul_comm C 16, Nat.mul_assoc]
      rw [e, Nat.add_mul_div_left _ _ (Nat.two_pow_pos _), Nat.add_mul_mod_self_left]
      exact or_dig z q
    · have e : i = z := by omega
      subst e
      rw [Nat.add_mul_div_right _ _ (Nat.two_pow_pos _), Nat.div_eq_of_lt (or_lt i)]
      omega
theorem or_lN {f : Nat → Int32} : ∀ {k : Nat}, k ≤ 16 → (∀ j, j < k → lit (f j)) → or_of f k = lN (or_N f k)
  | 0, _, _ => rfl
  | k + 1, hk, h => by
    obtain ⟨m, hm, em⟩ := lit_lb (h k (Nat.lt_succ_self k))
    have hb : bi (f k) % 16 = m % 16 := by rw [em, bi_lb m hm]
    have hlt := or_lt (f := f) k
    have hp : 2 ^ (4 * k) ≤ 2 ^ 60 := Nat.pow_le_pow_right (by decide) (by omega)
    have hx : m % 16 * 2 ^ (4 * k) ≤ 15 * 2 ^ (4 * k) := Nat.mul_le_mul_right _ (by omega)
    have key : or_N f k ||| m % 16 * 2 ^ (4 * k) = or_N f k + m % 16 * 2 ^ (4 * k) := by rw [Nat.or_comm, Nat.mul_comm, ← Nat.two_pow_add_eq_or_of_lt hlt, Nat.add_comm]
    rw [or_of, or_N, hb, or_lN (by omega) (fun j hj => h j (Nat.lt_succ_of_lt hj)), em, lb_abs m hm, nI_pred, nI_l (by omega), show (4 : Int32) * nI k = nI (4 * k) by rw [show (4 : Int32) = nI 4 from rfl, pk_mul], wb_shl _ (show 4 * k < 64 by omega), wb_or (by omega) (by omega), key]
theorem at_var_ok {f : Nat → Int32} {z i : Nat} (hg : gs f z) (hi : i < z) : at_var (or_of f z) (nI i) = nI (bi (f i) % 16 + 1) := by
  have hz := gs_16 hg
  have hlt := or_lt (f := f) z
  have hp : 2 ^ (4 * z) ≤ 2 ^ 64 := Nat.pow_le_pow_right (by decide) (by omega)
  have hd : or_N f z / 2 ^ (4 * i) < 2 ^ 64 := Nat.lt_of_le_of_lt (Nat.div_le_self _ _) (by omega)
  rw [at_var, or_lN hz hg.1, show (4 : Int32) * nI i = nI (4 * i) by rw [show (4 : Int32) = nI 4 from rfl, pk_mul], pb_lu, wb_shr (by omega) (show 4 * i < 64 by omega), show (15 : Int64) = lN (2 ^ 4 - 1) from rfl, wb_mask hd (by decide), lN_i, nI_1, show (2 : Nat) ^ 4 = 16 from rfl, or_dig z hi]
/-- AT -/
theorem at_ok {f : Nat → Int32} {z j : Nat} (hg : gs f z) (hj31 : j < 2 ^ 31) : at_val (ms_of f z) (or_of f z) (nI j) = if j < z then f j else 0 := by
  have hz := gs_16 hg
  rw [at_val, ms_sz hg]
  by_cases h : j < z
  · rw [if_pos (nI_lt h (by omega)), if_pos h, at_var_ok hg h]
    obtain ⟨m, hm, em⟩ := lit_lb (hg.1 j h)
    rw [em, bi_lb m hm]
    have hbm : bt (ms_of f z) m = true := (ms_bt hm hg.1).mpr ⟨j, h, em⟩
    have hl : nI (m % 16 + 1) = lb (m % 16) := (lb_lo (m % 16) (by omega)).symm
    rw [hl]
    rcases Nat.lt_or_ge m 16 with q | q
    · rw [show m % 16 = m by omega, if_neg]
      intro h0
      have := bt_0' h0 m
      rw [b_and, hbm, bt_lb hm m hm, decide_eq_true rfl] at this
      cases this
    · have ho := cons_other (ms_cons hg) hm hbm
      rw [show (m + 16) % 32 = m % 16 by omega] at ho
      rw [if_pos, lb_neg (m % 16) (by omega), show (m % 16 + 16) % 32 = m by omega]
      refine eq_0 fun k hk => ?_
      rw [b_and, bt_lb (by omega) k hk]
      by_cases e : k = m % 16
      · rw [e, ho]; rfl
      · rw [decide_eq_false e]; simp
  · rw [if_neg (nI_nlt (by omega) hj31), if_neg h]
theorem li_0r {fD : Nat → Int32} {k : Int32} : ∀ (a i : Nat), li_it fD k a i 0 = 0
  | 0, _ => rfl
  | a + 1, i => by rw [li_it, if_pos rfl]
theorem li_1r {fD : Nat → Int32} {k : Int32} : ∀ (a i : Nat), (li_it fD k a i 1 = 0 ∧ ∃ j, i ≤ j ∧ j < i + a ∧ (fD j = k ∨ fD j = -k)) ∨ (li_it fD k a i 1 = 1 ∧ ∀ j, i ≤ j → j < i + a → ¬ fD j = k ∧ ¬ fD j = -k)
  | 0, i => Or.inr ⟨rfl, fun j h1 h2 => by omega⟩
  | a + 1, i => by
    rw [li_it, if_neg (by decide)]
    by_cases h : fD i = k ∨ fD i = -k
    · rw [if_pos h, li_0r]
      exact Or.inl ⟨rfl, i, Nat.le_refl _, by omega, h⟩
    · rw [if_neg h]
      rcases li_1r (fD := fD) (k := k) a (i + 1) with ⟨h1, j, h2, h3, h4⟩ | ⟨h1, h2⟩
      · exact Or.inl ⟨h1, j, by omega, by omega, h4⟩
      · refine Or.inr ⟨h1, fun j h3 h4 => ?_⟩
        rcases Nat.lt_or_ge i j with q | q
        · exact h2 j q (by omega)
        · rw [show j = i by omega]
          exact ⟨fun e => h (Or.inl e), fun e => h (Or.inr e)⟩
/-- LITERAL -/
theorem lit_ok {fD : Nat → Int32} {d : Nat} {k : Int32} (hg : gs fD d) : (lt_bad (ms_of fD d) k ∧ li_it fD k d 0 (li_0 k) = 0) ∨ (¬ lt_bad (ms_of fD d) k ∧ ¬ li_it fD k d 0 (li_0 k) = 0 ∧ d < 16 ∧ gs (upd fD d k) (d + 1)) := by
  by_cases h0 : k = 0 ∨ k < -16 ∨ 16 < k
  · refine Or.inl ⟨?_, by rw [li_0, if_pos h0, li_0r]⟩
    rcases h0 with h | h | h
    · exact Or.inl h
    · exact Or.inr (Or.inl h)
    · exact Or.inr (Or.inr (Or.inl h))
  · have hlit : lit k := ⟨fun h => h0 (Or.inl h), fun h => h0 (Or.inr (Or.inl h)), fun h => h0 (Or.inr (Or.inr h))⟩
    obtain ⟨m, hm, em⟩ := lit_lb hlit
    rw [li_0, if_neg h0]
    have hbit : ∀ i, i < 32 → bt (ms_of fD d ||| mk_neg (ms_of fD d)) i = (bt (ms_of fD d) i || bt (ms_of fD d) ((i + 16) % 32)) := fun i hi => by rw [b_or, bt_neg _ hi]
    rcases li_1r (fD := fD) (k := k) d 0 with ⟨h1, j, _, h3, h4⟩ | ⟨h1, h2⟩
    · refine Or.inl ⟨Or.inr (Or.inr (Or.inr fun hz => ?_)), h1⟩
      have h5 := bt_0' hz m
      rw [b_and, em, bt_lb hm m hm, decide_eq_true rfl, hbit m hm] at h5
      rcases h4 with h4 | h4
      · rw [(ms_bt hm hg.1).mpr ⟨j, by omega, by rw [h4, em]⟩] at h5
        simp at h5
      · rw [(ms_bt (show (m + 16) % 32 < 32 by omega) hg.1).mpr ⟨j, by omega, by rw [h4, em, lb_neg m hm]⟩] at h5
        simp at h5
    · have hn1 : bt (ms_of fD d) m = false := by
        cases hb : bt (ms_of fD d) m with
        | false => rfl
        | true =>
          obtain ⟨j, hj, ej⟩ := (ms_bt hm hg.1).mp hb
          exact absurd (by rw [ej, em]) (h2 j (Nat.zero_le _) (by omega)).1
      have hn2 : bt (ms_of fD d) ((m + 16) % 32) = false := by
        cases hb : bt (ms_of fD d) ((m + 16) % 32) with
        | false => rfl
        | true =>
          obtain ⟨j, hj, ej⟩ := (ms_bt (show (m + 16) % 32 < 32 by omega) hg.1).mp hb
          exact absurd (by rw [ej, em, lb_neg m hm]) (h2 j (Nat.zero_le _) (by omega)).2
      have hgn : gs (upd fD d k) (d + 1) := by
        constructor
        · intro j hj
          rcases Nat.lt_or_ge j d with q | q
          · rw [pk_un (by omega)]; exact hg.1 j q
          · rw [show j = d by omega, pk_us]; exact hlit
        · intro i j hij hj
          rw [pk_un (show i ≠ d by omega)]
          rcases Nat.lt_or_ge j d with q | q
          · rw [pk_un (by omega)]; exact hg.2 i j hij q
          · rw [show j = d by omega, pk_us]; exact h2 i (Nat.zero_le _) (by omega)
      refine Or.inr ⟨?_, by rw [h1]; decide, by have := gs_16 hgn; omega, hgn⟩
      rintro (h | h | h | h)
      · exact hlit.1 h
      · exact hlit.2.1 h
      · exact hlit.2.2 h
      · refine h (eq_0 fun i hi => ?_)
        rw [b_and, hbit i hi, em, bt_lb hm i hi]
        by_cases e : i = m
        · rw [e, hn1, hn2]; rfl
        · rw [decide_eq_false e]; simp
theorem io_1 {fN : Nat → Int32} : ∀ (a i : Nat), io_it fN a i 1 = 1
  | 0, _ => rfl
  | a + 1, i => by rw [io_it, if_pos (Or.inl (by decide))]; exact io_1 a (i + 1)
/-- ISOVER -/
theorem over_ok {n : Nat} {zl : Nat → Nat} {fC fT fL fN : Nat → Int32} (hC : CR n zl fC fT fL fN) : ∀ (a i : Nat), i + a = n → ov_scan fC fT a i = io_it fN a i 0
  | 0, _, _ => rfl
  | a + 1, i, hk => by
    have e : (fT i ≠ 0 ∧ fC i = 0) ↔ (¬ (0 : Int32) = 0 ∨ fN i = 0) := by
      obtain ⟨hg, hm, hh⟩ := hC i (by omega)
      have hz := gs_16 hg
      rcases hh with ⟨h1, h2⟩ | ⟨h1, h2⟩
      · rw [h1, h2]
        exact ⟨fun h => absurd rfl h.1, fun h => h.elim (fun h => absurd rfl h) (fun h => absurd h (by decide))⟩
      · rw [h1, h2, hm]
        constructor
        · rintro ⟨_, h⟩
          have h3 := ms_sz hg
          rw [h, pb_sz_0] at h3
          exact Or.inr (by rw [← h3]; rfl)
        · rintro (h | h)
          · exact absurd rfl h
          · rw [← nI_0] at h
            have h3 := (nI_eq (by omega) (by omega)).mp h
            exact ⟨by decide, by rw [h3]; rfl⟩
    rw [ov_scan, io_it]
    by_cases h : fT i ≠ 0 ∧ fC i = 0
    · rw [if_pos h, if_pos (e.mp h), io_1]
    · rw [if_neg h, if_neg (fun z => h (e.mpr z))]
      exact over_ok hC a (i + 1) (by omega)
theorem ad_at {fD : Nat → Int32} {n : Nat} : ∀ (a i : Nat) (f : Nat → Int32) (j : Nat), ad_it fD n a i f j = if 16 * n + i ≤ j ∧ j < 16 * n + i + a then fD (j - 16 * n) else f j
  | 0, i, f, j => by rw [ad_it, if_neg (by omega)]
  | a + 1, i, f, j => by
    rw [ad_it, ad_at a (i + 1)]
    by_cases h : 16 * n + (i + 1) ≤ j ∧ j < 16 * n + (i + 1) + a
    · rw [if_pos h, if_pos (show 16 * n + i ≤ j ∧ j < 16 * n + i + (a + 1) by omega)]
    · rw [if_neg h]
      by_cases e : j = 16 * n + i
      · rw [e, pk_us, if_pos (show 16 * n + i ≤ 16 * n + i ∧ 16 * n + i < 16 * n + i + (a + 1) by omega), show 16 * n + i - 16 * n = i by omega]
      · rw [pk_un e, if_neg (show ¬ (16 * n + i ≤ j ∧ j < 16 * n + i + (a + 1)) by omega)]
