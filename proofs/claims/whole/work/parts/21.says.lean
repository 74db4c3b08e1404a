/-! what a clause says: the reference's scan, and the class's set -/
def ms_of (f : Nat → Int32) : Nat → Int32
  | 0 => 0
  | k + 1 => ms_of f k ||| mk_bit (f k)
/-- a row of literals, no variable twice -/
def gs (f : Nat → Int32) (k : Nat) : Prop := (∀ j, j < k → lit (f j)) ∧ ∀ i j, i < j → j < k → ¬ f i = f j ∧ ¬ f i = -(f j)
theorem ms_bt {f : Nat → Int32} {i : Nat} (hi : i < 32) : ∀ {k : Nat}, (∀ j, j < k → lit (f j)) → (bt (ms_of f k) i = true ↔ ∃ j, j < k ∧ f j = lb i)
  | 0, _ => by
    rw [ms_of, b_0]
    exact ⟨fun h => (nomatch h), fun ⟨j, hj, _⟩ => absurd hj (Nat.not_lt_zero j)⟩
  | k + 1, h => by
    obtain ⟨m, hm, em⟩ := lit_lb (h k (Nat.lt_succ_self k))
    rw [ms_of, b_or, em, bt_lb hm i hi, Bool.or_eq_true, ms_bt hi (fun j hj => h j (Nat.lt_succ_of_lt hj)), decide_eq_true_eq]
    constructor
    · rintro (⟨j, hj, e⟩ | e)
      · exact ⟨j, Nat.lt_succ_of_lt hj, e⟩
      · exact ⟨k, Nat.lt_succ_self k, by rw [em, e]⟩
    · rintro ⟨j, hj, e⟩
      rcases Nat.lt_or_ge j k with q | q
      · exact Or.inl ⟨j, q, e⟩
      · have ej : j = k := by omega
        rw [ej, em] at e
        exact Or.inr (lb_inj hm hi e).symm
theorem ms_eq {f g : Nat → Int32} : ∀ {k : Nat}, (∀ j, j < k → f j = g j) → ms_of f k = ms_of g k
  | 0, _ => rfl
  | k + 1, h => by rw [ms_of, ms_of, ms_eq (fun j hj => h j (Nat.lt_succ_of_lt hj)), h k (Nat.lt_succ_self k)]
theorem gs_pre {f : Nat → Int32} {k : Nat} (h : gs f (k + 1)) : gs f k := ⟨fun j hj => h.1 j (Nat.lt_succ_of_lt hj), fun i j hij hj => h.2 i j hij (Nat.lt_succ_of_lt hj)⟩
theorem gs_le {f : Nat → Int32} {k z : Nat} (h : gs f z) (hk : k ≤ z) : gs f k := ⟨fun j hj => h.1 j (by omega), fun i j hij hj => h.2 i j hij (by omega)⟩
theorem gs_eq {f g : Nat → Int32} {k : Nat} (h : gs f k) (e : ∀ j, j < k → f j = g j) : gs g k := ⟨fun j hj => by rw [← e j hj]; exact h.1 j hj, fun i j hij hj => by rw [← e j hj, ← e i (by omega)]; exact h.2 i j hij hj⟩
/-- the last literal's bit, and its other's, aren't among those before -/
theorem gs_new {f : Nat → Int32} {k i : Nat} (h : gs f (k + 1)) (hi : i < 32) (e : f k = lb i) : bt (ms_of f k) i = false ∧ bt (ms_of f k) ((i + 16) % 32) = false := by
  constructor
  · cases hb : bt (ms_of f k) i with
    | false => rfl
    | true =>
      obtain ⟨j, hj, ej⟩ := (ms_bt hi (gs_pre h).1).mp hb
      exact absurd (by rw [ej, e]) (h.2 j k hj (Nat.lt_succ_self k)).1
  · cases hb : bt (ms_of f k) ((i + 16) % 32) with
    | false => rfl
    | true =>
      obtain ⟨j, hj, ej⟩ := (ms_bt (show (i + 16) % 32 < 32 by omega) (gs_pre h).1).mp hb
      exact absurd (by rw [ej, e, lb_neg i hi]) (h.2 j k hj (Nat.lt_succ_self k)).2
theorem ms_cons {f : Nat → Int32} : ∀ {k : Nat}, gs f k → cons_ (ms_of f k)
  | 0, _ => fun i _ => by rw [ms_of, b_0]; rfl
  | k + 1, h => by
    obtain ⟨m, hm, em⟩ := lit_lb (h.1 k (Nat.lt_succ_self k))
    rw [ms_of, em]
    exact cons_add (ms_cons (gs_pre h)) hm (gs_new h hm em).2
theorem ms_sz {f : Nat → Int32} : ∀ {k : Nat}, gs f k → pb_sz (ms_of f k) = k
  | 0, _ => by rw [ms_of]; exact pb_sz_0
  | k + 1, h => by
    obtain ⟨m, hm, em⟩ := lit_lb (h.1 k (Nat.lt_succ_self k))
    rw [ms_of, em, sz_add hm (gs_new h hm em).1, ms_sz (gs_pre h)]
theorem gs_16 {f : Nat → Int32} {k : Nat} (h : gs f k) : k ≤ 16 := by rw [← ms_sz h]; exact sz_cons (ms_cons h)
/-- what a clause c says under the false literals f -/
def SY (c f r : Int32) : Prop := (mk_rest c f = 0 ∧ r = 17) ∨ (¬ mk_rest c f = 0 ∧ mk_told c f = 0 ∧ r = 0) ∨ (¬ mk_rest c f = 0 ∧ ∃ i, i < 32 ∧ r = lb i ∧ mk_told c f = mk_bit (lb i) ∧ bt f i = false ∧ bt f ((i + 16) % 32) = false ∧ mk_rest c f = mk_bit (lb i))
theorem of_cases {fV : Nat → Int32} {f : Int32} (h : VR fV f) {i : Nat} (hi : i < 32) : (of_v fV (lb i) = 1 ∧ bt f i = false ∧ bt f ((i + 16) % 32) = true) ∨ (of_v fV (lb i) = 0 ∧ bt f i = false ∧ bt f ((i + 16) % 32) = false) ∨ (of_v fV (lb i) = 2 ∧ bt f i = true) := by
  rw [of_lb h hi]
  cases h1 : bt f i <;> cases h2 : bt f ((i + 16) % 32) <;> simp
theorem rest_or (c x f : Int32) : mk_rest (c ||| x) f = mk_rest c f ||| mk_rest x f := b_ext fun i hi => by
  rw [b_or, bt_rest _ _ hi, bt_rest _ _ hi, bt_rest _ _ hi, b_or]
  cases bt c i <;> cases bt x i <;> cases bt f i <;> rfl
theorem rest_bit0 {f : Int32} {i : Nat} (hi : i < 32) (h : bt f i = true) : mk_rest (mk_bit (lb i)) f = 0 := eq_0 fun k hk => by
  rw [bt_rest _ _ hk, bt_lb hi k hk]
  by_cases e : k = i
  · rw [e, h]; simp
  · rw [decide_eq_false e]; rfl
theorem rest_bit1 {f : Int32} {i : Nat} (hi : i < 32) (h : bt f i = false) : mk_rest (mk_bit (lb i)) f = mk_bit (lb i) := b_ext fun k hk => by
  rw [bt_rest _ _ hk, bt_lb hi k hk]
  by_cases e : k = i
  · rw [e, h]; simp
  · rw [decide_eq_false e]; rfl
theorem or_0 (x : Int32) : x ||| 0 = x := b_ext fun i _ => by rw [b_or, b_0]; simp
theorem zero_or (x : Int32) : (0 : Int32) ||| x = x := b_ext fun i _ => by rw [b_or, b_0]; simp
theorem sy_main {fL fV : Nat → Int32} {f : Int32} (hV : VR fV f) (p z : Nat) (hg : gs (fun j => fL (p + j)) z) : ∀ (a k : Nat) (op la : Int32), k + a = z → (∀ j i, j < k → i < 32 → fL (p + j) = lb i → (bt f i && true) = false → bt f ((i + 16) % 32) = false) → op = nI (pb_sz (mk_rest (ms_of (fun j => fL (p + j)) k) f)) → (op = 1 → ∃ i, i < 32 ∧ la = lb i ∧ mk_rest (ms_of (fun j => fL (p + j)) k) f = mk_bit (lb i)) → SY (ms_of (fun j => fL (p + j)) z) f (sy_it fL fV a (p + k) op la) := by
  intro a
  induction a with
  | zero =>
    intro k op la hk hn ho h1
    have ek : k = z := by omega
    subst ek
    have hsz := pb_sz_n (mk_rest (ms_of (fun j => fL (p + j)) k) f)
    rw [sy_it]
    by_cases c0 : op = 0
    · rw [if_pos c0]
      rw [ho, ← nI_0] at c0
      exact Or.inl ⟨sz_0 ((nI_eq (by omega) (by omega)).mp c0), rfl⟩
    · rw [if_neg c0]
      have hne : ¬ mk_rest (ms_of (fun j => fL (p + j)) k) f = 0 := fun h => c0 (by rw [ho, h]; rfl)
      by_cases c1 : op = 1
      · rw [if_pos c1]
        obtain ⟨i, hi, ela, er⟩ := h1 c1
        have hbi : bt (mk_rest (ms_of (fun j => fL (p + j)) k) f) i = true := by rw [er, bt_lb hi i hi, decide_eq_true rfl]
        rw [bt_rest _ _ hi, Bool.and_eq_true] at hbi
        have hfi : bt f i = false := by simpa using hbi.2
        obtain ⟨j, hj, ej⟩ := (ms_bt hi hg.1).mp hbi.1
        have hfo := hn j i hj hi ej (by rw [hfi]; rfl)
        have hz : mk_rest (ms_of (fun j => fL (p + j)) k) f &&& mk_neg f = 0 := by
          rw [er]
          refine eq_0 fun m hm => ?_
          rw [b_and, bt_lb hi m hm, bt_neg f hm]
          by_cases e : m = i
          · rw [e, hfo]; simp
          · rw [decide_eq_false e]; rfl
        refine Or.inr (Or.inr ⟨hne, i, hi, ela, ?_, hfi, hfo, er⟩)
        rw [mk_told, if_pos ⟨by rw [er]; exact sz_bit hi, hz⟩, er]
      · rw [if_neg c1]
        refine Or.inr (Or.inl ⟨hne, ?_, rfl⟩)
        rw [mk_told, if_neg (fun h => c1 (by rw [ho, h.1]; rfl))]
  | succ a ih =>
    intro k op la hk hn ho h1
    have hlit : lit (fL (p + k)) := hg.1 k (by omega)
    obtain ⟨i, hi, ei⟩ := lit_lb hlit
    have hgk : gs (fun j => fL (p + j)) (k + 1) := gs_le hg (by omega)
    have hnew := gs_new hgk hi ei
    have hms : ms_of (fun j => fL (p + j)) (k + 1) = ms_of (fun j => fL (p + j)) k ||| mk_bit (lb i) := by rw [ms_of, ei]
    rw [sy_it, ei]
    rcases of_cases hV hi with ⟨ho1, hf1, hf2⟩ | ⟨ho0, hf1, hf2⟩ | ⟨ho2, hf1⟩
    · rw [if_pos ho1]
      have hb : bt (ms_of (fun j => fL (p + j)) z) i = true := (ms_bt hi hg.1).mpr ⟨k, by omega, ei⟩
      have hr : bt (mk_rest (ms_of (fun j => fL (p + j)) z) f) i = true := by rw [bt_rest _ _ hi, hb, hf1]; rfl
      refine Or.inr (Or.inl ⟨fun h => ?_, ?_, rfl⟩)
      · rw [h, b_0] at hr; cases hr
      · rw [mk_told, if_neg]
        intro h
        have h3 := bt_0' h.2 i
        rw [b_and, hr, bt_neg f hi, hf2] at h3
        cases h3
    · rw [if_neg (by rw [ho0]; decide), if_pos ho0, if_pos ho0]
      have er : mk_rest (ms_of (fun j => fL (p + j)) (k + 1)) f = mk_rest (ms_of (fun j => fL (p + j)) k) f ||| mk_bit (lb i) := by rw [hms, rest_or, rest_bit1 hi hf1]
      have hni : bt (mk_rest (ms_of (fun j => fL (p + j)) k) f) i = false := by rw [bt_rest _ _ hi, hnew.1]; rfl
      have hs1 : pb_sz (mk_rest (ms_of (fun j => fL (p + j)) (k + 1)) f) = pb_sz (mk_rest (ms_of (fun j => fL (p + j)) k) f) + 1 := by rw [er, sz_add hi hni]
      have hsz := pb_sz_n (mk_rest (ms_of (fun j => fL (p + j)) k) f)
      refine ih (k + 1) _ _ (by omega) ?_ (by rw [ho, nI_1, hs1]) ?_
      · intro j m hj hm ej hfm
        rcases Nat.lt_or_ge j k with q | q
        · exact hn j m q hm ej hfm
        · have e2 : j = k := by omega
          rw [e2, ei] at ej
          have e3 := lb_inj hi hm ej
          rw [← e3]; exact hf2
      · intro c1
        rw [ho, nI_1] at c1
        have e0 : pb_sz (mk_rest (ms_of (fun j => fL (p + j)) k) f) + 1 = 1 := (nI_eq (by omega) (by omega)).mp c1
        refine ⟨i, hi, rfl, ?_⟩
        rw [er, sz_0 (by omega : pb_sz (mk_rest (ms_of (fun j => fL (p + j)) k) f) = 0), zero_or]
    · rw [if_neg (by rw [ho2]; decide), if_neg (by rw [ho2]; decide), if_neg (by rw [ho2]; decide)]
      have er : mk_rest (ms_of (fun j => fL (p + j)) (k + 1)) f = mk_rest (ms_of (fun j => fL (p + j)) k) f := by rw [hms, rest_or, rest_bit0 hi hf1, or_0]
      refine ih (k + 1) _ _ (by omega) ?_ (by rw [er, ho]; simp) ?_
      · intro j m hj hm ej hfm
        rcases Nat.lt_or_ge j k with q | q
        · exact hn j m q hm ej hfm
        · have e2 : j = k := by omega
          rw [e2, ei] at ej
          have e3 := lb_inj hi hm ej
          rw [← e3, hf1] at hfm
          cases hfm
      · intro c1
        obtain ⟨m, hm, e1, e2⟩ := h1 (by simpa using c1)
        exact ⟨m, hm, e1, by rw [er]; exact e2⟩
/-- SAYS -/
theorem sy_ok {fL fV : Nat → Int32} {f : Int32} (hV : VR fV f) (p z : Nat) (hg : gs (fun j => fL (p + j)) z) : SY (ms_of (fun j => fL (p + j)) z) f (sy_it fL fV z p 0 0) := by
  have h0 : mk_rest (ms_of (fun j => fL (p + j)) 0) f = 0 := eq_0 fun i hi => by rw [bt_rest _ _ hi, ms_of, b_0]; rfl
  exact sy_main hV p z hg z 0 0 0 (by omega) (fun j i hj => absurd hj (Nat.not_lt_zero j)) (by rw [h0]; rfl) (fun h => absurd h (by decide))
theorem lb_ne : ∀ i, i < 32 → ¬ lb i = 0 ∧ ¬ lb i = 17 := by decide +kernel
