/-! literals and their bits -/
def lit (l : Int32) : Prop := ¬ l = 0 ∧ rng l
/-- the bit of a literal -/
def bi (l : Int32) : Nat := if 0 < l then (l - 1).toNatClampNeg else (15 - l).toNatClampNeg
/-- the literal of a bit -/
def lb (i : Nat) : Int32 := if i < 16 then nI (i + 1) else -(nI (i - 15))
theorem lit_lb {l : Int32} (h : lit l) : ∃ i : Nat, i < 32 ∧ l = lb i := by
  obtain ⟨h0, hr⟩ := h
  obtain ⟨j, hj, e⟩ := rng33 hr
  have h1 : j ≠ 16 := fun h => h0 (by rw [e, h]; rfl)
  rcases Nat.lt_or_ge 16 j with h | h
  · refine ⟨j - 17, by omega, ?_⟩
    rw [e]
    exact (by decide +kernel : ∀ j, j < 33 → 16 < j → nI j - 16 = lb (j - 17)) j hj h
  · refine ⟨31 - j, by omega, ?_⟩
    rw [e]
    exact (by decide +kernel : ∀ j, j < 16 → nI j - 16 = lb (31 - j)) j (by omega)
theorem lb_lit : ∀ i, i < 32 → lit (lb i) := by
  intro i hi
  have h : ∀ i, i < 32 → ¬ lb i = 0 ∧ ¬ lb i < -16 ∧ ¬ 16 < lb i := by decide +kernel
  exact ⟨(h i hi).1, (h i hi).2.1, (h i hi).2.2⟩
theorem bi_lb : ∀ i, i < 32 → bi (lb i) = i := by decide +kernel
theorem lb_neg : ∀ i, i < 32 → -(lb i) = lb ((i + 16) % 32) := by decide +kernel
theorem lb_pos : ∀ i, i < 32 → (0 < lb i ↔ i < 16) := by decide +kernel
theorem lb_abs : ∀ i, i < 32 → lt_abs (lb i) = nI (i % 16 + 1) := by decide +kernel
theorem lb_inj {i j : Nat} (hi : i < 32) (hj : j < 32) (h : lb i = lb j) : i = j := by rw [← bi_lb i hi, ← bi_lb j hj, h]
theorem bt_lb0 : ∀ i, i < 32 → ∀ k, k < 32 → bt (mk_bit (lb i)) k = decide (k = i) := by decide +kernel
theorem bt_neg (x : Int32) {i : Nat} (hi : i < 32) : bt (mk_neg x) i = bt x ((i + 16) % 32) := by
  rw [mk_neg, b_or, b_shl16 x hi, show pb_u x 16 = (x.toUInt32 >>> ((nI 16).toUInt32 &&& Int32.toUInt32 31)).toInt32 from rfl, b_ushr 16 (by omega)]
  rcases Nat.lt_or_ge i 16 with h | h
  · rw [decide_eq_false (by omega), show (i + 16) % 32 = 16 + i by omega]
    simp
  · rw [decide_eq_true h, show (i + 16) % 32 = i - 16 by omega, b_big (show 32 ≤ 16 + i by omega)]
    simp
theorem bt_not (f : Int32) {i : Nat} (hi : i < 32) : bt (f ^^^ (-1)) i = !bt f i := by rw [b_xor, b_m1 i hi]; simp
theorem bt_rest (c f : Int32) {i : Nat} (hi : i < 32) : bt (mk_rest c f) i = (bt c i && !bt f i) := by rw [mk_rest, b_and, bt_not f hi]
theorem bt_0' {x : Int32} (h : x = 0) (i : Nat) : bt x i = false := by rw [h]; exact b_0 i
theorem eq_0 {x : Int32} (h : ∀ i, i < 32 → bt x i = false) : x = 0 := b_ext (fun i hi => by rw [h i hi, b_0])
theorem ne_0 {x : Int32} (h : ¬ x = 0) : ∃ i, i < 32 ∧ bt x i = true := by
  refine Classical.byContradiction fun hn => h (eq_0 fun i hi => ?_)
  cases hb : bt x i with
  | false => rfl
  | true => exact absurd ⟨i, hi, hb⟩ hn
theorem bt_lb {i : Nat} (hi : i < 32) (k : Nat) (hk : k < 32) : bt (mk_bit (lb i)) k = decide (k = i) := bt_lb0 i hi k hk
theorem neg_0 : mk_neg 0 = 0 := by decide +kernel
theorem neg_lb : ∀ i, i < 32 → mk_neg (mk_bit (lb i)) = mk_bit (lb ((i + 16) % 32)) := by decide +kernel
theorem bit_ne : ∀ i, i < 32 → ¬ mk_bit (lb i) = 0 := by decide +kernel
/-- sizes -/
theorem sz_or {x y : Int32} (h : ∀ i, i < 32 → (bt x i && bt y i) = false) : pb_sz (x ||| y) = pb_sz x + pb_sz y := by
  rw [pb_sz_sum, pb_sz_sum, pb_sz_sum, ← pb_sum_or h]
  exact pb_sum_eq (fun i _ => b_or x y i)
theorem sz_bit {i : Nat} (hi : i < 32) : pb_sz (mk_bit (lb i)) = 1 := by
  rw [pb_sz_sum, pb_sum_eq (fun k hk => bt_lb hi k hk), pb_sum_k, if_pos hi]
theorem sz_add {x : Int32} {i : Nat} (hi : i < 32) (h : bt x i = false) : pb_sz (x ||| mk_bit (lb i)) = pb_sz x + 1 := by
  rw [sz_or, sz_bit hi]
  intro k hk
  rw [bt_lb hi k hk]
  by_cases e : k = i
  · rw [e, h]; rfl
  · rw [decide_eq_false e]; simp
theorem sz_0 {x : Int32} (h : pb_sz x = 0) : x = 0 := eq_0 (pb_sum_all (by rw [← pb_sz_sum]; exact h))
theorem sz_1 {x : Int32} (h : pb_sz x = 1) : ∃ i, i < 32 ∧ x = mk_bit (lb i) := by
  obtain ⟨k, hk, h1, h2⟩ := pb_sum_1 (by rw [← pb_sz_sum]; exact h)
  refine ⟨k, hk, b_ext fun i hi => ?_⟩
  rw [bt_lb hk i hi]
  by_cases e : i = k
  · rw [e, h1, decide_eq_true rfl]
  · rw [decide_eq_false e]
    cases hb : bt x i with
    | false => rfl
    | true => exact absurd (h2 i hi hb) e
/-- both a literal and its other never stand in a set -/
def cons_ (f : Int32) : Prop := ∀ i, i < 16 → (bt f i && bt f (i + 16)) = false
theorem pair_sum (f : Nat → Bool) (h : ∀ i, i < 16 → (f i && f (i + 16)) = false) : pb_sum f 32 ≤ 16 := by
  have e : pb_sum f 32 = pb_sum f 16 + pb_sum (fun i => f (i + 16)) 16 := by simp only [pb_sum, Nat.reduceAdd]; omega
  rw [e, ← pb_sum_or h]
  exact pb_sum_n _ _
theorem sz_cons {f : Int32} (h : cons_ f) : pb_sz f ≤ 16 := by rw [pb_sz_sum]; exact pair_sum _ h
theorem cons_other {f : Int32} (h : cons_ f) {i : Nat} (hi : i < 32) (h1 : bt f i = true) : bt f ((i + 16) % 32) = false := by
  rcases Nat.lt_or_ge i 16 with q | q
  · have := h i q
    rw [h1] at this
    rw [show (i + 16) % 32 = i + 16 by omega]
    simpa using this
  · have := h (i - 16) (by omega)
    rw [show i - 16 + 16 = i by omega, h1] at this
    rw [show (i + 16) % 32 = i - 16 by omega]
    simpa using this
theorem cons_add {f : Int32} (h : cons_ f) {i : Nat} (hi : i < 32) (h1 : bt f ((i + 16) % 32) = false) : cons_ (f ||| mk_bit (lb i)) := by
  intro k hk
  rw [b_or, b_or, bt_lb hi k (by omega), bt_lb hi (k + 16) (by omega)]
  have h2 := h k hk
  by_cases e1 : k = i
  · have e2 : ¬ k + 16 = i := by omega
    rw [decide_eq_true e1, decide_eq_false e2]
    rw [show (i + 16) % 32 = k + 16 by omega] at h1
    rw [h1]; simp
  · by_cases e2 : k + 16 = i
    · rw [decide_eq_false e1, decide_eq_true e2]
      rw [show (i + 16) % 32 = k by omega] at h1
      rw [h1]; simp
    · rw [decide_eq_false e1, decide_eq_false e2]
      simpa using h2
/-- the values of the variables, as the reference has them, and the set of false literals, as the class has it -/
def VR (fV : Nat → Int32) (f : Int32) : Prop := cons_ f ∧ ∀ i, i < 16 → fV (i + 1) = if bt f i then 2 else if bt f (i + 16) then 1 else 0
theorem of_lb {fV : Nat → Int32} {f : Int32} (h : VR fV f) {i : Nat} (hi : i < 32) : of_v fV (lb i) = if bt f i then 2 else if bt f ((i + 16) % 32) then 1 else 0 := by
  have e1 : (lt_abs (lb i)).toNatClampNeg = i % 16 + 1 := by rw [lb_abs i hi]; exact nI_clamp (by omega)
  rw [of_v, e1, h.2 (i % 16) (by omega)]
  rcases Nat.lt_or_ge i 16 with q | q
  · rw [show i % 16 = i by omega, show (i + 16) % 32 = i + 16 by omega]
    have hp : 0 < lb i := (lb_pos i hi).mpr q
    cases h1 : bt f i <;> cases h2 : bt f (i + 16) <;> simp [hp]
  · rw [show i % 16 = i - 16 by omega, show i - 16 + 16 = i by omega, show (i + 16) % 32 = i - 16 by omega]
    have hp : ¬ 0 < lb i := fun h => absurd ((lb_pos i hi).mp h) (by omega)
    have hc := h.1 (i - 16) (by omega)
    rw [show i - 16 + 16 = i by omega] at hc
    cases h1 : bt f i <;> cases h2 : bt f (i - 16) <;> rw [h1, h2] at hc <;> simp [hp] at hc ⊢
theorem VR_tell {fV : Nat → Int32} {f : Int32} (h : VR fV f) {i : Nat} (hi : i < 32) (h1 : bt f i = false) : VR (tell_v fV (lb i)) (f ||| mk_bit (lb ((i + 16) % 32))) := by
  have ho : (i + 16) % 32 < 32 := by omega
  have e1 : (lt_abs (lb i)).toNatClampNeg = i % 16 + 1 := by rw [lb_abs i hi]; exact nI_clamp (by omega)
  refine ⟨cons_add h.1 ho (by rw [show ((i + 16) % 32 + 16) % 32 = i by omega]; exact h1), fun k hk => ?_⟩
  rw [tell_v, e1, b_or, b_or, bt_lb ho k (by omega), bt_lb ho (k + 16) (by omega)]
  by_cases e : k = i % 16
  · subst e
    rw [pk_us]
    rcases Nat.lt_or_ge i 16 with q | q
    · have hp : 0 < lb i := (lb_pos i hi).mpr q
      rw [if_pos hp, show i % 16 = i by omega, show (i + 16) % 32 = i + 16 by omega, h1]
      simp
    · have hp : ¬ 0 < lb i := fun h => absurd ((lb_pos i hi).mp h) (by omega)
      rw [if_neg hp, show i % 16 = i - 16 by omega, show (i + 16) % 32 = i - 16 by omega]
      simp
  · rw [pk_un (by omega), h.2 k hk, decide_eq_false (show ¬ k = (i + 16) % 32 by omega), decide_eq_false (show ¬ k + 16 = (i + 16) % 32 by omega)]
    simp
