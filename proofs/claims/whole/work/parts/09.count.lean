/-! popcount: Integer.bitCount's arithmetic, byte by byte, and what it counts -/
def pb_n (a b c d : Nat) : Nat := 256 * (256 * (256 * d + c) + b) + a
def pb_c (v : Nat) : Nat := v % 2 + v / 2 % 2 + v / 4 % 2 + v / 8 % 2 + v / 16 % 2 + v / 32 % 2 + v / 64 % 2 + v / 128 % 2
theorem pb_and {a m : Nat} (b M : Nat) (ha : a < 256) (hm : m < 256) : (256 * b + a) &&& (256 * M + m) = 256 * (b &&& M) + (a &&& m) := by
  have hx : (a &&& m) < 2 ^ 8 := Nat.lt_of_le_of_lt Nat.and_le_left ha
  have ha' : a < 2 ^ 8 := ha
  have hm' : m < 2 ^ 8 := hm
  apply Nat.eq_of_testBit_eq
  intro i
  have e1 := Nat.testBit_two_pow_mul_add b ha' i
  have e2 := Nat.testBit_two_pow_mul_add M hm' i
  have e3 := Nat.testBit_two_pow_mul_add (b &&& M) hx i
  rw [show (2 : Nat) ^ 8 = 256 from rfl] at e1 e2 e3
  rw [Nat.testBit_and, e1, e2, e3]
  split <;> simp [Nat.testBit_and]
theorem pb_and4 {a b c d m : Nat} (ha : a < 256) (hb : b < 256) (hc : c < 256) (hm : m < 256) : pb_n a b c d &&& pb_n m m m m = pb_n (a &&& m) (b &&& m) (c &&& m) (d &&& m) := by
  unfold pb_n
  rw [pb_and _ _ ha hm, pb_and _ _ hb hm, pb_and _ _ hc hm]
theorem pb_s1 : ∀ v, v < 256 → ∀ t, t < 2 → (v / 2 + 128 * t) &&& 85 = (v / 2) &&& 85 ∧ (v / 2) &&& 85 ≤ v := by decide +kernel
theorem pb_s2 : ∀ v, v < 256 → ∀ t, t < 4 → (v / 4 + 64 * t) &&& 51 = (v / 4) &&& 51 := by decide +kernel
theorem pb_s2' : ∀ v, v < 256 → (((v - ((v / 2) &&& 85)) &&& 51) + (((v - ((v / 2) &&& 85)) / 4) &&& 51)) % 16 ≤ 4 ∧ (((v - ((v / 2) &&& 85)) &&& 51) + (((v - ((v / 2) &&& 85)) / 4) &&& 51)) / 16 ≤ 4 := by decide +kernel
theorem pb_s3 : ∀ v, v < 256 → ∀ t, t < 5 → ((((v - ((v / 2) &&& 85)) &&& 51) + (((v - ((v / 2) &&& 85)) / 4) &&& 51)) + ((((v - ((v / 2) &&& 85)) &&& 51) + (((v - ((v / 2) &&& 85)) / 4) &&& 51)) / 16 + 16 * t)) &&& 15 = pb_c v := by decide +kernel
theorem pb_c8 (v : Nat) : pb_c v ≤ 8 := by unfold pb_c; omega
def pb_f1 (n : Nat) : Nat := n - ((n / 2 ^ 1) &&& 1431655765)
def pb_f2 (n : Nat) : Nat := (n &&& 858993459) + ((n / 2 ^ 2) &&& 858993459)
def pb_f3 (n : Nat) : Nat := (n + n / 2 ^ 4) &&& 252645135
theorem pb_1 {a b c d : Nat} (ha : a < 256) (hb : b < 256) (hc : c < 256) (hd : d < 256) : ((pb_n a b c d / 2 ^ 1) &&& 1431655765) ≤ pb_n a b c d ∧ pb_f1 (pb_n a b c d) = pb_n (a - ((a / 2) &&& 85)) (b - ((b / 2) &&& 85)) (c - ((c / 2) &&& 85)) (d - ((d / 2) &&& 85)) := by
  have e : pb_n a b c d / 2 ^ 1 = pb_n (a / 2 + 128 * (b % 2)) (b / 2 + 128 * (c % 2)) (c / 2 + 128 * (d % 2)) (d / 2 + 128 * 0) := by unfold pb_n; omega
  have k : (1431655765 : Nat) = pb_n 85 85 85 85 := rfl
  have f : (pb_n a b c d / 2 ^ 1) &&& 1431655765 = pb_n ((a / 2) &&& 85) ((b / 2) &&& 85) ((c / 2) &&& 85) ((d / 2) &&& 85) := by
    rw [e, k, pb_and4 (by omega) (by omega) (by omega) (by omega), (pb_s1 a ha (b % 2) (by omega)).1, (pb_s1 b hb (c % 2) (by omega)).1, (pb_s1 c hc (d % 2) (by omega)).1, (pb_s1 d hd 0 (by omega)).1]
  have h1 := (pb_s1 a ha 0 (by omega)).2
  have h2 := (pb_s1 b hb 0 (by omega)).2
  have h3 := (pb_s1 c hc 0 (by omega)).2
  have h4 := (pb_s1 d hd 0 (by omega)).2
  unfold pb_f1
  rw [f]
  unfold pb_n
  generalize (a / 2) &&& 85 = a1 at *
  generalize (b / 2) &&& 85 = b1 at *
  generalize (c / 2) &&& 85 = c1 at *
  generalize (d / 2) &&& 85 = d1 at *
  constructor <;> omega
theorem pb_2 {a b c d : Nat} (ha : a < 256) (hb : b < 256) (hc : c < 256) (hd : d < 256) : pb_f2 (pb_n a b c d) = pb_n ((a &&& 51) + ((a / 4) &&& 51)) ((b &&& 51) + ((b / 4) &&& 51)) ((c &&& 51) + ((c / 4) &&& 51)) ((d &&& 51) + ((d / 4) &&& 51)) := by
  have e : pb_n a b c d / 2 ^ 2 = pb_n (a / 4 + 64 * (b % 4)) (b / 4 + 64 * (c % 4)) (c / 4 + 64 * (d % 4)) (d / 4 + 64 * 0) := by unfold pb_n; omega
  have k : (858993459 : Nat) = pb_n 51 51 51 51 := rfl
  unfold pb_f2
  rw [e, k, pb_and4 ha hb hc (by omega), pb_and4 (by omega) (by omega) (by omega) (by omega), pb_s2 a ha (b % 4) (by omega), pb_s2 b hb (c % 4) (by omega), pb_s2 c hc (d % 4) (by omega), pb_s2 d hd 0 (by omega)]
  unfold pb_n
  omega
theorem pb_3 {a b c d : Nat} (ha : a % 16 ≤ 4 ∧ a / 16 ≤ 4) (hb : b % 16 ≤ 4 ∧ b / 16 ≤ 4) (hc : c % 16 ≤ 4 ∧ c / 16 ≤ 4) (hd : d % 16 ≤ 4 ∧ d / 16 ≤ 4) : pb_f3 (pb_n a b c d) = pb_n ((a + (a / 16 + 16 * (b % 16))) &&& 15) ((b + (b / 16 + 16 * (c % 16))) &&& 15) ((c + (c / 16 + 16 * (d % 16))) &&& 15) ((d + (d / 16 + 16 * 0)) &&& 15) := by
  have e : pb_n a b c d + pb_n a b c d / 2 ^ 4 = pb_n (a + (a / 16 + 16 * (b % 16))) (b + (b / 16 + 16 * (c % 16))) (c + (c / 16 + 16 * (d % 16))) (d + (d / 16 + 16 * 0)) := by unfold pb_n; omega
  have k : (252645135 : Nat) = pb_n 15 15 15 15 := rfl
  unfold pb_f3
  rw [e, k, pb_and4 (by omega) (by omega) (by omega) (by omega)]
theorem pb_4 {a b c d : Nat} (ha : a < 256) (hb : b < 256) (hc : c < 256) (hd : d < 256) : pb_f3 (pb_f2 (pb_f1 (pb_n a b c d))) = pb_n (pb_c a) (pb_c b) (pb_c c) (pb_c d) := by
  rw [(pb_1 ha hb hc hd).2, pb_2 (by omega) (by omega) (by omega) (by omega), pb_3 (pb_s2' a ha) (pb_s2' b hb) (pb_s2' c hc) (pb_s2' d hd)]
  have h1 := (pb_s2' b hb).1
  have h2 := (pb_s2' c hc).1
  have h3 := (pb_s2' d hd).1
  rw [pb_s3 a ha _ (by omega), pb_s3 b hb _ (by omega), pb_s3 c hc _ (by omega), pb_s3 d hd 0 (by omega)]
/-- how many of the 32 bits of n are set -/
def pb_cnt (n : Nat) : Nat := pb_c (n % 256) + pb_c (n / 256 % 256) + pb_c (n / 65536 % 256) + pb_c (n / 16777216 % 256)
theorem pb_n_of {n : Nat} (h : n < 4294967296) : n = pb_n (n % 256) (n / 256 % 256) (n / 65536 % 256) (n / 16777216 % 256) := by unfold pb_n; omega
theorem pb_all {n : Nat} (h : n < 4294967296) : (pb_f3 (pb_f2 (pb_f1 n)) + pb_f3 (pb_f2 (pb_f1 n)) / 2 ^ 8 + (pb_f3 (pb_f2 (pb_f1 n)) + pb_f3 (pb_f2 (pb_f1 n)) / 2 ^ 8) / 2 ^ 16) &&& 63 = pb_cnt n := by
  have e : pb_f3 (pb_f2 (pb_f1 n)) = pb_n (pb_c (n % 256)) (pb_c (n / 256 % 256)) (pb_c (n / 65536 % 256)) (pb_c (n / 16777216 % 256)) := by
    have h4 := pb_4 (a := n % 256) (b := n / 256 % 256) (c := n / 65536 % 256) (d := n / 16777216 % 256) (by omega) (by omega) (by omega) (by omega)
    rw [← pb_n_of h] at h4
    exact h4
  rw [e, show (63 : Nat) = 2 ^ 6 - 1 from rfl, Nat.and_two_pow_sub_one_eq_mod]
  unfold pb_cnt pb_n
  have h1 := pb_c8 (n % 256)
  have h2 := pb_c8 (n / 256 % 256)
  have h3 := pb_c8 (n / 65536 % 256)
  have h4 := pb_c8 (n / 16777216 % 256)
  generalize pb_c (n % 256) = p at *
  generalize pb_c (n / 256 % 256) = q at *
  generalize pb_c (n / 65536 % 256) = r at *
  generalize pb_c (n / 16777216 % 256) = u at *
  have k1 : (256 * (256 * (256 * u + r) + q) + p) / 2 ^ 8 = 256 * (256 * u + r) + q := by omega
  rw [k1]
  have k2 : (256 * (256 * (256 * u + r) + q) + p + (256 * (256 * u + r) + q)) / 2 ^ 16 = 256 * u + (r + u) := by omega
  rw [k2]
  omega
theorem pb_lt1 {n : Nat} (h : n < 4294967296) : (n / 2 ^ 1) &&& 1431655765 ≤ n := Nat.le_trans Nat.and_le_left (by omega)
theorem pb_lt2 (n : Nat) : pb_f2 n < 4294967296 := by
  have h1 : n &&& 858993459 ≤ 858993459 := Nat.and_le_right
  have h2 : (n / 2 ^ 2) &&& 858993459 ≤ 858993459 := Nat.and_le_right
  unfold pb_f2
  omega
theorem pb_lt3 (n : Nat) : pb_f3 n ≤ 252645135 := Nat.and_le_right
/-- the shift as the machine has it -/
abbrev pb_u (x s : Int32) : Int32 := (x.toUInt32 >>> (s.toUInt32 &&& Int32.toUInt32 31)).toInt32
theorem pb_ush {n : Nat} (h : n < 4294967296) (k : Nat) (hk : k < 32) : pb_u (nI n) (nI k) = nI (n / 2 ^ k) := pk_ushrN h (nI k) k (s_u k hk)
/-- INTEGER.BITCOUNT, as the machine computes it -/
theorem pb_java {n : Nat} (h : n < 4294967296) {i1 i2 i3 i4 i5 : Int32} (e1 : i1 = nI n - (pb_u (nI n) 1 &&& 1431655765)) (e2 : i2 = (i1 &&& 858993459) + (pb_u i1 2 &&& 858993459)) (e3 : i3 = (i2 + pb_u i2 4) &&& 252645135) (e4 : i4 = i3 + pb_u i3 8) (e5 : i5 = i4 + pb_u i4 16) : i5 &&& 63 = nI (pb_cnt n) := by
  have c1 : i1 = nI (pb_f1 n) := by
    rw [e1, show (1 : Int32) = nI 1 from rfl, pb_ush h 1 (by omega), show (1431655765 : Int32) = nI 1431655765 from rfl, nx_and, pk_sub (pb_lt1 h)]
    rfl
  have h1 : pb_f1 n < 4294967296 := by unfold pb_f1; omega
  have c2 : i2 = nI (pb_f2 (pb_f1 n)) := by
    rw [e2, c1, show (2 : Int32) = nI 2 from rfl, pb_ush h1 2 (by omega), show (858993459 : Int32) = nI 858993459 from rfl, nx_and, nx_and, nI_add]
    rfl
  have h2 := pb_lt2 (pb_f1 n)
  have c3 : i3 = nI (pb_f3 (pb_f2 (pb_f1 n))) := by
    rw [e3, c2, show (4 : Int32) = nI 4 from rfl, pb_ush h2 4 (by omega), show (252645135 : Int32) = nI 252645135 from rfl, nI_add, nx_and]
    rfl
  have h3 := pb_lt3 (pb_f2 (pb_f1 n))
  have c4 : i4 = nI (pb_f3 (pb_f2 (pb_f1 n)) + pb_f3 (pb_f2 (pb_f1 n)) / 2 ^ 8) := by
    rw [e4, c3, show (8 : Int32) = nI 8 from rfl, pb_ush (by omega) 8 (by omega), nI_add]
  rw [e5, c4, show (16 : Int32) = nI 16 from rfl, pb_ush (by omega) 16 (by omega), nI_add, show (63 : Int32) = nI 63 from rfl, nx_and, pb_all h]
/-! how many bits: sums over places -/
def pb_sum (f : Nat → Bool) : Nat → Nat
  | 0 => 0
  | n + 1 => pb_sum f n + (f n).toNat
theorem pb_sum_eq {f g : Nat → Bool} : ∀ {n : Nat}, (∀ i, i < n → f i = g i) → pb_sum f n = pb_sum g n
  | 0, _ => rfl
  | n + 1, h => by
    show pb_sum f n + (f n).toNat = pb_sum g n + (g n).toNat
    rw [pb_sum_eq (fun i hi => h i (Nat.lt_succ_of_lt hi)), h n (Nat.lt_succ_self n)]
theorem pb_sum_0 {f : Nat → Bool} : ∀ {n : Nat}, (∀ i, i < n → f i = false) → pb_sum f n = 0
  | 0, _ => rfl
  | n + 1, h => by
    show pb_sum f n + (f n).toNat = 0
    rw [pb_sum_0 (fun i hi => h i (Nat.lt_succ_of_lt hi)), h n (Nat.lt_succ_self n)]
    rfl
theorem pb_sum_all {f : Nat → Bool} : ∀ {n : Nat}, pb_sum f n = 0 → ∀ i, i < n → f i = false
  | 0, _, i, hi => absurd hi (Nat.not_lt_zero i)
  | n + 1, h, i, hi => by
    have h1 : pb_sum f n + (f n).toNat = 0 := h
    rcases Nat.lt_or_ge i n with q | q
    · exact pb_sum_all (by omega) i q
    · have e : i = n := by omega
      rw [e]
      cases hf : f n with
      | false => rfl
      | true => rw [hf] at h1; simp at h1
theorem pb_sum_or {f g : Nat → Bool} : ∀ {n : Nat}, (∀ i, i < n → (f i && g i) = false) → pb_sum (fun i => f i || g i) n = pb_sum f n + pb_sum g n
  | 0, _ => rfl
  | n + 1, h => by
    show pb_sum (fun i => f i || g i) n + (f n || g n).toNat = pb_sum f n + (f n).toNat + (pb_sum g n + (g n).toNat)
    rw [pb_sum_or (fun i hi => h i (Nat.lt_succ_of_lt hi))]
    have h1 := h n (Nat.lt_succ_self n)
    cases hf : f n <;> cases hg : g n <;> rw [hf, hg] at h1 <;> simp at h1 ⊢ <;> omega
theorem pb_sum_le {f g : Nat → Bool} : ∀ {n : Nat}, (∀ i, i < n → f i = true → g i = true) → pb_sum f n ≤ pb_sum g n
  | 0, _ => Nat.le_refl _
  | n + 1, h => by
    show pb_sum f n + (f n).toNat ≤ pb_sum g n + (g n).toNat
    have h1 := pb_sum_le (f := f) (g := g) (n := n) (fun i hi => h i (Nat.lt_succ_of_lt hi))
    have h2 := h n (Nat.lt_succ_self n)
    cases hf : f n <;> cases hg : g n
    · simp; omega
    · simp; omega
    · rw [hf, hg] at h2; simp at h2
    · simp; omega
theorem pb_sum_n (f : Nat → Bool) : ∀ n : Nat, pb_sum f n ≤ n
  | 0 => Nat.le_refl _
  | n + 1 => by
    show pb_sum f n + (f n).toNat ≤ n + 1
    have h1 := pb_sum_n f n
    have h2 := Bool.toNat_le (f n)
    omega
theorem pb_sum_1 {f : Nat → Bool} : ∀ {n : Nat}, pb_sum f n = 1 → ∃ k, k < n ∧ f k = true ∧ ∀ i, i < n → f i = true → i = k
  | 0, h => absurd h (show ¬ ((0 : Nat) = 1) from by decide)
  | n + 1, h => by
    have h1 : pb_sum f n + (f n).toNat = 1 := h
    cases hf : f n with
    | true =>
      rw [hf] at h1
      have h0 : pb_sum f n = 0 := by simp at h1; omega
      refine ⟨n, Nat.lt_succ_self n, hf, fun i hi hi' => ?_⟩
      rcases Nat.lt_or_ge i n with q | q
      · rw [pb_sum_all h0 i q] at hi'; cases hi'
      · omega
    | false =>
      rw [hf] at h1
      obtain ⟨k, hk, hk1, hk2⟩ := pb_sum_1 (f := f) (n := n) (by simpa using h1)
      refine ⟨k, Nat.lt_succ_of_lt hk, hk1, fun i hi hi' => ?_⟩
      rcases Nat.lt_or_ge i n with q | q
      · exact hk2 i q hi'
      · have e : i = n := by omega
        rw [e, hf] at hi'; cases hi'
theorem pb_sum_k (k : Nat) : ∀ n : Nat, pb_sum (fun i => decide (i = k)) n = if k < n then 1 else 0
  | 0 => rfl
  | n + 1 => by
    show pb_sum (fun i => decide (i = k)) n + (decide (n = k)).toNat = _
    rw [pb_sum_k k n]
    by_cases h : n = k
    · subst h; simp
    · by_cases h2 : k < n
      · simp [h, h2, Nat.lt_succ_of_lt h2]
      · have h3 : ¬ k < n + 1 := by omega
        simp [h, h2, h3]
theorem pb_c_8 (n : Nat) : pb_c (n % 256) = n % 2 + n / 2 % 2 + n / 4 % 2 + n / 8 % 2 + n / 16 % 2 + n / 32 % 2 + n / 64 % 2 + n / 128 % 2 := by
  unfold pb_c
  have e1 : n % 256 % 2 = n % 2 := by omega
  have e2 : n % 256 / 2 % 2 = n / 2 % 2 := by omega
  have e3 : n % 256 / 4 % 2 = n / 4 % 2 := by omega
  have e4 : n % 256 / 8 % 2 = n / 8 % 2 := by omega
  have e5 : n % 256 / 16 % 2 = n / 16 % 2 := by omega
  have e6 : n % 256 / 32 % 2 = n / 32 % 2 := by omega
  have e7 : n % 256 / 64 % 2 = n / 64 % 2 := by omega
  have e8 : n % 256 / 128 % 2 = n / 128 % 2 := by omega
  rw [e1, e2, e3, e4, e5, e6, e7, e8]
/-- how many bits an int has -/
def pb_sz (x : Int32) : Nat := pb_cnt x.toBitVec.toNat
theorem pb_bit (x : Int32) (i : Nat) : (bt x i).toNat = x.toBitVec.toNat / 2 ^ i % 2 := by
  show (x.toBitVec.toNat.testBit i).toNat = _
  exact Nat.toNat_testBit _ _
theorem pb_sz_sum (x : Int32) : pb_sz x = pb_sum (bt x) 32 := by
  unfold pb_sz pb_cnt
  rw [pb_c_8, pb_c_8, pb_c_8, pb_c_8]
  simp only [pb_sum, pb_bit, Nat.div_div_eq_div_mul]
  generalize x.toBitVec.toNat = n
  simp only [Nat.reducePow, Nat.reduceMul, Nat.div_one]
  omega
theorem pb_sz_0 : pb_sz 0 = 0 := rfl
theorem pb_sz_n (x : Int32) : pb_sz x ≤ 32 := by rw [pb_sz_sum]; exact pb_sum_n _ _
theorem pb_nI_sz {x : Int32} {i1 i2 i3 i4 i5 : Int32} (e1 : i1 = x - (pb_u x 1 &&& 1431655765)) (e2 : i2 = (i1 &&& 858993459) + (pb_u i1 2 &&& 858993459)) (e3 : i3 = (i2 + pb_u i2 4) &&& 252645135) (e4 : i4 = i3 + pb_u i3 8) (e5 : i5 = i4 + pb_u i4 16) : i5 &&& 63 = nI (pb_sz x) := by
  have ex : x = nI x.toBitVec.toNat := Int32.toBitVec_inj.mp (by show _ = BitVec.ofNat 32 _; simp)
  refine pb_java (n := x.toBitVec.toNat) x.toBitVec.isLt (i1 := i1) ?_ e2 e3 e4 e5
  rw [← ex]
  exact e1
