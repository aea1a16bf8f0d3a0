/-! numbers of 16 bits: what turning and mirroring do to their bits -/
theorem isar_nI {n k : Nat} (hk : k < 32) (h : n < 2 ^ 31) : isar (nI n) (nI k) = nI (n / 2 ^ k) := pk_shrN h _ k (sh_l k hk)
theorem or_nI (a b : Nat) : nI a ||| nI b = nI (a ||| b) := by
  apply Int32.toBitVec_inj.mp
  show BitVec.ofNat 32 a ||| BitVec.ofNat 32 b = BitVec.ofNat 32 (a ||| b)
  simp [BitVec.ofNat_or]
theorem and_nI (a b : Nat) : nI a &&& nI b = nI (a &&& b) := by
  apply Int32.toBitVec_inj.mp
  show BitVec.ofNat 32 a &&& BitVec.ofNat 32 b = BitVec.ofNat 32 (a &&& b)
  simp [BitVec.ofNat_and]
theorem and1_nI {n : Nat} : nI n &&& 1 = nI (n % 2) := by
  rw [show (1 : Int32) = nI 1 from rfl, and_nI, Nat.and_one_is_mod]
theorem bo_1 : ∀ r, r < 4 → ∀ c, c < 4 → f_X8_bitOf (nI r) (nI c) = nI (15 - 4 * r - c) := by decide
theorem bo_t : ∀ r, r < 4 → ∀ c, c < 4 → f_X8_bitOf (nI c) (3 - nI r) = nI (15 - 4 * c - (3 - r)) := by decide
theorem bo_m : ∀ r, r < 4 → ∀ c, c < 4 → f_X8_bitOf (nI r) (3 - nI c) = nI (15 - 4 * r - (3 - c)) := by decide
def bitC (n j k a : Nat) : Nat := a ||| (n / 2 ^ j % 2 ^ 1) * 2 ^ k
theorem bitC_lt {n j k a : Nat} (hk : k < 16) (ha : a < 65536) : bitC n j k a < 65536 := by
  have h1 : n / 2 ^ j % 2 ^ 1 < 2 := Nat.mod_lt _ (by decide)
  have h2 : n / 2 ^ j % 2 ^ 1 * 2 ^ k < 2 ^ 16 := by
    have : 2 ^ k ≤ 2 ^ 15 := Nat.pow_le_pow_right (by decide) (by omega)
    have h3 : n / 2 ^ j % 2 ^ 1 * 2 ^ k ≤ 1 * 2 ^ k := Nat.mul_le_mul_right _ (by omega)
    omega
  exact Nat.or_lt_two_pow (n := 16) ha h2
theorem bitC_nI {n j k a : Nat} (hn : n < 65536) (hj : j < 16) (hk : k < 16) : nI a ||| (ishl ((isar (nI n) (nI j)) &&& 1) (nI k)) = nI (bitC n j k a) := by
  have h1 : n / 2 ^ j % 2 < 2 := Nat.mod_lt _ (by decide)
  rw [isar_nI (by omega) (by omega), and1_nI, ishl_nI (by omega), or_nI]
  · rfl
  · have : 2 ^ k ≤ 2 ^ 15 := Nat.pow_le_pow_right (by decide) (by omega)
    have h3 : n / 2 ^ j % 2 * 2 ^ k ≤ 1 * 2 ^ k := Nat.mul_le_mul_right _ (by omega)
    omega
def tnN (n : Nat) : Nat := itF (fun r a => itF (fun c a => bitC n (15 - 4 * r - c) (15 - 4 * c - (3 - r)) a) 0 4 a) 0 4 0
def mrN (n : Nat) : Nat := itF (fun r a => itF (fun c a => bitC n (15 - 4 * r - c) (15 - 4 * r - (3 - c)) a) 0 4 a) 0 4 0
theorem itF_nI {f : Nat → Int32 → Int32} {g : Nat → Nat → Nat} {N : Nat} (h : ∀ i a, i < N → f i (nI a) = nI (g i a)) : ∀ (k i a : Nat), i + k = N → itF f i k (nI a) = nI (itF g i k a)
  | 0, _, _, _ => rfl
  | k + 1, i, a, e => by
    show itF f (i + 1) k (f i (nI a)) = nI (itF g (i + 1) k (g i a))
    rw [h i a (by omega)]
    exact itF_nI h k (i + 1) _ (by omega)
theorem tn_nI {n : Nat} (hn : n < 65536) : f_X8_turnedOnce (nI n) = nI (tnN n) := by
  refine itF_nI (N := 4) (fun r a hr => ?_) 4 0 0 rfl
  refine itF_nI (N := 4) (fun c a hc => ?_) 4 0 a rfl
  rw [tnStep, bo_1 r hr c hc, bo_t r hr c hc]
  exact bitC_nI hn (by omega) (by omega)
theorem mr_nI {n : Nat} (hn : n < 65536) : f_X8_mirrored (nI n) = nI (mrN n) := by
  refine itF_nI (N := 4) (fun r a hr => ?_) 4 0 0 rfl
  refine itF_nI (N := 4) (fun c a hc => ?_) 4 0 a rfl
  rw [mrStep, bo_1 r hr c hc, bo_m r hr c hc]
  exact bitC_nI hn (by omega) (by omega)
theorem bitC_tb {n j k a i : Nat} : (bitC n j k a).testBit i = (a.testBit i || (decide (i = k) && n.testBit j)) := by
  rw [bitC, Nat.testBit_or, Nat.testBit_mul_two_pow, Nat.testBit_mod_two_pow, Nat.testBit_div_two_pow]
  congr 1
  by_cases h : i = k
  · subst h; simp
  · rcases Nat.lt_or_gt_of_ne h with q | q
    · simp [show ¬ k ≤ i by omega, h]
    · simp [show ¬ i - k < 1 by omega, h]
/-- the bit that comes to i -/
def tnP (i : Nat) : Nat := 15 - 4 * (3 - (15 - i) % 4) - (15 - i) / 4
def mrP (i : Nat) : Nat := 15 - 4 * ((15 - i) / 4) - (3 - (15 - i) % 4)
theorem tnN_tb (n i : Nat) : (tnN n).testBit i = (decide (i < 16) && n.testBit (tnP i)) := by
  simp only [tnN, itF, bitC_tb, Nat.zero_testBit, Bool.false_or]
  by_cases h : i < 16
  · rcases (show i = 0 ∨ i = 1 ∨ i = 2 ∨ i = 3 ∨ i = 4 ∨ i = 5 ∨ i = 6 ∨ i = 7 ∨ i = 8 ∨ i = 9 ∨ i = 10 ∨ i = 11 ∨ i = 12 ∨ i = 13 ∨ i = 14 ∨ i = 15 by omega) with rfl | rfl | rfl | rfl | rfl | rfl | rfl | rfl | rfl | rfl | rfl | rfl | rfl | rfl | rfl | rfl <;> simp [tnP]
  · have e : ∀ k, k < 16 → decide (i = k) = false := fun k hk => decide_eq_false (by omega)
    simp [e, h]
theorem mrN_tb (n i : Nat) : (mrN n).testBit i = (decide (i < 16) && n.testBit (mrP i)) := by
  simp only [mrN, itF, bitC_tb, Nat.zero_testBit, Bool.false_or]
  by_cases h : i < 16
  · rcases (show i = 0 ∨ i = 1 ∨ i = 2 ∨ i = 3 ∨ i = 4 ∨ i = 5 ∨ i = 6 ∨ i = 7 ∨ i = 8 ∨ i = 9 ∨ i = 10 ∨ i = 11 ∨ i = 12 ∨ i = 13 ∨ i = 14 ∨ i = 15 by omega) with rfl | rfl | rfl | rfl | rfl | rfl | rfl | rfl | rfl | rfl | rfl | rfl | rfl | rfl | rfl | rfl <;> simp [mrP]
  · have e : ∀ k, k < 16 → decide (i = k) = false := fun k hk => decide_eq_false (by omega)
    simp [e, h]
theorem lt16 {n : Nat} (h : ∀ i, 16 ≤ i → n.testBit i = false) : n < 65536 := Nat.lt_pow_two_of_testBit n (n := 16) (fun i hi => h i hi)
theorem tb16 {n i : Nat} (h : n < 65536) (hi : 16 ≤ i) : n.testBit i = false := Nat.testBit_lt_two_pow (Nat.lt_of_lt_of_le h (Nat.pow_le_pow_right (n := 2) (by decide) hi))
theorem tnN_lt (n : Nat) : tnN n < 65536 := lt16 (fun i hi => by rw [tnN_tb, decide_eq_false (by omega)]; rfl)
theorem mrN_lt (n : Nat) : mrN n < 65536 := lt16 (fun i hi => by rw [mrN_tb, decide_eq_false (by omega)]; rfl)
theorem pos_tb {n : Nat} : 0 < n ↔ ∃ i, n.testBit i = true := by
  constructor
  · intro h
    obtain ⟨i, hi⟩ := Nat.exists_testBit_of_ne_zero (show n ≠ 0 by omega)
    exact ⟨i, hi⟩
  · rintro ⟨i, hi⟩
    rcases Nat.eq_zero_or_pos n with e | e
    · rw [e, Nat.zero_testBit] at hi; cases hi
    · exact e
theorem tnP_inv : ∀ i, i < 16 → tnP (tnP (tnP (tnP i))) = i ∧ tnP i < 16 := by decide
theorem mrP_inv : ∀ i, i < 16 → mrP (mrP i) = i ∧ mrP i < 16 := by decide
theorem tnN_pos {n : Nat} (h : 0 < n) (h2 : n < 65536) : 0 < tnN n := by
  obtain ⟨i, hi⟩ := pos_tb.mp h
  have h16 : i < 16 := by
    rcases Nat.lt_or_ge i 16 with q | q
    · exact q
    · rw [tb16 h2 q] at hi; cases hi
  have q := tnP_inv i h16
  have q3 := (tnP_inv _ (tnP_inv _ q.2).2).2
  refine pos_tb.mpr ⟨tnP (tnP (tnP i)), ?_⟩
  rw [tnN_tb, decide_eq_true q3, q.1, hi]
  rfl
theorem mrN_pos {n : Nat} (h : 0 < n) (h2 : n < 65536) : 0 < mrN n := by
  obtain ⟨i, hi⟩ := pos_tb.mp h
  have h16 : i < 16 := by
    rcases Nat.lt_or_ge i 16 with q | q
    · exact q
    · rw [tb16 h2 q] at hi; cases hi
  have q := mrP_inv i h16
  refine pos_tb.mpr ⟨mrP i, ?_⟩
  rw [mrN_tb, decide_eq_true q.2, q.1, hi]
  rfl
/-- four rows that are not all empty, as a number -/
def sh16 (n : Nat) : Prop := 0 < n ∧ n < 65536
theorem sh16_p {n : Nat} (h : sh16 n) : p_X8_movedUp (nI n) := by
  unfold p_X8_movedUp
  rw [uI_nI (by have := h.2; omega)]
  exact h
theorem sh16_tn {n : Nat} (h : sh16 n) : sh16 (tnN n) := ⟨tnN_pos h.1 h.2, tnN_lt n⟩
theorem sh16_mr {n : Nat} (h : sh16 n) : sh16 (mrN n) := ⟨mrN_pos h.1 h.2, mrN_lt n⟩
def tnK : Nat → Nat → Nat
  | 0, n => n
  | k + 1, n => tnK k (tnN n)
theorem sh16_tnK : ∀ (k : Nat) {n : Nat}, sh16 n → sh16 (tnK k n)
  | 0, _, h => h
  | k + 1, _, h => sh16_tnK k (sh16_tn h)
theorem tnK_nI : ∀ (k i : Nat) {n : Nat}, n < 65536 → itF (fun _ a => f_X8_turnedOnce a) i k (nI n) = nI (tnK k n)
  | 0, _, _, _ => rfl
  | k + 1, i, n, h => by
    show itF (fun _ a => f_X8_turnedOnce a) (i + 1) k (f_X8_turnedOnce (nI n)) = nI (tnK k (tnN n))
    rw [tn_nI h]
    exact tnK_nI k (i + 1) (tnN_lt n)
theorem turned_nI {n t : Nat} (h : n < 65536) (ht : t < 2 ^ 31) : f_X8_turned (nI n) (nI t) = nI (tnK t n) := by
  rw [f_X8_turned, nI_clamp ht]
  exact tnK_nI t 0 h
theorem tnK_add : ∀ (j k n : Nat), tnK j (tnK k n) = tnK (k + j) n
  | j, 0, n => by rw [Nat.zero_add]; rfl
  | j, k + 1, n => by
    show tnK j (tnK k (tnN n)) = _
    rw [tnK_add j k (tnN n), show k + 1 + j = (k + j) + 1 by omega]
    rfl
theorem tnK_4 {n : Nat} (h : n < 65536) : tnK 4 n = n := by
  show tnN (tnN (tnN (tnN n))) = n
  apply Nat.eq_of_testBit_eq
  intro i
  rw [tnN_tb]
  by_cases hi : i < 16
  · have q := tnP_inv i hi
    have q2 := tnP_inv _ q.2
    have q3 := tnP_inv _ q2.2
    rw [tnN_tb, tnN_tb, tnN_tb, decide_eq_true hi, decide_eq_true q.2, decide_eq_true q2.2, decide_eq_true q3.2, q.1]
    rfl
  · rw [decide_eq_false hi, tb16 h (by omega)]
    rfl
