/-! the class's rows are the reference's: turning, mirroring, sights -/
theorem xb_1 : ∀ r, r < 4 → ∀ c, c < 4 → f_X2_bit (nI r) (nI c) = nI (2 ^ (15 - 4 * r - c)) := by decide
theorem xb_t : ∀ r, r < 4 → ∀ c, c < 4 → f_X2_bit (nI c) (3 - nI r) = nI (2 ^ (15 - 4 * c - (3 - r))) := by decide
theorem xb_m : ∀ r, r < 4 → ∀ c, c < 4 → f_X2_bit (nI r) (3 - nI c) = nI (2 ^ (15 - 4 * r - (3 - c))) := by decide
theorem and_p2 (n j : Nat) : n &&& 2 ^ j = 0 ↔ n.testBit j = false := by
  constructor
  · intro h
    have h2 := congrArg (fun z => z.testBit j) h
    simp only [Nat.testBit_and, Nat.testBit_two_pow, Nat.zero_testBit, decide_true, Bool.and_true] at h2
    exact h2
  · intro h
    apply Nat.eq_of_testBit_eq
    intro i
    rw [Nat.testBit_and, Nat.testBit_two_pow, Nat.zero_testBit]
    by_cases e : j = i
    · subst e; rw [h]; rfl
    · simp [e]
theorem p2_lt {j : Nat} (h : j < 16) : 2 ^ j < 65536 := Nat.pow_lt_pow_right (n := 16) (by decide) h
theorem xb_and {n r c : Nat} (hn : n < 65536) (hr : r < 4) (hc : c < 4) : nI n &&& f_X2_bit (nI r) (nI c) = 0 ↔ n.testBit (15 - 4 * r - c) = false := by
  rw [xb_1 r hr c hc, nI_and0 hn (p2_lt (by omega)), and_p2]
theorem bitC_if (n j k a : Nat) : bitC n j k a = if n.testBit j then a ||| 2 ^ k else a := by
  rw [bitC, Nat.testBit_eq_decide_div_mod_eq]
  rcases Nat.mod_two_eq_zero_or_one (n / 2 ^ j) with q | q
  · rw [show n / 2 ^ j % 2 ^ 1 = 0 from q]; simp
  · rw [show n / 2 ^ j % 2 ^ 1 = 1 from q]; simp
theorem tc_nI {n : Nat} (hn : n < 65536) : f_X2_turned (nI n) = nI (tnN n) := by
  refine itF_nI (N := 4) (fun r a hr => ?_) 4 0 0 rfl
  refine itF_nI (N := 4) (fun c a hc => ?_) 4 0 a rfl
  rw [tcStep, xb_t r hr c hc, bitC_if]
  by_cases h : n.testBit (15 - 4 * r - c) = true
  · rw [if_neg (fun q => by rw [(xb_and hn hr hc).mp q] at h; cases h), if_pos h, or_nI]
  · rw [if_pos ((xb_and hn hr hc).mpr (by simpa using h)), if_neg h]
theorem mc_nI {n : Nat} (hn : n < 65536) : f_X2_mirrored (nI n) = nI (mrN n) := by
  refine itF_nI (N := 4) (fun r a hr => ?_) 4 0 0 rfl
  refine itF_nI (N := 4) (fun c a hc => ?_) 4 0 a rfl
  rw [mcStep, xb_m r hr c hc, bitC_if]
  by_cases h : n.testBit (15 - 4 * r - c) = true
  · rw [if_neg (fun q => by rw [(xb_and hn hr hc).mp q] at h; cases h), if_pos h, or_nI]
  · rw [if_pos ((xb_and hn hr hc).mpr (by simpa using h)), if_neg h]
theorem trn_go : ∀ (k i : Nat) {n : Nat}, n < 65536 → itF (fun _ a => f_X2_turned a) i k (nI n) = nI (tnK k n)
  | 0, _, _, _ => rfl
  | k + 1, i, n, h => by
    show itF (fun _ a => f_X2_turned a) (i + 1) k (f_X2_turned (nI n)) = nI (tnK k (tnN n))
    rw [tc_nI h]
    exact trn_go k (i + 1) (tnN_lt n)
theorem trn_nI {n : Nat} (t : Nat) (h : n < 65536) : trn t (nI n) = nI (tnK t n) := trn_go t 0 h
theorem tnK_lt : ∀ (k : Nat) {n : Nat}, n < 65536 → tnK k n < 65536
  | 0, _, h => h
  | k + 1, _, _ => tnK_lt k (tnN_lt _)
/-- the bit of the k-th cell of a line, seen from a side -/
def sgP (s line k : Nat) : Nat := if s = 0 then 15 - 4 * k - line else if s = 1 then 15 - 4 * line - (3 - k) else if s = 2 then 15 - 4 * (3 - k) - line else 15 - 4 * line - k
theorem sgP_lt : ∀ s, s < 4 → ∀ line, line < 4 → ∀ k, k < 4 → sgP s line k < 16 := by decide
theorem sg_bo : ∀ s, s < 4 → ∀ line, line < 4 → ∀ k, k < 4 → f_X8_bitOf (if nI s = 0 then nI k else (if nI s = 2 then 3 - nI k else nI line)) (if nI s = 1 then 3 - nI k else (if nI s = 3 then nI k else nI line)) = nI (sgP s line k) := by decide
theorem fo_xb : ∀ s, s < 4 → ∀ line, line < 4 → ∀ k, k < 4 → foCell (nI s) line (k + 1) = nI (2 ^ sgP s line k) := by decide
theorem sgStep_tb {n s line k : Nat} {a : Int32} (hn : n < 65536) (hs : s < 4) (hl : line < 4) (hk : k < 4) : sgStep (nI n) (nI s) (nI line) k a = if n.testBit (sgP s line k) then nI (k + 1) else a := by
  rw [sgStep, sg_bo s hs line hl k hk, isIn_nI (by omega) (by have := sgP_lt s hs line hl k hk; omega), nI_1]
theorem foF_tb {n s line : Nat} (hn : n < 65536) (hs : s < 4) (hl : line < 4) {j k : Nat} (hk : k < 4) : foF (nI n) (nI s) line (j + 1) (k + 1) = if n.testBit (sgP s line k) then nI (k + 1) else foF (nI n) (nI s) line j (k + 2) := by
  rw [foF, fo_xb s hs line hl k hk]
  have e : (nI n &&& nI (2 ^ sgP s line k) = 0) ↔ n.testBit (sgP s line k) = false := by
    rw [nI_and0 hn (p2_lt (sgP_lt s hs line hl k hk)), and_p2]
  by_cases h : n.testBit (sgP s line k) = true
  · rw [if_neg (fun q => by rw [e.mp q] at h; cases h), if_pos h]
  · rw [if_pos (e.mpr (by simpa using h)), if_neg h]
theorem sight_eq {n s : Nat} (hn : n < 65536) (hs : s < 4) : f_X2_sightFrom (nI n) (nI s) = f_X8_sightOf (nI n) (nI s) := by
  unfold f_X2_sightFrom f_X8_sightOf
  refine itF_cong (N := 4) (fun line a hl => ?_) 4 0 0 rfl
  rw [f_X2_farOff, nI_clamp (by omega), foF_tb hn hs hl (j := 3) (k := 0) (by decide), foF_tb hn hs hl (j := 2) (k := 1) (by decide), foF_tb hn hs hl (j := 1) (k := 2) (by decide), foF_tb hn hs hl (j := 0) (k := 3) (by decide), sgStep_tb hn hs hl (by decide), sgStep_tb hn hs hl (by decide), sgStep_tb hn hs hl (by decide), sgStep_tb hn hs hl (by decide)]
  rfl
/-! moved up to the corner -/
def upA (n : Nat) : Nat := if n < 4096 then (if n < 256 then (if n < 16 then 4096 * n else 256 * n) else 16 * n) else n
def lc (n : Nat) : Prop := n % 16 < 8 ∧ n / 16 % 16 < 8 ∧ n / 256 % 16 < 8 ∧ n / 4096 % 16 < 8
theorem lc_byte : ∀ b, b < 256 → (b &&& 136 = 0 ↔ b % 16 < 8 ∧ b / 16 < 8) := by decide +kernel
theorem lc_iff {n : Nat} (h : n < 65536) : n &&& 34952 = 0 ↔ lc n := by
  have e := and_split (a := n / 256) (b := n % 256) (c := 136) (d := 136) (by omega) (by decide)
  rw [show 256 * (n / 256) + n % 256 = n by omega, show 256 * 136 + 136 = 34952 from rfl] at e
  have h1 := lc_byte (n / 256) (by omega)
  have h2 := lc_byte (n % 256) (by omega)
  unfold lc
  constructor
  · intro q
    have a1 := h1.mp (by omega)
    have a2 := h2.mp (by omega)
    omega
  · intro q
    have a1 := h1.mpr (by omega)
    have a2 := h2.mpr (by omega)
    omega
def upB (n : Nat) : Nat := if n &&& 34952 = 0 then (if (2 * n) &&& 34952 = 0 then (if (4 * n) &&& 34952 = 0 then 8 * n else 4 * n) else 2 * n) else n
def muN (n : Nat) : Nat := upB (upA n)
theorem upA_lt {n : Nat} (h : n < 65536) : upA n < 65536 := by unfold upA; split <;> (try split) <;> (try split) <;> omega
theorem upA_top {n : Nat} (h : sh16 n) : 4096 ≤ upA n := by have := h.1; unfold upA; split <;> (try split) <;> (try split) <;> omega
theorem lc_bd {n : Nat} (h : n < 65536) (q : lc n) : 2 * n < 65536 := by unfold lc at q; omega
theorem muA_nI {n : Nat} (h : sh16 n) : muA 3 (nI n) = nI (upA n) := by
  have h1 := h.1
  have h2 := h.2
  unfold upA
  by_cases a : n < 4096
  · rw [if_pos a, muA_s a]
    by_cases b : n < 256
    · rw [if_pos b, muA_s (by omega)]
      by_cases c : n < 16
      · rw [if_pos c, muA_s (by omega), muA, show 16 * (16 * (16 * n)) = 4096 * n by omega]
      · rw [if_neg c, muA_e (by omega) (by omega), show 16 * (16 * n) = 256 * n by omega]
    · rw [if_neg b, muA_e (by omega) (by omega)]
  · rw [if_neg a, muA_e (by omega) (by omega)]
theorem muB_nI {n : Nat} (h : sh16 n) : muB 3 (nI n) = nI (upB n) := by
  have h2 := h.2
  unfold upB
  by_cases a : n &&& 34952 = 0
  · have l1 := lc_bd h2 ((lc_iff h2).mp a)
    rw [if_pos a, muB_s a h2]
    by_cases b : (2 * n) &&& 34952 = 0
    · have l2 := lc_bd l1 ((lc_iff l1).mp b)
      rw [if_pos b, muB_s b l1]
      by_cases c : (4 * n) &&& 34952 = 0
      · have l3 := lc_bd (show 4 * n < 65536 by omega) ((lc_iff (by omega)).mp c)
        rw [if_pos c, show 2 * (2 * n) = 4 * n by omega, muB_s c (by omega), muB, show 2 * (4 * n) = 8 * n by omega]
      · rw [if_neg c, show 2 * (2 * n) = 4 * n by omega, muB_e c (by omega)]
    · rw [if_neg b, muB_e b l1]
  · rw [if_neg a, muB_e a h2]
theorem sh16_upA {n : Nat} (h : sh16 n) : sh16 (upA n) := ⟨by have := upA_top h; omega, upA_lt h.2⟩
theorem mu_nI {n : Nat} (h : sh16 n) : f_X8_movedUp (nI n) = nI (muN n) := by
  rw [f_X8_movedUp, muA_nI h, muB_nI (sh16_upA h)]
  rfl
theorem upB_sh {n : Nat} (h : sh16 n) : sh16 (upB n) := by
  have h1 := h.1
  have h2 := h.2
  unfold upB
  by_cases a : n &&& 34952 = 0
  · have l1 := lc_bd h2 ((lc_iff h2).mp a)
    rw [if_pos a]
    by_cases b : (2 * n) &&& 34952 = 0
    · have l2 := lc_bd l1 ((lc_iff l1).mp b)
      rw [if_pos b]
      by_cases c : (4 * n) &&& 34952 = 0
      · have l3 := lc_bd (show 4 * n < 65536 by omega) ((lc_iff (by omega)).mp c)
        rw [if_pos c]; exact ⟨by omega, by omega⟩
      · rw [if_neg c]; exact ⟨by omega, by omega⟩
    · rw [if_neg b]; exact ⟨by omega, l1⟩
  · rw [if_neg a]; exact h
theorem sh16_mu {n : Nat} (h : sh16 n) : sh16 (muN n) := upB_sh (sh16_upA h)
theorem muN_eq {m n : Nat} (hm : sh16 m) (hn : sh16 n) : f_X8_movedUp (nI m) = f_X8_movedUp (nI n) ↔ muN m = muN n := by
  rw [mu_nI hm, mu_nI hn]
  exact nI_eq (by have := (sh16_mu hm).2; omega) (by have := (sh16_mu hn).2; omega)
theorem mu_16 {m : Nat} (h : m < 4096) (h0 : 0 < m) : muN (16 * m) = muN m := by
  have : upA (16 * m) = upA m := by
    unfold upA
    by_cases b : m < 256
    · rw [if_pos (by omega), if_pos h, if_pos b]
      by_cases c : m < 16
      · rw [if_pos c, if_pos (by omega), if_neg (by omega)]; omega
      · rw [if_neg c, if_neg (by omega)]; omega
    · rw [if_neg (by omega), if_pos h, if_neg b]
  unfold muN
  rw [this]
theorem upA_2 {z : Nat} (h : lc z) (hz : z < 65536) : upA (2 * z) = 2 * upA z := by
  unfold lc at h
  unfold upA
  by_cases a : z < 4096
  · rw [if_pos a, if_pos (by omega)]
    by_cases b : z < 256
    · rw [if_pos b, if_pos (by omega)]
      by_cases c : z < 16
      · rw [if_pos c, if_pos (by omega)]; omega
      · rw [if_neg c, if_neg (by omega)]; omega
    · rw [if_neg b, if_neg (by omega)]; omega
  · rw [if_neg a, if_neg (by omega)]
theorem lc_upA {z : Nat} (h : lc z) (hz : z < 65536) : lc (upA z) := by
  unfold lc at h ⊢
  unfold upA
  split <;> (try split) <;> (try split) <;> omega
theorem lcd {a b c d : Nat} (ha : a < 16) (hb : b < 16) (hc : c < 16) (hd : d < 16) : lc (4096 * a + 256 * b + 16 * c + d) ↔ a < 8 ∧ b < 8 ∧ c < 8 ∧ d < 8 := by
  have e1 : (4096 * a + 256 * b + 16 * c + d) % 16 = d := by omega
  have e2 : (4096 * a + 256 * b + 16 * c + d) / 16 % 16 = c := by omega
  have e3 : (4096 * a + 256 * b + 16 * c + d) / 256 % 16 = b := by omega
  have e4 : (4096 * a + 256 * b + 16 * c + d) / 4096 % 16 = a := by omega
  unfold lc
  rw [e1, e2, e3, e4]
  exact ⟨fun q => ⟨q.2.2.2, q.2.2.1, q.2.1, q.1⟩, fun q => ⟨q.2.2.2, q.2.2.1, q.2.1, q.1⟩⟩
theorem lc_end {z : Nat} (h : z < 65536) (h0 : 0 < z) (h1 : lc z) (h2 : lc (2 * z)) (h4 : lc (4 * z)) (h8 : lc (8 * z)) : False := by
  obtain ⟨a, b, c, d, ha, hb, hc, hd, e⟩ : ∃ a b c d, a < 16 ∧ b < 16 ∧ c < 16 ∧ d < 16 ∧ z = 4096 * a + 256 * b + 16 * c + d := ⟨z / 4096, z / 256 % 16, z / 16 % 16, z % 16, by omega, by omega, by omega, by omega, by omega⟩
  subst e
  have q1 := (lcd ha hb hc hd).mp h1
  rw [show 2 * (4096 * a + 256 * b + 16 * c + d) = 4096 * (2 * a) + 256 * (2 * b) + 16 * (2 * c) + 2 * d by omega, lcd (by omega) (by omega) (by omega) (by omega)] at h2
  rw [show 4 * (4096 * a + 256 * b + 16 * c + d) = 4096 * (4 * a) + 256 * (4 * b) + 16 * (4 * c) + 4 * d by omega, lcd (by omega) (by omega) (by omega) (by omega)] at h4
  rw [show 8 * (4096 * a + 256 * b + 16 * c + d) = 4096 * (8 * a) + 256 * (8 * b) + 16 * (8 * c) + 8 * d by omega, lcd (by omega) (by omega) (by omega) (by omega)] at h8
  omega
theorem upB_2 {z : Nat} (h : sh16 z) (hl : lc z) : upB (2 * z) = upB z := by
  have h1 := h.1
  have h2 := h.2
  have l1 := lc_bd h2 hl
  unfold upB
  rw [if_pos ((lc_iff h2).mpr hl)]
  by_cases b : (2 * z) &&& 34952 = 0
  · have l2 := lc_bd l1 ((lc_iff l1).mp b)
    rw [if_pos b, if_pos b, show 2 * (2 * z) = 4 * z by omega, show 4 * (2 * z) = 8 * z by omega]
    by_cases c : (4 * z) &&& 34952 = 0
    · have l3 := lc_bd (show 4 * z < 65536 by omega) ((lc_iff (by omega)).mp c)
      have q1 := (lc_iff (show 4 * z < 65536 by omega)).mp c
      have q2 := (lc_iff l1).mp b
      rw [if_pos c, if_pos c, if_neg (fun q => ?_)]
      have q3 := (lc_iff (show 8 * z < 65536 by omega)).mp q
      exact lc_end h2 h1 hl q2 q1 q3
    · rw [if_neg c, if_neg c]
  · rw [if_neg b, if_neg b]
theorem mu_2 {z : Nat} (h : sh16 z) (hl : lc z) : muN (2 * z) = muN z := by
  unfold muN
  rw [upA_2 hl h.2, upB_2 (sh16_upA h) (lc_upA hl h.2)]
theorem lc_tb {z : Nat} (h : z < 65536) (hl : lc z) : z.testBit 3 = false ∧ z.testBit 7 = false ∧ z.testBit 11 = false ∧ z.testBit 15 = false := by
  have e := (lc_iff h).mpr hl
  have f : ∀ j, Nat.testBit 34952 j = true → z.testBit j = false := fun j hj => by
    have := congrArg (fun y => y.testBit j) e
    simp only [Nat.testBit_and, hj, Nat.zero_testBit, Bool.and_true] at this
    exact this
  exact ⟨f 3 (by decide), f 7 (by decide), f 11 (by decide), f 15 (by decide)⟩
theorem tn_2 {m : Nat} (h : m < 65536) (hl : lc m) : tnN (2 * m) = 16 * tnN m := by
  obtain ⟨b3, b7, b11, b15⟩ := lc_tb h hl
  apply Nat.eq_of_testBit_eq
  intro i
  rw [show 16 * tnN m = tnN m * 2 ^ 4 by omega, Nat.testBit_mul_two_pow, tnN_tb, tnN_tb, show 2 * m = m * 2 ^ 1 by omega, Nat.testBit_mul_two_pow]
  by_cases hi : i < 16
  · rcases (show i = 0 ∨ i = 1 ∨ i = 2 ∨ i = 3 ∨ i = 4 ∨ i = 5 ∨ i = 6 ∨ i = 7 ∨ i = 8 ∨ i = 9 ∨ i = 10 ∨ i = 11 ∨ i = 12 ∨ i = 13 ∨ i = 14 ∨ i = 15 by omega) with rfl | rfl | rfl | rfl | rfl | rfl | rfl | rfl | rfl | rfl | rfl | rfl | rfl | rfl | rfl | rfl <;> simp [tnP, b3, b7, b11, b15]
  · rcases (show i = 16 ∨ i = 17 ∨ i = 18 ∨ i = 19 ∨ 20 ≤ i by omega) with rfl | rfl | rfl | rfl | q
    · simp [tnP, b3, b7, b11, b15]
    · simp [tnP, b3, b7, b11, b15]
    · simp [tnP, b3, b7, b11, b15]
    · simp [tnP, b3, b7, b11, b15]
    · rw [decide_eq_false hi, decide_eq_false (show ¬ i - 4 < 16 by omega)]; simp
theorem tn_16 {m : Nat} (h : m < 4096) : tnN m = 2 * tnN (16 * m) := by
  have t : ∀ j, 12 ≤ j → m.testBit j = false := fun j hj => Nat.testBit_lt_two_pow (Nat.lt_of_lt_of_le h (Nat.pow_le_pow_right (n := 2) (by decide) hj))
  have t12 := t 12 (by decide)
  have t13 := t 13 (by decide)
  have t14 := t 14 (by decide)
  have t15 := t 15 (by decide)
  apply Nat.eq_of_testBit_eq
  intro i
  rw [show 2 * tnN (16 * m) = tnN (16 * m) * 2 ^ 1 by omega, Nat.testBit_mul_two_pow, tnN_tb, tnN_tb, show 16 * m = m * 2 ^ 4 by omega, Nat.testBit_mul_two_pow]
  by_cases hi : i < 16
  · rcases (show i = 0 ∨ i = 1 ∨ i = 2 ∨ i = 3 ∨ i = 4 ∨ i = 5 ∨ i = 6 ∨ i = 7 ∨ i = 8 ∨ i = 9 ∨ i = 10 ∨ i = 11 ∨ i = 12 ∨ i = 13 ∨ i = 14 ∨ i = 15 by omega) with rfl | rfl | rfl | rfl | rfl | rfl | rfl | rfl | rfl | rfl | rfl | rfl | rfl | rfl | rfl | rfl <;> simp [tnP, t12, t13, t14, t15]
  · rcases (show i = 16 ∨ 17 ≤ i by omega) with rfl | q
    · simp [tnP, t12, t13, t14, t15]
    · rw [decide_eq_false hi, decide_eq_false (show ¬ i - 1 < 16 by omega)]; simp
theorem lc_tnP : ∀ i, i < 16 → Nat.testBit 34952 i = true → tnP i < 4 := by decide
theorem lc_tn16 {m : Nat} (h : m < 4096) : lc (tnN (16 * m)) := by
  refine (lc_iff (tnN_lt _)).mp ?_
  apply Nat.eq_of_testBit_eq
  intro i
  rw [Nat.testBit_and, Nat.zero_testBit, tnN_tb]
  by_cases hi : i < 16
  · cases q : Nat.testBit 34952 i
    · rw [Bool.and_false]
    · have := lc_tnP i hi q
      rw [show 16 * m = m * 2 ^ 4 by omega, Nat.testBit_mul_two_pow, decide_eq_false (show ¬ 4 ≤ tnP i by omega)]
      simp
  · rw [decide_eq_false hi]; rfl
theorem mt_16 {m : Nat} (h0 : 0 < m) (h : m < 4096) : muN (tnN (16 * m)) = muN (tnN m) := by
  rw [tn_16 h, mu_2 (sh16_tn ⟨by omega, by omega⟩) (lc_tn16 h)]
theorem mt_2 {m : Nat} (h : sh16 m) (hl : lc m) : muN (tnN (2 * m)) = muN (tnN m) := by
  have e := tn_2 h.2 hl
  have l := tnN_lt (2 * m)
  rw [e, mu_16 (by omega) (sh16_tn h).1]
theorem mt_A {n : Nat} (h : sh16 n) : muN (tnN (upA n)) = muN (tnN n) := by
  have h1 := h.1
  unfold upA
  by_cases a : n < 4096
  · rw [if_pos a]
    by_cases b : n < 256
    · rw [if_pos b]
      by_cases c : n < 16
      · rw [if_pos c, show 4096 * n = 16 * (16 * (16 * n)) by omega, mt_16 (by omega) (by omega), mt_16 (by omega) (by omega), mt_16 h1 a]
      · rw [if_neg c, show 256 * n = 16 * (16 * n) by omega, mt_16 (by omega) (by omega), mt_16 h1 a]
    · rw [if_neg b, mt_16 h1 a]
  · rw [if_neg a]
theorem mt_B {n : Nat} (h : sh16 n) : muN (tnN (upB n)) = muN (tnN n) := by
  have h1 := h.1
  have h2 := h.2
  unfold upB
  by_cases a : n &&& 34952 = 0
  · have k1 := (lc_iff h2).mp a
    have l1 := lc_bd h2 k1
    rw [if_pos a]
    by_cases b : (2 * n) &&& 34952 = 0
    · have k2 := (lc_iff l1).mp b
      have l2 := lc_bd l1 k2
      rw [if_pos b]
      by_cases c : (4 * n) &&& 34952 = 0
      · have k3 := (lc_iff (show 4 * n < 65536 by omega)).mp c
        rw [if_pos c, show 8 * n = 2 * (4 * n) by omega, mt_2 ⟨by omega, by omega⟩ k3, show 4 * n = 2 * (2 * n) by omega, mt_2 ⟨by omega, by omega⟩ k2, mt_2 h k1]
      · rw [if_neg c, show 4 * n = 2 * (2 * n) by omega, mt_2 ⟨by omega, by omega⟩ k2, mt_2 h k1]
    · rw [if_neg b, mt_2 h k1]
  · rw [if_neg a]
theorem mt_mu {n : Nat} (h : sh16 n) : muN (tnN (muN n)) = muN (tnN n) := by
  unfold muN
  rw [show upB (upA (tnN (upB (upA n)))) = muN (tnN (upB (upA n))) from rfl, mt_B (sh16_upA h), mt_A h]
  rfl
theorem mt_cong {m n : Nat} (hm : sh16 m) (hn : sh16 n) (e : muN m = muN n) : ∀ k, muN (tnK k m) = muN (tnK k n) := by
  intro k
  induction k generalizing m n with
  | zero => exact e
  | succ k ih =>
    show muN (tnK k (tnN m)) = muN (tnK k (tnN n))
    exact ih (sh16_tn hm) (sh16_tn hn) (by rw [← mt_mu hm, ← mt_mu hn, e])
theorem one_sym {m n : Nat} (hm : sh16 m) (hn : sh16 n) {t : Nat} (ht : t < 4) (e : muN (tnK t m) = muN n) : ∃ u, u < 4 ∧ muN (tnK u n) = muN m := by
  have h := mt_cong (sh16_tnK t hm) hn e (4 - t)
  rw [tnK_add, show t + (4 - t) = 4 by omega, tnK_4 hm.2] at h
  rcases Nat.eq_zero_or_pos t with q | q
  · subst q
    exact ⟨0, by decide, e.symm⟩
  · exact ⟨4 - t, by omega, h.symm⟩
theorem isOne_iff {m n : Nat} (hm : sh16 m) (hn : sh16 n) : f_X8_isOne (nI m) (nI n) = true ↔ ∃ t, t < 4 ∧ muN (tnK t m) = muN n := by
  have hv : ∀ t, t < 4 → decide (f_X8_movedUp (f_X8_turned (nI m) (nI t)) = f_X8_movedUp (nI n)) = decide (muN (tnK t m) = muN n) := fun t ht => by
    rw [turned_nI hm.2 (by omega)]
    exact decide_eq_decide.mpr (muN_eq (sh16_tnK t hm) hn)
  unfold f_X8_isOne
  simp only [itF, Nat.reduceAdd]
  rw [hv 0 (by decide), hv 1 (by decide), hv 2 (by decide), hv 3 (by decide)]
  simp only [Bool.or_eq_true, decide_eq_true_iff, Bool.false_eq_true, false_or]
  constructor
  · rintro (((h | h) | h) | h)
    · exact ⟨0, by decide, h⟩
    · exact ⟨1, by decide, h⟩
    · exact ⟨2, by decide, h⟩
    · exact ⟨3, by decide, h⟩
  · rintro ⟨t, ht, h⟩
    rcases (show t = 0 ∨ t = 1 ∨ t = 2 ∨ t = 3 by omega) with rfl | rfl | rfl | rfl
    · exact Or.inl (Or.inl (Or.inl h))
    · exact Or.inl (Or.inl (Or.inr h))
    · exact Or.inl (Or.inr h)
    · exact Or.inr h
theorem arF_iff {w : Nat} (hw : sh16 w) : ∀ (k : Nat) {o : Nat}, sh16 o → (arF k (nI (muN w)) (nI o) = true ↔ ∃ t, t < k ∧ muN (tnK t o) = muN w)
  | 0, o, _ => by
    constructor
    · intro h; cases h
    · rintro ⟨t, ht, _⟩; omega
  | k + 1, o, ho => by
    have e : (f_X2_movedUp (nI o) = nI (muN w)) ↔ muN o = muN w := by
      rw [f_X2_movedUp, mu_nI ho]
      exact nI_eq (by have := (sh16_mu ho).2; omega) (by have := (sh16_mu hw).2; omega)
    rw [arF]
    by_cases q : muN o = muN w
    · rw [if_pos (e.mpr q)]
      exact ⟨fun _ => ⟨0, by omega, q⟩, fun _ => rfl⟩
    · rw [if_neg (fun z => q (e.mp z)), tc_nI ho.2, arF_iff hw k (sh16_tn ho)]
      constructor
      · rintro ⟨t, ht, h⟩
        exact ⟨t + 1, by omega, h⟩
      · rintro ⟨t, ht, h⟩
        cases t with
        | zero => exact absurd h q
        | succ t => exact ⟨t, by omega, h⟩
theorem areOne_iff {m n : Nat} (hm : sh16 m) (hn : sh16 n) : f_X2_areOne (nI m) (nI n) = true ↔ ∃ t, t < 4 ∧ muN (tnK t n) = muN m := by
  unfold f_X2_areOne
  rw [f_X2_movedUp, mu_nI hm]
  exact arF_iff hm 4 hn
theorem one_eq {m n : Nat} (hm : sh16 m) (hn : sh16 n) : f_X2_areOne (nI m) (nI n) = f_X8_isOne (nI m) (nI n) := by
  rw [Bool.eq_iff_iff, areOne_iff hm hn, isOne_iff hm hn]
  constructor
  · rintro ⟨t, ht, h⟩; exact one_sym hn hm ht h
  · rintro ⟨t, ht, h⟩; exact one_sym hm hn ht h
theorem one_eq' {m n : Nat} (hm : sh16 m) (hn : sh16 n) : f_X2_areOne (nI m) (nI n) = f_X8_isOne (nI n) (nI m) := by
  rw [Bool.eq_iff_iff, areOne_iff hm hn, isOne_iff hn hm]
theorem self_eq {n : Nat} (h : sh16 n) : f_X2_turnsTillAlike (nI n) = slf (nI n) := by
  unfold f_X2_turnsTillAlike slf
  simp only [taF, f_X2_movedUp]
  rw [tc_nI h.2, tc_nI (tnN_lt _), tc_nI (tnN_lt _), show (1 : Int32) = nI 1 from rfl, show (2 : Int32) = nI 2 from rfl, show (3 : Int32) = nI 3 from rfl, turned_nI h.2 (by decide), turned_nI h.2 (by decide), turned_nI h.2 (by decide)]
  rfl
