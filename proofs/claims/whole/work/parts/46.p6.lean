/-! standing, and what is covered -/
/-- the cells of a turned shape at a place are free cells of the house -/
def stdN (fr : Nat → Bool) (n cell : Nat) : Prop := ∀ r, r < 4 → ∀ c, c < 4 → n.testBit (15 - 4 * r - c) = true → cell / 8 + r < 8 ∧ cell % 8 + c < 8 ∧ fr (cell + 8 * r + c) = true
theorem itF2_and {f : Nat → Nat → Bool → Bool} {P : Nat → Nat → Prop} (hf : ∀ r, r < 4 → ∀ c, c < 4 → ∀ a, (f r c a = true ↔ a = true ∧ P r c)) : itF (fun r a => itF (fun c a => f r c a) 0 4 a) 0 4 true = true ↔ ∀ r, r < 4 → ∀ c, c < 4 → P r c := by
  have h := itF_inv (N := 4) (fun r (a : Bool) => a = true ↔ ∀ r', r' < r → ∀ c, c < 4 → P r' c) (fun r a => itF (fun c a => f r c a) 0 4 a) (fun r a hr hI => ?_) 4 0 true rfl ⟨fun _ r' hr' => by omega, fun _ => rfl⟩
  · exact h
  · have h2 := itF_inv (N := 4) (fun c (b : Bool) => b = true ↔ a = true ∧ ∀ c', c' < c → P r c') (fun c a => f r c a) (fun c b hc hI2 => ?_) 4 0 a rfl ⟨fun q => ⟨q, fun c' hc' => by omega⟩, fun q => q.1⟩
    · refine h2.trans ?_
      rw [hI]
      constructor
      · rintro ⟨q1, q2⟩ r' hr' c hc
        rcases Nat.lt_or_ge r' r with w | w
        · exact q1 r' w c hc
        · have : r' = r := by omega
          subst this
          exact q2 c hc
      · intro q
        exact ⟨fun r' hr' => q r' (by omega), fun c hc => q r (by omega) c hc⟩
    · refine (hf r hr c hc b).trans ?_
      rw [hI2]
      constructor
      · rintro ⟨⟨q1, q2⟩, q3⟩
        refine ⟨q1, fun c' hc' => ?_⟩
        rcases Nat.lt_or_ge c' c with w | w
        · exact q2 c' w
        · have : c' = c := by omega
          subst this
          exact q3
      · rintro ⟨q1, q2⟩
        exact ⟨⟨q1, fun c' hc' => q2 c' (by omega)⟩, q2 c (by omega)⟩
theorem cs_iff {fr : Nat → Bool} {g : Nat → Int32} {n cell : Nat} (hn : n < 65536) (hg : ∀ c, c < 64 → (¬ g c = 0 ↔ fr c = true)) : itF (fun r a => itF (fun c a => csStep g (nI n) cell r c a) 0 4 a) 0 4 true = true ↔ stdN fr n cell := by
  unfold stdN
  refine itF2_and (fun r hr c hc a => ?_)
  unfold csStep
  rw [bo_1 r hr c hc, isIn_nI (by omega) (by omega), Bool.and_eq_true]
  refine and_congr Iff.rfl ?_
  by_cases q : n.testBit (15 - 4 * r - c) = true
  · rw [if_pos q]
    by_cases h1 : 8 ≤ cell / 8 + r
    · rw [if_pos h1]
      exact ⟨fun z => (by cases z), fun z => by have := (z q).1; omega⟩
    · rw [if_neg h1]
      by_cases h2 : 8 ≤ cell % 8 + c
      · rw [if_pos h2]
        exact ⟨fun z => (by cases z), fun z => by have := (z q).2.1; omega⟩
      · have e : 8 * (cell / 8 + r) + (cell % 8 + c) = cell + 8 * r + c := by omega
        have hl : cell + 8 * r + c < 64 := by omega
        rw [if_neg h2, e]
        by_cases h3 : g (cell + 8 * r + c) = 0
        · rw [if_pos h3]
          exact ⟨fun z => (by cases z), fun z => absurd h3 ((hg _ hl).mpr (z q).2.2)⟩
        · rw [if_neg h3]
          exact ⟨fun _ _ => ⟨by omega, by omega, (hg _ hl).mp h3⟩, fun _ => rfl⟩
  · rw [if_neg q]
    exact ⟨fun _ z => absurd z q, fun _ => rfl⟩
theorem sf_mask : ∀ c, c < 4 → ∀ d, d < 64 → tbL (72340172838076673 * ((iush 255 (nI c)).toInt64)) d = decide (d % 8 + c < 8) := by decide +kernel
theorem sf_iff {fr : Int64} {n cell : Nat} (hn : n < 65536) (hc : cell < 64) : tbL (itF (fun r a => itF (fun c a => sfStep fr (nI n) r c a) 0 4 a) 0 4 (-1)) cell = true ↔ stdN (tbL fr) n cell := by
  unfold stdN
  have key : ∀ r, r < 4 → ∀ c, c < 4 → ∀ a : Int64, (tbL (sfStep fr (nI n) r c a) cell = true ↔ tbL a cell = true ∧ (n.testBit (15 - 4 * r - c) = true → cell / 8 + r < 8 ∧ cell % 8 + c < 8 ∧ tbL fr (cell + 8 * r + c) = true)) := by
    intro r hr c hc a
    unfold sfStep
    by_cases q : n.testBit (15 - 4 * r - c) = true
    · rw [if_neg (fun z => by rw [(xb_and hn hr hc).mp z] at q; cases q), tbL_and, tbL_and, sf_mask c hc cell (by assumption), show (8 : Int32) * nI r + nI c = nI (8 * r + c) from by rw [show (8 : Int32) = nI 8 from rfl, pk_mul, nI_add], tbL_shr (by omega), Bool.and_eq_true, Bool.and_eq_true, decide_eq_true_iff, show 8 * r + c + cell = cell + 8 * r + c by omega]
      constructor
      · rintro ⟨z1, z2, z3⟩
        refine ⟨z1, fun _ => ⟨?_, z3, z2⟩⟩
        rcases Nat.lt_or_ge (cell + 8 * r + c) 64 with w | w
        · omega
        · rw [tbL_ge w] at z2; cases z2
      · rintro ⟨z1, z2⟩
        obtain ⟨y1, y2, y3⟩ := z2 q
        exact ⟨z1, y3, y2⟩
    · rw [if_pos ((xb_and hn hr hc).mpr (by simpa using q))]
      exact ⟨fun z => ⟨z, fun w => absurd w q⟩, fun z => z.1⟩
  have h := itF_inv (N := 4) (fun r (a : Int64) => tbL a cell = true ↔ ∀ r', r' < r → ∀ c, c < 4 → n.testBit (15 - 4 * r' - c) = true → cell / 8 + r' < 8 ∧ cell % 8 + c < 8 ∧ tbL fr (cell + 8 * r' + c) = true) (fun r a => itF (fun c a => sfStep fr (nI n) r c a) 0 4 a) (fun r a hr hI => ?_) 4 0 (-1) rfl ⟨fun _ r' hr' => by omega, fun _ => tbL_m1 hc⟩
  · exact h
  · have h2 := itF_inv (N := 4) (fun c (b : Int64) => tbL b cell = true ↔ tbL a cell = true ∧ ∀ c', c' < c → n.testBit (15 - 4 * r - c') = true → cell / 8 + r < 8 ∧ cell % 8 + c' < 8 ∧ tbL fr (cell + 8 * r + c') = true) (fun c a => sfStep fr (nI n) r c a) (fun c b hc hI2 => ?_) 4 0 a rfl ⟨fun q => ⟨q, fun c' hc' => by omega⟩, fun q => q.1⟩
    · refine h2.trans ?_
      rw [hI]
      constructor
      · rintro ⟨q1, q2⟩ r' hr' c hc
        rcases Nat.lt_or_ge r' r with w | w
        · exact q1 r' w c hc
        · have : r' = r := by omega
          subst this
          exact q2 c hc
      · intro q
        exact ⟨fun r' hr' => q r' (by omega), fun c hc => q r (by omega) c hc⟩
    · refine (key r hr c hc b).trans ?_
      rw [hI2]
      constructor
      · rintro ⟨⟨q1, q2⟩, q3⟩
        refine ⟨q1, fun c' hc' => ?_⟩
        rcases Nat.lt_or_ge c' c with w | w
        · exact q2 c' w
        · have : c' = c := by omega
          subst this
          exact q3
      · rintro ⟨q1, q2⟩
        exact ⟨⟨q1, fun c' hc' => q2 c' (by omega)⟩, q2 c (by omega)⟩
/-- a shape n at a place covers the cell d -/
def covN (n at_ d : Nat) : Prop := ∃ r, r < 4 ∧ ∃ c, c < 4 ∧ n.testBit (15 - 4 * r - c) = true ∧ d = at_ + 8 * r + c
theorem cc_iff {n at_ d : Nat} (hn : n < 65536) (ha : at_ < 64) (hd : d < 64) : tbL (f_X1_cellsCovered (nI n) (nI at_)) d = true ↔ covN n at_ d := by
  have key : ∀ r, r < 4 → ∀ c, c < 4 → ∀ a : Int64, (tbL (ccStep (nI n) (nI at_) r c a) d = true ↔ tbL a d = true ∨ (n.testBit (15 - 4 * r - c) = true ∧ d = at_ + 8 * r + c)) := by
    intro r hr c hc a
    have e : nI at_ + 8 * nI r + nI c = nI (at_ + 8 * r + c) := by rw [show (8 : Int32) = nI 8 from rfl, pk_mul, nI_add, nI_add]
    unfold ccStep
    rw [e]
    by_cases q : n.testBit (15 - 4 * r - c) = true
    · rw [if_neg (fun z => by rw [(xb_and hn hr hc).mp z] at q; cases q)]
      by_cases w : at_ + 8 * r + c < 64
      · rw [if_pos (show f_X7_within (nI (at_ + 8 * r + c)) 64 = true from within_y (n := 64) (by decide) w), tbL_or, tbL_bit w, Bool.or_eq_true, decide_eq_true_iff]
        exact ⟨fun z => z.elim Or.inl (fun y => Or.inr ⟨q, y⟩), fun z => z.elim Or.inl (fun y => Or.inr y.2)⟩
      · rw [if_neg (fun z => ?_)]
        · exact ⟨Or.inl, fun z => z.elim id (fun y => by omega)⟩
        · obtain ⟨k, hk, ek⟩ := (within_iff (n := 64) (by decide)).mp z
          have := (nI_eq (show at_ + 8 * r + c < 2 ^ 31 by omega) (by omega)).mp ek
          omega
    · rw [if_pos ((xb_and hn hr hc).mpr (by simpa using q))]
      exact ⟨Or.inl, fun z => z.elim id (fun y => absurd y.1 q)⟩
  unfold f_X1_cellsCovered covN
  have h := itF_inv (N := 4) (fun r (a : Int64) => tbL a d = true ↔ ∃ r', r' < r ∧ ∃ c, c < 4 ∧ n.testBit (15 - 4 * r' - c) = true ∧ d = at_ + 8 * r' + c) (fun r a => itF (fun c a => ccStep (nI n) (nI at_) r c a) 0 4 a) (fun r a hr hI => ?_) 4 0 0 rfl ⟨fun q => (by rw [tbL_0] at q; cases q), fun q => by obtain ⟨r', hr', _⟩ := q; omega⟩
  · exact h
  · have h2 := itF_inv (N := 4) (fun c (b : Int64) => tbL b d = true ↔ tbL a d = true ∨ ∃ c', c' < c ∧ n.testBit (15 - 4 * r - c') = true ∧ d = at_ + 8 * r + c') (fun c a => ccStep (nI n) (nI at_) r c a) (fun c b hc hI2 => ?_) 4 0 a rfl ⟨Or.inl, fun q => q.elim id (fun y => by obtain ⟨c', hc', _⟩ := y; omega)⟩
    · refine h2.trans ?_
      rw [hI]
      constructor
      · rintro (⟨r', hr', q⟩ | q)
        · exact ⟨r', by omega, q⟩
        · exact ⟨r, by omega, q⟩
      · rintro ⟨r', hr', q⟩
        rcases Nat.lt_or_ge r' r with w | w
        · exact Or.inl ⟨r', w, q⟩
        · have : r' = r := by omega
          subst this
          exact Or.inr q
    · refine (key r hr c hc b).trans ?_
      rw [hI2]
      constructor
      · rintro ((q | ⟨c', hc', q⟩) | q)
        · exact Or.inl q
        · exact Or.inr ⟨c', by omega, q⟩
        · exact Or.inr ⟨c, by omega, q⟩
      · rintro (q | ⟨c', hc', q⟩)
        · exact Or.inl (Or.inl q)
        · rcases Nat.lt_or_ge c' c with w | w
          · exact Or.inl (Or.inr ⟨c', w, q⟩)
          · have : c' = c := by omega
            subst this
            exact Or.inr q
theorem nI_sub7 : ∀ a, a < 8 → ∀ b, b < 8 → (b ≤ a ∧ nI a - nI b = nI (a - b)) ∨ (a < b ∧ f_X8_in (nI a - nI b).toInt64 0 3 = false) := by decide
theorem in03_n {k : Nat} (h : k < 2 ^ 31) : f_X8_in (nI k).toInt64 0 3 = decide (k < 4) := by
  by_cases q : k < 4
  · rw [decide_eq_true q]; exact (in_nI (m := 3) (by decide)).mpr ⟨k, by omega, rfl⟩
  · rw [decide_eq_false q]
    cases e : f_X8_in (nI k).toInt64 0 3
    · rfl
    · obtain ⟨j, hj, ej⟩ := (in_nI (m := 3) (by decide)).mp e
      have := (nI_eq h (by omega)).mp ej
      omega
theorem cov_iff {fr : Nat → Bool} {n at_ d : Nat} (hn : n < 65536) (ha : at_ < 64) (hd : d < 64) (hs : stdN fr n at_) : f_X8_covers (nI n) (nI at_) (nI d) = true ↔ covN n at_ d := by
  have ed : ∀ x, x < 64 → nI x / 8 = nI (x / 8) := fun x hx => pk_div (d := 8) (by omega) (by decide) (by decide)
  have em : ∀ x, x < 64 → irm (nI x) 8 = nI (x % 8) := fun x hx => irm_nI (d := 8) (by omega) (by decide) (by decide)
  unfold f_X8_covers covN
  rw [ed d hd, ed at_ ha, em d hd, em at_ ha]
  rcases nI_sub7 (d / 8) (by omega) (at_ / 8) (by omega) with ⟨h1, e1⟩ | ⟨h1, e1⟩
  · rcases nI_sub7 (d % 8) (by omega) (at_ % 8) (by omega) with ⟨h2, e2⟩ | ⟨h2, e2⟩
    · rw [e1, e2]
      by_cases q1 : d / 8 - at_ / 8 < 4
      · by_cases q2 : d % 8 - at_ % 8 < 4
        · rw [ic_0 hn q1 q2]
          constructor
          · intro z
            exact ⟨_, q1, _, q2, z, by omega⟩
          · rintro ⟨r, hr, c, hc, z, e⟩
            obtain ⟨y1, y2, y3⟩ := hs r hr c hc z
            have a1 : d / 8 - at_ / 8 = r := by omega
            have a2 : d % 8 - at_ % 8 = c := by omega
            rw [a1, a2]; exact z
        · rw [isCell_c (by rw [in03_n (by omega)]; exact decide_eq_false q2)]
          refine ⟨fun z => (by cases z), ?_⟩
          rintro ⟨r, hr, c, hc, z, e⟩
          obtain ⟨y1, y2, y3⟩ := hs r hr c hc z
          omega
      · rw [isCell_r (by rw [in03_n (by omega)]; exact decide_eq_false q1)]
        refine ⟨fun z => (by cases z), ?_⟩
        rintro ⟨r, hr, c, hc, z, e⟩
        obtain ⟨y1, y2, y3⟩ := hs r hr c hc z
        omega
    · rw [isCell_c e2]
      refine ⟨fun z => (by cases z), ?_⟩
      rintro ⟨r, hr, c, hc, z, e⟩
      obtain ⟨y1, y2, y3⟩ := hs r hr c hc z
      omega
  · rw [isCell_r e1]
    refine ⟨fun z => (by cases z), ?_⟩
    rintro ⟨r, hr, c, hc, z, e⟩
    obtain ⟨y1, y2, y3⟩ := hs r hr c hc z
    omega
theorem mt_iff {f g : Nat → Bool} : ∀ (k i : Nat) (b : Bool), itF (fun c can => can && !(f c && g c)) i k b = true ↔ b = true ∧ ∀ c, i ≤ c → c < i + k → ¬ (f c = true ∧ g c = true)
  | 0, i, b => ⟨fun h => ⟨h, fun c h1 h2 => by omega⟩, fun h => h.1⟩
  | k + 1, i, b => by
    show itF _ (i + 1) k (b && !(f i && g i)) = true ↔ _
    rw [mt_iff k (i + 1), Bool.and_eq_true, Bool.not_eq_true', Bool.and_eq_false_iff]
    constructor
    · rintro ⟨⟨h1, h2⟩, h3⟩
      refine ⟨h1, fun c a1 a2 q => ?_⟩
      rcases Nat.lt_or_ge i c with w | w
      · exact h3 c w (by omega) q
      · have : c = i := by omega
        subst this
        rcases h2 with h2 | h2
        · rw [q.1] at h2; cases h2
        · rw [q.2] at h2; cases h2
    · rintro ⟨h1, h2⟩
      refine ⟨⟨h1, ?_⟩, fun c a1 a2 => h2 c (by omega) (by omega)⟩
      have := h2 i (Nat.le_refl _) (by omega)
      cases e : f i
      · exact Or.inl rfl
      · cases e' : g i
        · exact Or.inr rfl
        · exact absurd ⟨e, e'⟩ this
theorem and0_iff {x y : Int64} : x &&& y = 0 ↔ ∀ c, c < 64 → ¬ (tbL x c = true ∧ tbL y c = true) := by
  constructor
  · rintro h c hc ⟨a, b⟩
    have := congrArg (fun z => tbL z c) h
    simp only [tbL_and, tbL_0, a, b] at this
    cases this
  · intro h
    refine tbL_ext (fun c hc => ?_)
    rw [tbL_and, tbL_0]
    have := h c hc
    cases e : tbL x c
    · rfl
    · cases e' : tbL y c
      · rfl
      · exact absurd ⟨e, e'⟩ this
