set_option maxRecDepth 20000 in
theorem ggX8_reads_X8_readsShapes : GoodIn wsX8_reads wsX8_readsShapes := goodIn_r _ [5, 6, 7, 8, 9, 10, 11, 4, 12, 13, 14, 15, 16, 17, 18, 19, 20, 21, 22, 23, 24, 25, 26, 27, 28, 29, 43, 44, 45, 46, 47, 48, 49, 50, 51, 52, 53, 54, 55, 56, 57, 58, 59, 60] (by decide +kernel) (by decide +kernel)
set_option maxRecDepth 20000 in
theorem gX8_reads_X8_readsShapes : GoodIn wsX8_reads (wsV RX8 118 RX8 yX8_readsShapes wsX8_readsShapes) := goodIn_app (goodIn_of _ (by decide +kernel)) ggX8_reads_X8_readsShapes
set_option maxRecDepth 20000 in
theorem ggX8_reads_X8_readsHouse : GoodIn wsX8_reads wsX8_readsHouse := goodIn_r _ [33, 6, 8, 34, 35, 36, 4, 37, 38, 39, 40, 41, 42, 18, 19, 20, 21, 22, 43, 44, 45, 46, 47, 48, 49, 50, 51, 52, 53, 54, 55, 56, 57, 58, 59, 60] (by decide +kernel) (by decide +kernel)
set_option maxRecDepth 20000 in
theorem gX8_reads_X8_readsHouse : GoodIn wsX8_reads (wsV RX8 121 RX8 yX8_readsHouse wsX8_readsHouse) := goodIn_app (goodIn_of _ (by decide +kernel)) ggX8_reads_X8_readsHouse
theorem dX8_reads_0 : decode cX8_reads 0 = .ok (.aload_n 0, 1) := by decide +kernel
theorem dX8_reads_1 : decode cX8_reads 1 = .ok (.invokevirtual 118, 3) := by decide +kernel
theorem dX8_reads_4 : decode cX8_reads 4 = .ok (.pop, 1) := by decide +kernel
theorem dX8_reads_5 : decode cX8_reads 5 = .ok (.aload_n 0, 1) := by decide +kernel
theorem dX8_reads_6 : decode cX8_reads 6 = .ok (.invokevirtual 121, 3) := by decide +kernel
theorem dX8_reads_9 : decode cX8_reads 9 = .ok (.pop, 1) := by decide +kernel
theorem dX8_reads_10 : decode cX8_reads 10 = .ok (.return_, 1) := by decide +kernel
set_option maxRecDepth 100000 in
theorem r_X8_reads_0 {X : Bn} (C : Cx X cX8_reads 1 RX8 wsX8_reads 3 70) (ad : Nat → Nat) (S : MS) (h : ∃ (r1 : Int32) (S1 : MS), (Fn X.l X.D X.E X.a1 X.a2 yX8_readsShapes wsX8_readsShapes 2 49 [.ref (ad 0)] (mW X.E ad S) (some (.int r1)) (mW X.E ad S1)) ∧ (∃ (r2 : Int32) (S2 : MS), (Fn X.l X.D X.E X.a1 X.a2 yX8_readsHouse wsX8_readsHouse 2 45 [.ref (ad 0)] (mW X.E ad S1) (some (.int r2)) (mW X.E ad S2)) ∧ (Ends X (none) none (mW X.E ad S2)))) : At X 1 (mW X.E ad S) 0 [(0, .ref (ad 0))] [] := by
  refine at_aload_n C dX8_reads_0 rfl (j := 0) rfl ?_
  obtain ⟨r1, S1, hF1, h⟩ := h
  refine at_cV1 C 0 hF1 gX8_reads_X8_readsShapes rfl (by decide +kernel) ⟨rfl, rfl⟩ rfl rfl rfl 0 mW_c0 rfl dX8_reads_1 ?_
  refine at_pop C dX8_reads_4 rfl ?_
  refine at_aload_n C dX8_reads_5 rfl (j := 0) rfl ?_
  obtain ⟨r2, S2, hF2, h⟩ := h
  refine at_cV1 C 0 hF2 gX8_reads_X8_readsHouse rfl (by decide +kernel) ⟨rfl, rfl⟩ rfl rfl rfl 0 mW_c0 rfl dX8_reads_6 ?_
  refine at_pop C dX8_reads_9 rfl ?_
  exact at_vret C dX8_reads_10 h
/-- the two texts are as they may be -/
def MI (S : MS) (n0 n1 : Nat) : Prop := (S.1 6 0 = nI n0 ∧ n0 ≤ 40) ∧ S.1 6 1 = nI n1 ∧ n1 ≤ 71
/-- what reading the texts leaves -/
def rdAll (n0 n1 : Nat) (S S1 : MS) : Prop :=
  S1.1 8 0 = nI (count0 (hxv (S.1 5) 0 n0) n0) ∧ (∀ j, j < count0 (hxv (S.1 5) 0 n0) n0 → S1.1 9 j = told0 (hxv (S.1 5) 0 n0) j ∧ (rsh (hxv (S.1 5) 0 n0) 4 (5 * j) 0).1 = true) ∧ (∀ c, c < 64 → S1.1 10 c = b2i (freeH (hxv (S.1 5) 40 n1) n1 c)) ∧ (∀ k, k ≠ 7 → k ≠ 8 → k ≠ 9 → k ≠ 10 → S1.1 k = S.1 k) ∧ S1.2 = S.2
theorem c_X8_reads (ad : Nat → Nat) (S : MS) {n0 n1 : Nat} (h : MI S n0 n1) :
    ∃ S1, rdAll n0 n1 S S1 ∧ ∀ (l : Launch) (D : va_G) (E : Nat → ClassId) (a1 a2 : Nat), Fn l D E a1 a2 yX8_reads wsX8_reads 3 70 [.ref (ad 0)] (mW E ad S) none (mW E ad S1) := by
  obtain ⟨⟨e60, h0⟩, e61, h1⟩ := h
  obtain ⟨T, ⟨r1, r2, r3, r4⟩, hF⟩ := c_X8_readsShapes ad S h0 e60
  have t6 : T.1 6 1 = nI n1 := by rw [r3 6 (by decide) (by decide) (by decide)]; exact e61
  obtain ⟨S1, ⟨q1, q2, q3⟩, hG⟩ := c_X8_readsHouse ad T h1 t6
  rw [r3 5 (by decide) (by decide) (by decide)] at q1
  refine ⟨S1, ⟨?_, fun j hj => ?_, q1, fun k k7 k8 k9 k10 => ?_, by rw [q3]; exact r4⟩, fun l D E a1 a2 => ?_⟩
  · rw [q2 8 (by decide) (by decide)]; exact r1
  · rw [q2 9 (by decide) (by decide)]; exact r2 j hj
  · rw [q2 k k7 k10]; exact r3 k k7 k8 k9
  · refine Fn.of (cc := cX8_reads) (maxL := 1) (ret := none) (own := RX8) (by decide) rfl rfl (sameM _ _ _ _) (Nat.le_of_ble_eq_true rfl) (fun X h1' h2' h3 h4 h5 C hE => ?_)
    subst h1' h2' h3 h4 h5
    exact r_X8_reads_0 C ad S ⟨_, T, hF _ _ _ _ _, _, S1, hG _ _ _ _ _, hE⟩
theorem count0_le (hx : Nat → Int32) (n : Nat) : count0 hx n ≤ 8 := by
  have h : ∀ f i, f + i = 8 → (fs0 hx n f i).2 ≤ 8 := by
    intro f
    induction f with
    | zero => intro i _; exact Nat.zero_le _
    | succ f ih =>
      intro i hi
      rw [fs0]
      split
      · split
        · show i + 1 ≤ 8; omega
        · split
          · exact ih (i + 1) (by omega)
          · exact Nat.zero_le _
      · exact Nat.zero_le _
  unfold count0
  split
  · exact Nat.zero_le _
  · exact h 8 0 rfl
/-- a figure's number -/
theorem figv_nI {b : Int32} (h : ¬ figv b = -1) : ∃ v, v < 16 ∧ figv b = nI v := by
  unfold figv at h ⊢
  by_cases h1 : f_X8_in b.toInt64 48 57 = true
  · rw [if_pos h1]
    rw [f_X8_in] at h1
    by_cases q1 : b.toInt64 < 48
    · rw [if_pos q1] at h1; cases h1
    · rw [if_neg q1] at h1
      by_cases q2 : (57 : Int64) < b.toInt64
      · rw [if_pos q2] at h1; cases h1
      · have i1 : 48 ≤ b.toInt := by
          rw [Int64.lt_iff_toInt_lt, Int32.toInt_toInt64] at q1
          have : (48 : Int64).toInt = 48 := rfl
          omega
        have i2 : b.toInt ≤ 57 := by
          rw [Int64.lt_iff_toInt_lt, Int32.toInt_toInt64] at q2
          have : (57 : Int64).toInt = 57 := rfl
          omega
        obtain ⟨m, hm, rfl⟩ := nI_of (x := b) (fun z => by
          rw [Int32.lt_iff_toInt_lt] at z
          have : (0 : Int32).toInt = 0 := rfl
          omega)
        rw [nI_toInt hm] at i1 i2
        refine ⟨m - 48, by omega, ?_⟩
        rw [show (48 : Int32) = nI 48 from rfl, pk_sub (by omega)]
  · rw [if_neg h1] at h ⊢
    by_cases h2 : f_X8_in b.toInt64 97 102 = true
    · rw [if_pos h2]
      rw [f_X8_in] at h2
      by_cases q1 : b.toInt64 < 97
      · rw [if_pos q1] at h2; cases h2
      · rw [if_neg q1] at h2
        by_cases q2 : (102 : Int64) < b.toInt64
        · rw [if_pos q2] at h2; cases h2
        · have i1 : 97 ≤ b.toInt := by
            rw [Int64.lt_iff_toInt_lt, Int32.toInt_toInt64] at q1
            have : (97 : Int64).toInt = 97 := rfl
            omega
          have i2 : b.toInt ≤ 102 := by
            rw [Int64.lt_iff_toInt_lt, Int32.toInt_toInt64] at q2
            have : (102 : Int64).toInt = 102 := rfl
            omega
          obtain ⟨m, hm, rfl⟩ := nI_of (x := b) (fun z => by
            rw [Int32.lt_iff_toInt_lt] at z
            have : (0 : Int32).toInt = 0 := rfl
            omega)
          rw [nI_toInt hm] at i1 i2
          refine ⟨m - 97 + 10, by omega, ?_⟩
          rw [show (97 : Int32) = nI 97 from rfl, pk_sub (by omega), show (10 : Int32) = nI 10 from rfl, nI_add]
    · rw [if_neg h2] at h; exact absurd rfl h
/-- a shape that was read has a cell, and sixteen bits -/
theorem rsh_16 (hx : Nat → Int32) : ∀ (k p w : Nat), (rsh hx (k + 1) p (nI w)).1 = true → w < 16 ^ (3 - k) → k ≤ 3 → ∃ m, 0 < m ∧ m < 65536 ∧ (rsh hx (k + 1) p (nI w)).2.2 = nI m := by
  intro k
  induction k with
  | zero =>
    intro p w h hw _
    rw [rsh] at h ⊢
    by_cases q : figv (hx p) = -1
    · rw [if_pos q] at h; cases h
    · rw [if_neg q] at h ⊢
      obtain ⟨v, hv, ev⟩ := figv_nI q
      rw [ev, show (16 : Int32) = nI 16 from rfl, pk_mul, nI_add] at h ⊢
      by_cases z : (0 = 0 ∧ nI (16 * w + v) = 0)
      · rw [if_pos z] at h; cases h
      · rw [if_neg z] at h ⊢
        have hw3 : w < 4096 := hw
        refine ⟨16 * w + v, ?_, by omega, rfl⟩
        rcases Nat.eq_zero_or_pos (16 * w + v) with y | y
        · exact absurd ⟨rfl, by rw [y]; rfl⟩ z
        · exact y
  | succ k ih =>
    intro p w h hw hk
    rw [rsh] at h ⊢
    by_cases q : figv (hx p) = -1
    · rw [if_pos q] at h; cases h
    · rw [if_neg q] at h ⊢
      obtain ⟨v, hv, ev⟩ := figv_nI q
      rw [ev, show (16 : Int32) = nI 16 from rfl, pk_mul, nI_add] at h ⊢
      have z : ¬ (k + 1 = 0 ∧ nI (16 * w + v) = 0) := fun y => by omega
      rw [if_neg z] at h ⊢
      refine ih (p + 1) (16 * w + v) h ?_ (by omega)
      have e : 16 ^ (3 - k) = 16 * 16 ^ (3 - (k + 1)) := by
        rw [show 3 - k = (3 - (k + 1)) + 1 by omega, Nat.pow_succ, Nat.mul_comm]
      rw [e]
      omega
theorem told_16 {hx : Nat → Int32} {j : Nat} (h : (rsh hx 4 (5 * j) 0).1 = true) : ∃ m, sh16 m ∧ told0 hx j = nI m := by
  obtain ⟨m, h1, h2, h3⟩ := rsh_16 hx 3 (5 * j) 0 h (by decide) (Nat.le_refl _)
  exact ⟨m, ⟨h1, h2⟩, h3⟩
/-- the shapes as numbers of 16 bits -/
def shN (hx : Nat → Int32) (j : Nat) : Nat := uI (told0 hx j)
theorem shN_eq {hx : Nat → Int32} {j : Nat} (h : (rsh hx 4 (5 * j) 0).1 = true) : sh16 (shN hx j) ∧ told0 hx j = nI (shN hx j) := by
  obtain ⟨m, h1, h2⟩ := told_16 h
  have : shN hx j = m := by rw [shN, h2, uI_nI (by have := h1.2; omega)]
  rw [this]
  exact ⟨h1, h2⟩
/-- the state behind reads(), said with numbers -/
def Rd (S1 : MS) (cnt : Nat) (sh : Nat → Nat) : Prop := cnt ≤ 8 ∧ S1.1 8 0 = nI cnt ∧ ∀ j, j < cnt → sh16 (sh j) ∧ S1.1 9 j = nI (sh j)
theorem rdAll.rd {n0 n1 : Nat} {S S1 : MS} (h : rdAll n0 n1 S S1) : Rd S1 (count0 (hxv (S.1 5) 0 n0) n0) (shN (hxv (S.1 5) 0 n0)) := ⟨count0_le _ _, h.1, fun j hj => by
  obtain ⟨h1, h2⟩ := h.2.1 j hj
  obtain ⟨h3, h4⟩ := shN_eq h2
  exact ⟨h3, h1.trans h4⟩⟩
theorem isShape_iff {S1 : MS} {cnt : Nat} (hc : cnt ≤ 8) (e : S1.1 8 0 = nI cnt) (x : Int32) : f_X8_isShape S1 x = true ↔ ∃ s, s < cnt ∧ x = nI s := by
  unfold f_X8_isShape
  rw [e]
  cases cnt with
  | zero =>
    constructor
    · intro h
      rw [f_X8_in] at h
      by_cases q1 : x.toInt64 < 0
      · rw [if_pos q1] at h; cases h
      · rw [if_neg q1] at h
        rw [if_pos] at h
        · cases h
        · rw [Int64.lt_iff_toInt_lt] at q1 ⊢
          have h0 : (0 : Int64).toInt = 0 := rfl
          have h1 : ((nI 0 - 1).toInt64).toInt = -1 := rfl
          omega
    · rintro ⟨s, hs, _⟩; omega
  | succ m =>
    rw [nI_pred, nI_l (by omega)]
    constructor
    · intro h
      obtain ⟨s, hs, e⟩ := (in_nI (by omega)).mp h
      exact ⟨s, by omega, e⟩
    · rintro ⟨s, hs, e⟩
      exact (in_nI (by omega)).mpr ⟨s, by omega, e⟩
theorem isTurn_iff (x : Int32) : f_X8_isTurn x = true ↔ ∃ t, t < 4 ∧ x = nI t := by
  constructor
  · intro h
    obtain ⟨t, ht, e⟩ := (in_nI (m := 3) (by decide)).mp h
    exact ⟨t, by omega, e⟩
  · rintro ⟨t, ht, e⟩
    exact (in_nI (m := 3) (by decide)).mpr ⟨t, by omega, e⟩
theorem isPlace_iff (x : Int32) : f_X8_isPlace x = true ↔ ∃ c, c < 64 ∧ x = nI c := by
  constructor
  · intro h
    obtain ⟨t, ht, e⟩ := (in_nI (m := 63) (by decide)).mp h
    exact ⟨t, by omega, e⟩
  · rintro ⟨t, ht, e⟩
    exact (in_nI (m := 63) (by decide)).mpr ⟨t, by omega, e⟩
theorem isTwo_iff (x : Int32) : f_X8_isTwo x = true ↔ x = 0 ∨ x = 1 := by
  constructor
  · intro h
    obtain ⟨t, ht, e⟩ := (in_nI (m := 1) (by decide)).mp h
    rcases (show t = 0 ∨ t = 1 by omega) with rfl | rfl
    · exact Or.inl e
    · exact Or.inr e
  · rintro (rfl | rfl) <;> decide
theorem isStand_iff {S1 : MS} {cnt : Nat} (hc : cnt ≤ 8) (e : S1.1 8 0 = nI cnt) (x y z : Int32) : f_X8_isStand S1 x y z = true ↔ ∃ s t c, (s < cnt ∧ t < 4 ∧ c < 64) ∧ x = nI s ∧ y = nI t ∧ z = nI c := by
  unfold f_X8_isStand
  constructor
  · intro h
    by_cases h1 : f_X8_isShape S1 x = true
    · rw [if_pos h1] at h
      by_cases h2 : f_X8_isTurn y = true
      · rw [if_pos h2] at h
        by_cases h3 : f_X8_isPlace z = true
        · obtain ⟨s, hs, e1⟩ := (isShape_iff hc e x).mp h1
          obtain ⟨t, ht, e2⟩ := (isTurn_iff y).mp h2
          obtain ⟨c, hc', e3⟩ := (isPlace_iff z).mp h3
          exact ⟨s, t, c, ⟨hs, ht, hc'⟩, e1, e2, e3⟩
        · rw [if_neg h3] at h; cases h
      · rw [if_neg h2] at h; cases h
    · rw [if_neg h1] at h; cases h
  · rintro ⟨s, t, c, ⟨hs, ht, hc'⟩, e1, e2, e3⟩
    rw [if_pos ((isShape_iff hc e x).mpr ⟨s, hs, e1⟩), if_pos ((isTurn_iff y).mpr ⟨t, ht, e2⟩), if_pos ((isPlace_iff z).mpr ⟨c, hc', e3⟩)]
set_option maxRecDepth 20000 in
theorem ggX8_fault_X8_isTwo : GoodIn wsX8_fault wsX8_isTwo := goodIn_r _ [4, 5, 6, 3, 7] (by decide +kernel) (by decide +kernel)
set_option maxRecDepth 20000 in
theorem gX8_fault_X8_isTwo : GoodIn wsX8_fault (va_wsS RX8 82 yX8_isTwo wsX8_isTwo) := goodIn_app (goodIn_of _ (by decide +kernel)) ggX8_fault_X8_isTwo
set_option maxRecDepth 20000 in
theorem ggX8_fault_X8_readsShapes : GoodIn wsX8_fault wsX8_readsShapes := goodIn_r _ [11, 12, 13, 14, 15, 16, 17, 3, 18, 19, 20, 21, 22, 23, 24, 25, 26, 27, 28, 5, 6, 7, 29, 30, 31, 32, 46, 47, 48, 49, 50, 51, 52, 53, 54, 55, 56, 57, 58, 59, 60, 61, 62, 63] (by decide +kernel) (by decide +kernel)
set_option maxRecDepth 20000 in
theorem gX8_fault_X8_readsShapes : GoodIn wsX8_fault (wsV RX8 118 RX8 yX8_readsShapes wsX8_readsShapes) := goodIn_app (goodIn_of _ (by decide +kernel)) ggX8_fault_X8_readsShapes
set_option maxRecDepth 20000 in
theorem ggX8_fault_X8_readsHouse : GoodIn wsX8_fault wsX8_readsHouse := goodIn_r _ [36, 12, 14, 37, 38, 39, 3, 40, 41, 42, 43, 44, 45, 24, 25, 26, 27, 28, 46, 47, 48, 49, 50, 51, 52, 53, 54, 55, 56, 57, 58, 59, 60, 61, 62, 63] (by decide +kernel) (by decide +kernel)
set_option maxRecDepth 20000 in
theorem gX8_fault_X8_readsHouse : GoodIn wsX8_fault (wsV RX8 121 RX8 yX8_readsHouse wsX8_readsHouse) := goodIn_app (goodIn_of _ (by decide +kernel)) ggX8_fault_X8_readsHouse
theorem dX8_fault_0 : decode cX8_fault 0 = .ok (.iload_n 1, 1) := by decide +kernel
theorem dX8_fault_1 : decode cX8_fault 1 = .ok (.invokestatic 82, 3) := by decide +kernel
theorem dX8_fault_4 : decode cX8_fault 4 = .ok (.ifCond .ne 8, 3) := by decide +kernel
theorem dX8_fault_7 : decode cX8_fault 7 = .ok (.bipush (-2), 2) := by decide +kernel
theorem dX8_fault_9 : decode cX8_fault 9 = .ok (.goto 18, 3) := by decide +kernel
theorem dX8_fault_12 : decode cX8_fault 12 = .ok (.iload_n 1, 1) := by decide +kernel
theorem dX8_fault_13 : decode cX8_fault 13 = .ok (.ifCond .ne 10, 3) := by decide +kernel
theorem dX8_fault_16 : decode cX8_fault 16 = .ok (.aload_n 0, 1) := by decide +kernel
theorem dX8_fault_17 : decode cX8_fault 17 = .ok (.invokevirtual 118, 3) := by decide +kernel
theorem dX8_fault_20 : decode cX8_fault 20 = .ok (.goto 7, 3) := by decide +kernel
theorem dX8_fault_23 : decode cX8_fault 23 = .ok (.aload_n 0, 1) := by decide +kernel
theorem dX8_fault_24 : decode cX8_fault 24 = .ok (.invokevirtual 121, 3) := by decide +kernel
theorem dX8_fault_27 : decode cX8_fault 27 = .ok (.ireturn, 1) := by decide +kernel
set_option maxRecDepth 100000 in
theorem r_X8_fault_0 {X : Bn} (C : Cx X cX8_fault 2 RX8 wsX8_fault 3 70) (ad : Nat → Nat) (S : MS) (x1 : Int32) (h : (((f_X8_isTwo x1) = true) → (((x1 = 0) → (∃ (r2 : Int32) (S2 : MS), (Fn X.l X.D X.E X.a1 X.a2 yX8_readsShapes wsX8_readsShapes 2 49 [.ref (ad 0)] (mW X.E ad S) (some (.int r2)) (mW X.E ad S2)) ∧ (Ends X (some .int) (some (.int r2)) (mW X.E ad S2)))) ∧ (¬ x1 = 0 → (∃ (r1 : Int32) (S1 : MS), (Fn X.l X.D X.E X.a1 X.a2 yX8_readsHouse wsX8_readsHouse 2 45 [.ref (ad 0)] (mW X.E ad S) (some (.int r1)) (mW X.E ad S1)) ∧ (Ends X (some .int) (some (.int r1)) (mW X.E ad S1)))))) ∧ ((f_X8_isTwo x1) = false → (Ends X (some .int) (some (.int (-2))) (mW X.E ad S)))) : At X 2 (mW X.E ad S) 0 [(0, .ref (ad 0)), (1, .int x1)] [] := by
  refine at_iload_n C dX8_fault_0 rfl (j := 1) rfl ?_
  refine at_cS0 C 1 (c_X8_isTwo X.l X.D X.E X.a1 X.a2 x1) gX8_fault_X8_isTwo rfl (by decide +kernel) ⟨rfl, rfl⟩ rfl rfl rfl dX8_fault_1 ?_
  refine at_ifB_ne C dX8_fault_4 (tgt := 12) (by decide) (fun hc0 => ?_) (fun hc0 => ?_)
  · replace h := h.1 hc0
    refine at_iload_n C dX8_fault_12 rfl (j := 1) rfl ?_
    refine at_if_ne C dX8_fault_13 (tgt := 23) (by decide) (fun hc1 => ?_) (fun hc1 => ?_)
    · replace h := h.2 hc1
      refine at_aload_n C dX8_fault_23 rfl (j := 0) rfl ?_
      obtain ⟨r1, S1, hF1, h⟩ := h
      refine at_cV1 C 0 hF1 gX8_fault_X8_readsHouse rfl (by decide +kernel) ⟨rfl, rfl⟩ rfl rfl rfl 0 mW_c0 rfl dX8_fault_24 ?_
      exact at_iret C dX8_fault_27 h
    · replace h := h.1 hc1
      refine at_aload_n C dX8_fault_16 rfl (j := 0) rfl ?_
      obtain ⟨r2, S2, hF2, h⟩ := h
      refine at_cV1 C 0 hF2 gX8_fault_X8_readsShapes rfl (by decide +kernel) ⟨rfl, rfl⟩ rfl rfl rfl 0 mW_c0 rfl dX8_fault_17 ?_
      refine at_goto C dX8_fault_20 (tgt := 27) (by decide) ?_
      exact at_iret C dX8_fault_27 h
  · replace h := h.2 hc0
    refine at_bipush C dX8_fault_7 (v := (-2)) rfl ?_
    refine at_goto C dX8_fault_9 (tgt := 27) (by decide) ?_
    exact at_iret C dX8_fault_27 h
def fltM (S : MS) (n0 n1 : Nat) (x1 : Int32) : Int32 := if x1 = 0 then fault0 (hxv (S.1 5) 0 n0) n0 else (if x1 = 1 then faultH (hxv (S.1 5) 40 n1) n1 else -2)
/-- what a question changes: only what reading, searching and counting use -/
def keepQ (S S' : MS) : Prop := ∀ k, k = 0 ∨ k = 1 ∨ k = 2 ∨ k = 4 ∨ k = 5 ∨ k = 6 ∨ k = 14 ∨ k = 15 → S'.1 k = S.1 k
theorem keepQ.rf (S : MS) : keepQ S S := fun _ _ => rfl
theorem keepQ.tr {S T U : MS} (h : keepQ S T) (h' : keepQ T U) : keepQ S U := fun k hk => (h' k hk).trans (h k hk)
theorem rdAll.keep {n0 n1 : Nat} {S S1 : MS} (h : rdAll n0 n1 S S1) : keepQ S S1 := fun k hk => h.2.2.2.1 k (by omega) (by omega) (by omega) (by omega)
theorem keepF.q {S S1 : MS} (h : keepF S S1) : keepQ S S1 := fun k hk => h.1 k (by omega) (by omega) (by omega)
theorem c_X8_fault (ad : Nat → Nat) (S : MS) {n0 n1 : Nat} (h : MI S n0 n1) (x1 : Int32) :
    ∃ S', keepQ S S' ∧ ∀ (l : Launch) (D : va_G) (E : Nat → ClassId) (a1 a2 : Nat), Fn l D E a1 a2 yX8_fault wsX8_fault 3 70 [.ref (ad 0), .int x1] (mW E ad S) (some (.int (fltM S n0 n1 x1))) (mW E ad S') := by
  obtain ⟨⟨e60, h0⟩, e61, h1⟩ := h
  by_cases q0 : x1 = 0
  · obtain ⟨T, ⟨r1, r2, r3, r4⟩, hF⟩ := c_X8_readsShapes ad S h0 e60
    refine ⟨T, fun k hk => r3 k (by omega) (by omega) (by omega), fun l D E a1 a2 => ?_⟩
    refine Fn.of (cc := cX8_fault) (maxL := 2) (ret := (some .int)) (own := RX8) (by decide) rfl rfl (sameM _ _ _ _) (Nat.le_of_ble_eq_true rfl) (fun X h1' h2' h3 h4 h5 C hE => ?_)
    subst h1' h2' h3 h4 h5
    rw [fltM, if_pos q0] at hE
    exact r_X8_fault_0 C ad S x1 ⟨fun _ => ⟨fun _ => ⟨_, T, hF _ _ _ _ _, hE⟩, fun z => absurd q0 z⟩, fun z => by rw [(isTwo_iff x1).mpr (Or.inl q0)] at z; cases z⟩
  · by_cases q1 : x1 = 1
    · obtain ⟨T, ⟨r1, r2, r3⟩, hF⟩ := c_X8_readsHouse ad S h1 e61
      refine ⟨T, fun k hk => r2 k (by omega) (by omega), fun l D E a1 a2 => ?_⟩
      refine Fn.of (cc := cX8_fault) (maxL := 2) (ret := (some .int)) (own := RX8) (by decide) rfl rfl (sameM _ _ _ _) (Nat.le_of_ble_eq_true rfl) (fun X h1' h2' h3 h4 h5 C hE => ?_)
      subst h1' h2' h3 h4 h5
      rw [fltM, if_neg q0, if_pos q1] at hE
      exact r_X8_fault_0 C ad S x1 ⟨fun _ => ⟨fun z => absurd z q0, fun _ => ⟨_, T, hF _ _ _ _ _, hE⟩⟩, fun z => by rw [(isTwo_iff x1).mpr (Or.inr q1)] at z; cases z⟩
    · refine ⟨S, keepQ.rf S, fun l D E a1 a2 => ?_⟩
      refine Fn.of (cc := cX8_fault) (maxL := 2) (ret := (some .int)) (own := RX8) (by decide) rfl rfl (sameM _ _ _ _) (Nat.le_of_ble_eq_true rfl) (fun X h1' h2' h3 h4 h5 C hE => ?_)
      subst h1' h2' h3 h4 h5
      rw [fltM, if_neg q0, if_neg q1] at hE
      exact r_X8_fault_0 C ad S x1 ⟨fun z => absurd ((isTwo_iff x1).mp z) (fun o => o.elim q0 q1), fun _ => hE⟩
set_option maxRecDepth 20000 in
theorem ggX8_shape_X8_reads : GoodIn wsX8_shape wsX8_reads := goodIn_r _ [6, 7, 8, 9, 5, 10, 11, 12, 13, 14, 15, 16, 17, 18, 19, 20, 21, 1, 22, 23, 24, 25, 26, 27, 28, 29, 30, 31, 32, 33, 34, 35, 36, 37, 38, 39, 40, 41, 42, 43, 44, 45, 46, 64, 65, 66, 67, 68, 69, 70, 71, 72, 73, 74, 75, 76, 77, 78, 79, 80, 81] (by decide +kernel) (by decide +kernel)
set_option maxRecDepth 20000 in
theorem gX8_shape_X8_reads : GoodIn wsX8_shape (wsV RX8 138 RX8 yX8_reads wsX8_reads) := goodIn_app (goodIn_of _ (by decide +kernel)) ggX8_shape_X8_reads
set_option maxRecDepth 20000 in
theorem ggX8_shape_X8_isShape : GoodIn wsX8_shape wsX8_isShape := goodIn_r _ [50, 12, 27, 28, 5, 29, 64, 65, 66, 67, 68, 69, 70, 71, 72, 73, 74, 75, 76, 77, 78, 79, 80, 81] (by decide +kernel) (by decide +kernel)
set_option maxRecDepth 20000 in
theorem gX8_shape_X8_isShape : GoodIn wsX8_shape (wsV RX8 141 RX8 yX8_isShape wsX8_isShape) := goodIn_app (goodIn_of _ (by decide +kernel)) ggX8_shape_X8_isShape
set_option maxRecDepth 20000 in
theorem ggX8_shape_X8_isTurn : GoodIn wsX8_shape wsX8_isTurn := goodIn_r _ [53, 54, 27, 28, 5, 29] (by decide +kernel) (by decide +kernel)
set_option maxRecDepth 20000 in
theorem gX8_shape_X8_isTurn : GoodIn wsX8_shape (va_wsS RX8 144 yX8_isTurn wsX8_isTurn) := goodIn_app (goodIn_of _ (by decide +kernel)) ggX8_shape_X8_isTurn
set_option maxRecDepth 20000 in
theorem ggX8_shape_X8_turned : GoodIn wsX8_shape wsX8_turned := goodIn_r _ [57, 58, 59, 5, 60, 61, 62, 63] (by decide +kernel) (by decide +kernel)
set_option maxRecDepth 20000 in
theorem gX8_shape_X8_turned : GoodIn wsX8_shape (va_wsS RX8 132 yX8_turned wsX8_turned) := goodIn_app (goodIn_of _ (by decide +kernel)) ggX8_shape_X8_turned
theorem dX8_shape_0 : decode cX8_shape 0 = .ok (.aload_n 0, 1) := by decide +kernel
theorem dX8_shape_1 : decode cX8_shape 1 = .ok (.invokevirtual 138, 3) := by decide +kernel
theorem dX8_shape_4 : decode cX8_shape 4 = .ok (.aload_n 0, 1) := by decide +kernel
theorem dX8_shape_5 : decode cX8_shape 5 = .ok (.iload_n 1, 1) := by decide +kernel
theorem dX8_shape_6 : decode cX8_shape 6 = .ok (.invokevirtual 141, 3) := by decide +kernel
theorem dX8_shape_9 : decode cX8_shape 9 = .ok (.ifCond .eq 23, 3) := by decide +kernel
theorem dX8_shape_12 : decode cX8_shape 12 = .ok (.iload_n 2, 1) := by decide +kernel
theorem dX8_shape_13 : decode cX8_shape 13 = .ok (.invokestatic 144, 3) := by decide +kernel
theorem dX8_shape_16 : decode cX8_shape 16 = .ok (.ifCond .eq 16, 3) := by decide +kernel
theorem dX8_shape_19 : decode cX8_shape 19 = .ok (.aload_n 0, 1) := by decide +kernel
theorem dX8_shape_20 : decode cX8_shape 20 = .ok (.getfield 28, 3) := by decide +kernel
theorem dX8_shape_23 : decode cX8_shape 23 = .ok (.iload_n 1, 1) := by decide +kernel
theorem dX8_shape_24 : decode cX8_shape 24 = .ok (.iaload, 1) := by decide +kernel
theorem dX8_shape_25 : decode cX8_shape 25 = .ok (.iload_n 2, 1) := by decide +kernel
theorem dX8_shape_26 : decode cX8_shape 26 = .ok (.invokestatic 132, 3) := by decide +kernel
theorem dX8_shape_29 : decode cX8_shape 29 = .ok (.goto 5, 3) := by decide +kernel
theorem dX8_shape_32 : decode cX8_shape 32 = .ok (.bipush (-2), 2) := by decide +kernel
theorem dX8_shape_34 : decode cX8_shape 34 = .ok (.ireturn, 1) := by decide +kernel
theorem iw_X8_shape_X8 : ∀ w ∈ u_ws RX8 TX8 18, w ∈ wsX8_shape := by decide +kernel
theorem lk_X8_shape_0 : Cond.fieldLink RX8 28 (TX8 9).1 (TX8 9).2.1 (TX8 9).2.2.1 ∈ wsX8_shape := by decide +kernel
set_option maxRecDepth 100000 in
theorem r_X8_shape_0 {X : Bn} (C : Cx X cX8_shape 3 RX8 wsX8_shape 4 90) (ad : Nat → Nat) (S : MS) (x1 : Int32) (x2 : Int32) (h : ∃ (S2 : MS), (Fn X.l X.D X.E X.a1 X.a2 yX8_reads wsX8_reads 3 70 [.ref (ad 0)] (mW X.E ad S) none (mW X.E ad S2)) ∧ (((((f_X8_isShape S2 x1) = true) → (((f_X8_isTurn x2) = true) → (vp_in x1 8)))) ∧ (Ends X (some .int) (some (.int (if (f_X8_isShape S2 x1) then (if (f_X8_isTurn x2) then f_X8_turned (S2.1 9 x1.toNatClampNeg) x2 else (-2)) else (-2)))) (mW X.E ad S2)))) : At X 3 (mW X.E ad S) 0 [(0, .ref (ad 0)), (1, .int x1), (2, .int x2)] [] := by
  refine at_aload_n C dX8_shape_0 rfl (j := 0) rfl ?_
  obtain ⟨S2, hF2, h⟩ := h
  refine at_cV1v C 0 hF2 gX8_shape_X8_reads rfl (by decide +kernel) ⟨rfl, rfl⟩ rfl rfl rfl 0 mW_c0 rfl dX8_shape_1 ?_
  refine at_aload_n C dX8_shape_4 rfl (j := 0) rfl ?_
  refine at_iload_n C dX8_shape_5 rfl (j := 1) rfl ?_
  refine at_cV1 C 1 (c_X8_isShape X.l X.D X.E X.a1 X.a2 ad S2 x1) gX8_shape_X8_isShape rfl (by decide +kernel) ⟨rfl, rfl⟩ rfl rfl rfl 0 mW_c0 rfl dX8_shape_6 ?_
  have hq := h.1
  replace h := h.2
  have K : At X 3 (mW X.E ad S2) 34 [] [.int (if (f_X8_isShape S2 x1) then (if (f_X8_isTurn x2) then f_X8_turned (S2.1 9 x1.toNatClampNeg) x2 else (-2)) else (-2))] := by
    exact at_iret C dX8_shape_34 h
  replace h := hq
  refine at_ifB_eq C dX8_shape_9 (tgt := 32) (by decide) (fun hc0 => ?_) (fun hc0 => ?_)
  · skip
    refine at_bipush C dX8_shape_32 (v := (-2)) rfl ?_
    refine at_lv [] rfl ?_
    first | (simp only [if_neg (show ¬ (f_X8_isShape S2 x1) = true by rw [hc0]; decide)] at K; exact K) | exact K
  · replace h := h hc0
    refine at_iload_n C dX8_shape_12 rfl (j := 2) rfl ?_
    refine at_cS0 C 1 (c_X8_isTurn X.l X.D X.E X.a1 X.a2 x2) gX8_shape_X8_isTurn rfl (by decide +kernel) ⟨rfl, rfl⟩ rfl rfl rfl dX8_shape_13 ?_
    refine at_ifB_eq C dX8_shape_16 (tgt := 32) (by decide) (fun hc1 => ?_) (fun hc1 => ?_)
    · skip
      refine at_bipush C dX8_shape_32 (v := (-2)) rfl ?_
      refine at_lv [] rfl ?_
      first | (simp only [if_pos hc0, if_neg (show ¬ (f_X8_isTurn x2) = true by rw [hc1]; decide)] at K; exact K) | exact K
    · replace h := h hc1
      refine at_aload_n C dX8_shape_19 rfl (j := 0) rfl ?_
      refine at_get C (K := RX8) (T := TX8) (N := 18) (ci := 7) (v := .ref (ad 7)) iw_X8_shape_X8 0 mW_c0 rfl 9 (by decide) lk_X8_shape_0 rfl dX8_shape_20 ?_
      refine at_iload_n C dX8_shape_23 rfl (j := 1) rfl ?_
      refine at_iald C 7 mW_c7 h dX8_shape_24 ?_
      refine at_iload_n C dX8_shape_25 rfl (j := 2) rfl ?_
      refine at_cS0 C 2 (c_X8_turned X.l X.D X.E X.a1 X.a2 (S2.1 9 x1.toNatClampNeg) x2) gX8_shape_X8_turned rfl (by decide +kernel) ⟨rfl, rfl⟩ rfl rfl rfl dX8_shape_26 ?_
      refine at_goto C dX8_shape_29 (tgt := 34) (by decide) ?_
      refine at_lv [] rfl ?_
      first | (simp only [if_pos hc0, if_pos hc1] at K; exact K) | exact K
def f_X8_shape (S1 : MS) (x1 : Int32) (x2 : Int32) : Int32 := (if (f_X8_isShape S1 x1) then (if (f_X8_isTurn x2) then f_X8_turned (S1.1 9 x1.toNatClampNeg) x2 else (-2)) else (-2))
def p_X8_shape (S1 : MS) (x1 : Int32) (x2 : Int32) : Prop := ((((f_X8_isShape S1 x1) = true) → (((f_X8_isTurn x2) = true) → (vp_in x1 8))))
set_option maxRecDepth 100000 in
theorem c_X8_shape (ad : Nat → Nat) (S S1 : MS) (hr : ∀ (l : Launch) (D : va_G) (E : Nat → ClassId) (a1 a2 : Nat), Fn l D E a1 a2 yX8_reads wsX8_reads 3 70 [.ref (ad 0)] (mW E ad S) none (mW E ad S1)) (x1 : Int32) (x2 : Int32) (hp : p_X8_shape S1 x1 x2) (l : Launch) (D : va_G) (E : Nat → ClassId) (a1 a2 : Nat) : Fn l D E a1 a2 yX8_shape wsX8_shape 4 90 [.ref (ad 0), .int x1, .int x2] (mW E ad S) (some (.int (f_X8_shape S1 x1 x2))) (mW E ad S1) := by
  refine Fn.of (cc := cX8_shape) (maxL := 3) (ret := (some .int)) (own := RX8) (by decide) rfl rfl (sameM _ _ _ _) (Nat.le_of_ble_eq_true rfl) (fun X h1 h2 h3 h4 h5 C hE => ?_)
  subst h1 h2 h3 h4 h5
  refine r_X8_shape_0 C ad S x1 x2 ⟨S1, hr X.l X.D X.E X.a1 X.a2, ?_⟩
  refine ⟨hp, ?_⟩
  simp only [f_X8_shape] at hE
  exact hE
set_option maxRecDepth 20000 in
theorem ggX8_sight_X8_reads : GoodIn wsX8_sight wsX8_reads := goodIn_r _ [7, 8, 9, 10, 6, 11, 12, 13, 14, 15, 16, 17, 18, 19, 20, 21, 22, 2, 23, 24, 25, 26, 27, 28, 29, 30, 31, 32, 33, 34, 35, 36, 37, 38, 39, 40, 41, 42, 43, 44, 45, 46, 47, 70, 71, 72, 73, 74, 75, 76, 77, 78, 79, 80, 81, 82, 83, 84, 85, 86, 87] (by decide +kernel) (by decide +kernel)
set_option maxRecDepth 20000 in
theorem gX8_sight_X8_reads : GoodIn wsX8_sight (wsV RX8 138 RX8 yX8_reads wsX8_reads) := goodIn_app (goodIn_of _ (by decide +kernel)) ggX8_sight_X8_reads
set_option maxRecDepth 20000 in
theorem ggX8_sight_X8_isShape : GoodIn wsX8_sight wsX8_isShape := goodIn_r _ [51, 13, 28, 29, 6, 30, 70, 71, 72, 73, 74, 75, 76, 77, 78, 79, 80, 81, 82, 83, 84, 85, 86, 87] (by decide +kernel) (by decide +kernel)
set_option maxRecDepth 20000 in
theorem gX8_sight_X8_isShape : GoodIn wsX8_sight (wsV RX8 141 RX8 yX8_isShape wsX8_isShape) := goodIn_app (goodIn_of _ (by decide +kernel)) ggX8_sight_X8_isShape
set_option maxRecDepth 20000 in
theorem ggX8_sight_X8_isTurn : GoodIn wsX8_sight wsX8_isTurn := goodIn_r _ [54, 1, 28, 29, 6, 30] (by decide +kernel) (by decide +kernel)
set_option maxRecDepth 20000 in
theorem gX8_sight_X8_isTurn : GoodIn wsX8_sight (va_wsS RX8 144 yX8_isTurn wsX8_isTurn) := goodIn_app (goodIn_of _ (by decide +kernel)) ggX8_sight_X8_isTurn
set_option maxRecDepth 20000 in
theorem ggX8_sight_X8_in : GoodIn wsX8_sight wsX8_in := goodIn_r _ [30] (by decide +kernel) (by decide +kernel)
set_option maxRecDepth 20000 in
theorem gX8_sight_X8_in : GoodIn wsX8_sight (va_wsS RX8 53 yX8_in wsX8_in) := goodIn_app (goodIn_of _ (by decide +kernel)) ggX8_sight_X8_in
set_option maxRecDepth 20000 in
theorem ggX8_sight_X8_turned : GoodIn wsX8_sight wsX8_turned := goodIn_r _ [57, 58, 59, 6, 60, 61, 62, 63] (by decide +kernel) (by decide +kernel)
set_option maxRecDepth 20000 in
theorem gX8_sight_X8_turned : GoodIn wsX8_sight (va_wsS RX8 132 yX8_turned wsX8_turned) := goodIn_app (goodIn_of _ (by decide +kernel)) ggX8_sight_X8_turned
set_option maxRecDepth 20000 in
theorem ggX8_sight_X8_sightOf : GoodIn wsX8_sight wsX8_sightOf := goodIn_r _ [66, 61, 62, 6, 63, 67, 68, 69] (by decide +kernel) (by decide +kernel)
set_option maxRecDepth 20000 in
theorem gX8_sight_X8_sightOf : GoodIn wsX8_sight (va_wsS RX8 156 yX8_sightOf wsX8_sightOf) := goodIn_app (goodIn_of _ (by decide +kernel)) ggX8_sight_X8_sightOf
theorem dX8_sight_0 : decode cX8_sight 0 = .ok (.aload_n 0, 1) := by decide +kernel
theorem dX8_sight_1 : decode cX8_sight 1 = .ok (.invokevirtual 138, 3) := by decide +kernel
theorem dX8_sight_4 : decode cX8_sight 4 = .ok (.aload_n 0, 1) := by decide +kernel
theorem dX8_sight_5 : decode cX8_sight 5 = .ok (.iload_n 1, 1) := by decide +kernel
theorem dX8_sight_6 : decode cX8_sight 6 = .ok (.invokevirtual 141, 3) := by decide +kernel
theorem dX8_sight_9 : decode cX8_sight 9 = .ok (.ifCond .eq 39, 3) := by decide +kernel
theorem dX8_sight_12 : decode cX8_sight 12 = .ok (.iload_n 2, 1) := by decide +kernel
theorem dX8_sight_13 : decode cX8_sight 13 = .ok (.invokestatic 144, 3) := by decide +kernel
theorem dX8_sight_16 : decode cX8_sight 16 = .ok (.ifCond .eq 32, 3) := by decide +kernel
theorem dX8_sight_19 : decode cX8_sight 19 = .ok (.iload_n 3, 1) := by decide +kernel
theorem dX8_sight_20 : decode cX8_sight 20 = .ok (.i2l, 1) := by decide +kernel
theorem dX8_sight_21 : decode cX8_sight 21 = .ok (.lconst 0, 1) := by decide +kernel
theorem dX8_sight_22 : decode cX8_sight 22 = .ok (.ldc2_w 61, 3) := by decide +kernel
theorem dX8_sight_25 : decode cX8_sight 25 = .ok (.invokestatic 53, 3) := by decide +kernel
theorem dX8_sight_28 : decode cX8_sight 28 = .ok (.ifCond .eq 20, 3) := by decide +kernel
theorem dX8_sight_31 : decode cX8_sight 31 = .ok (.aload_n 0, 1) := by decide +kernel
theorem dX8_sight_32 : decode cX8_sight 32 = .ok (.getfield 28, 3) := by decide +kernel
theorem dX8_sight_35 : decode cX8_sight 35 = .ok (.iload_n 1, 1) := by decide +kernel
theorem dX8_sight_36 : decode cX8_sight 36 = .ok (.iaload, 1) := by decide +kernel
theorem dX8_sight_37 : decode cX8_sight 37 = .ok (.iload_n 2, 1) := by decide +kernel
theorem dX8_sight_38 : decode cX8_sight 38 = .ok (.invokestatic 132, 3) := by decide +kernel
theorem dX8_sight_41 : decode cX8_sight 41 = .ok (.iload_n 3, 1) := by decide +kernel
theorem dX8_sight_42 : decode cX8_sight 42 = .ok (.invokestatic 156, 3) := by decide +kernel
theorem dX8_sight_45 : decode cX8_sight 45 = .ok (.goto 5, 3) := by decide +kernel
theorem dX8_sight_48 : decode cX8_sight 48 = .ok (.bipush (-2), 2) := by decide +kernel
theorem dX8_sight_50 : decode cX8_sight 50 = .ok (.ireturn, 1) := by decide +kernel
theorem iw_X8_sight_X8 : ∀ w ∈ u_ws RX8 TX8 18, w ∈ wsX8_sight := by decide +kernel
theorem lk_X8_sight_0 : Cond.constantLong RX8 61 3 ∈ wsX8_sight := by decide +kernel
theorem lk_X8_sight_1 : Cond.fieldLink RX8 28 (TX8 9).1 (TX8 9).2.1 (TX8 9).2.2.1 ∈ wsX8_sight := by decide +kernel
set_option maxRecDepth 100000 in
theorem r_X8_sight_0 {X : Bn} (C : Cx X cX8_sight 4 RX8 wsX8_sight 4 90) (ad : Nat → Nat) (S : MS) (x1 : Int32) (x2 : Int32) (x3 : Int32) (h : ∃ (S2 : MS), (Fn X.l X.D X.E X.a1 X.a2 yX8_reads wsX8_reads 3 70 [.ref (ad 0)] (mW X.E ad S) none (mW X.E ad S2)) ∧ (((((f_X8_isShape S2 x1) = true) → (((f_X8_isTurn x2) = true) → (((f_X8_in x3.toInt64 (0 : Int64) (3 : Int64)) = true) → (vp_in x1 8))))) ∧ (Ends X (some .int) (some (.int (if (f_X8_isShape S2 x1) then (if (f_X8_isTurn x2) then (if (f_X8_in x3.toInt64 (0 : Int64) (3 : Int64)) then f_X8_sightOf (f_X8_turned (S2.1 9 x1.toNatClampNeg) x2) x3 else (-2)) else (-2)) else (-2)))) (mW X.E ad S2)))) : At X 4 (mW X.E ad S) 0 [(0, .ref (ad 0)), (1, .int x1), (2, .int x2), (3, .int x3)] [] := by
  refine at_aload_n C dX8_sight_0 rfl (j := 0) rfl ?_
  obtain ⟨S2, hF2, h⟩ := h
  refine at_cV1v C 0 hF2 gX8_sight_X8_reads rfl (by decide +kernel) ⟨rfl, rfl⟩ rfl rfl rfl 0 mW_c0 rfl dX8_sight_1 ?_
  refine at_aload_n C dX8_sight_4 rfl (j := 0) rfl ?_
  refine at_iload_n C dX8_sight_5 rfl (j := 1) rfl ?_
  refine at_cV1 C 1 (c_X8_isShape X.l X.D X.E X.a1 X.a2 ad S2 x1) gX8_sight_X8_isShape rfl (by decide +kernel) ⟨rfl, rfl⟩ rfl rfl rfl 0 mW_c0 rfl dX8_sight_6 ?_
  have hq := h.1
  replace h := h.2
  have K : At X 4 (mW X.E ad S2) 50 [] [.int (if (f_X8_isShape S2 x1) then (if (f_X8_isTurn x2) then (if (f_X8_in x3.toInt64 (0 : Int64) (3 : Int64)) then f_X8_sightOf (f_X8_turned (S2.1 9 x1.toNatClampNeg) x2) x3 else (-2)) else (-2)) else (-2))] := by
    exact at_iret C dX8_sight_50 h
  replace h := hq
  refine at_ifB_eq C dX8_sight_9 (tgt := 48) (by decide) (fun hc0 => ?_) (fun hc0 => ?_)
  · skip
    refine at_bipush C dX8_sight_48 (v := (-2)) rfl ?_
    refine at_lv [] rfl ?_
    first | (simp only [if_neg (show ¬ (f_X8_isShape S2 x1) = true by rw [hc0]; decide)] at K; exact K) | exact K
  · replace h := h hc0
    refine at_iload_n C dX8_sight_12 rfl (j := 2) rfl ?_
    refine at_cS0 C 1 (c_X8_isTurn X.l X.D X.E X.a1 X.a2 x2) gX8_sight_X8_isTurn rfl (by decide +kernel) ⟨rfl, rfl⟩ rfl rfl rfl dX8_sight_13 ?_
    refine at_ifB_eq C dX8_sight_16 (tgt := 48) (by decide) (fun hc1 => ?_) (fun hc1 => ?_)
    · skip
      refine at_bipush C dX8_sight_48 (v := (-2)) rfl ?_
      refine at_lv [] rfl ?_
      first | (simp only [if_pos hc0, if_neg (show ¬ (f_X8_isTurn x2) = true by rw [hc1]; decide)] at K; exact K) | exact K
    · replace h := h hc1
      refine at_iload_n C dX8_sight_19 rfl (j := 3) rfl ?_
      refine at_i2l C dX8_sight_20 ?_
      refine at_lconst C dX8_sight_21 (v := 0) rfl ?_
      refine at_ldc2 C lk_X8_sight_0 dX8_sight_22 ?_
      refine at_cS0 C 3 (c_X8_in X.l X.D X.E X.a1 X.a2 x3.toInt64 (0 : Int64) (3 : Int64)) gX8_sight_X8_in rfl (by decide +kernel) ⟨rfl, rfl⟩ rfl rfl rfl dX8_sight_25 ?_
      refine at_ifB_eq C dX8_sight_28 (tgt := 48) (by decide) (fun hc2 => ?_) (fun hc2 => ?_)
      · skip
        refine at_bipush C dX8_sight_48 (v := (-2)) rfl ?_
        refine at_lv [] rfl ?_
        first | (simp only [if_pos hc0, if_pos hc1, if_neg (show ¬ (f_X8_in x3.toInt64 (0 : Int64) (3 : Int64)) = true by rw [hc2]; decide)] at K; exact K) | exact K
      · replace h := h hc2
        refine at_aload_n C dX8_sight_31 rfl (j := 0) rfl ?_
        refine at_get C (K := RX8) (T := TX8) (N := 18) (ci := 7) (v := .ref (ad 7)) iw_X8_sight_X8 0 mW_c0 rfl 9 (by decide) lk_X8_sight_1 rfl dX8_sight_32 ?_
        refine at_iload_n C dX8_sight_35 rfl (j := 1) rfl ?_
        refine at_iald C 7 mW_c7 h dX8_sight_36 ?_
        refine at_iload_n C dX8_sight_37 rfl (j := 2) rfl ?_
        refine at_cS0 C 2 (c_X8_turned X.l X.D X.E X.a1 X.a2 (S2.1 9 x1.toNatClampNeg) x2) gX8_sight_X8_turned rfl (by decide +kernel) ⟨rfl, rfl⟩ rfl rfl rfl dX8_sight_38 ?_
        refine at_iload_n C dX8_sight_41 rfl (j := 3) rfl ?_
        refine at_cS0 C 2 (c_X8_sightOf X.l X.D X.E X.a1 X.a2 (f_X8_turned (S2.1 9 x1.toNatClampNeg) x2) x3) gX8_sight_X8_sightOf rfl (by decide +kernel) ⟨rfl, rfl⟩ rfl rfl rfl dX8_sight_42 ?_
        refine at_goto C dX8_sight_45 (tgt := 50) (by decide) ?_
        refine at_lv [] rfl ?_
        first | (simp only [if_pos hc0, if_pos hc1, if_pos hc2] at K; exact K) | exact K
def f_X8_sight (S1 : MS) (x1 : Int32) (x2 : Int32) (x3 : Int32) : Int32 := (if (f_X8_isShape S1 x1) then (if (f_X8_isTurn x2) then (if (f_X8_in x3.toInt64 (0 : Int64) (3 : Int64)) then f_X8_sightOf (f_X8_turned (S1.1 9 x1.toNatClampNeg) x2) x3 else (-2)) else (-2)) else (-2))
def p_X8_sight (S1 : MS) (x1 : Int32) (x2 : Int32) (x3 : Int32) : Prop := ((((f_X8_isShape S1 x1) = true) → (((f_X8_isTurn x2) = true) → (((f_X8_in x3.toInt64 (0 : Int64) (3 : Int64)) = true) → (vp_in x1 8)))))
set_option maxRecDepth 100000 in
theorem c_X8_sight (ad : Nat → Nat) (S S1 : MS) (hr : ∀ (l : Launch) (D : va_G) (E : Nat → ClassId) (a1 a2 : Nat), Fn l D E a1 a2 yX8_reads wsX8_reads 3 70 [.ref (ad 0)] (mW E ad S) none (mW E ad S1)) (x1 : Int32) (x2 : Int32) (x3 : Int32) (hp : p_X8_sight S1 x1 x2 x3) (l : Launch) (D : va_G) (E : Nat → ClassId) (a1 a2 : Nat) : Fn l D E a1 a2 yX8_sight wsX8_sight 4 90 [.ref (ad 0), .int x1, .int x2, .int x3] (mW E ad S) (some (.int (f_X8_sight S1 x1 x2 x3))) (mW E ad S1) := by
  refine Fn.of (cc := cX8_sight) (maxL := 4) (ret := (some .int)) (own := RX8) (by decide) rfl rfl (sameM _ _ _ _) (Nat.le_of_ble_eq_true rfl) (fun X h1 h2 h3 h4 h5 C hE => ?_)
  subst h1 h2 h3 h4 h5
  refine r_X8_sight_0 C ad S x1 x2 x3 ⟨S1, hr X.l X.D X.E X.a1 X.a2, ?_⟩
  refine ⟨hp, ?_⟩
  simp only [f_X8_sight] at hE
  exact hE
set_option maxRecDepth 20000 in
theorem ggX8_form_X8_reads : GoodIn wsX8_form wsX8_reads := goodIn_r _ [6, 7, 8, 9, 5, 10, 11, 12, 13, 14, 15, 16, 17, 18, 19, 20, 21, 22, 23, 24, 25, 26, 27, 28, 29, 30, 31, 32, 33, 34, 35, 36, 37, 38, 39, 40, 41, 42, 43, 44, 45, 46, 47, 75, 76, 77, 78, 79, 80, 81, 82, 83, 84, 85, 86, 87, 88, 89, 90, 91, 92] (by decide +kernel) (by decide +kernel)
set_option maxRecDepth 20000 in
theorem gX8_form_X8_reads : GoodIn wsX8_form (wsV RX8 138 RX8 yX8_reads wsX8_reads) := goodIn_app (goodIn_of _ (by decide +kernel)) ggX8_form_X8_reads
set_option maxRecDepth 20000 in
theorem ggX8_form_X8_isShape : GoodIn wsX8_form wsX8_isShape := goodIn_r _ [51, 12, 28, 29, 5, 30, 75, 76, 77, 78, 79, 80, 81, 82, 83, 84, 85, 86, 87, 88, 89, 90, 91, 92] (by decide +kernel) (by decide +kernel)
set_option maxRecDepth 20000 in
theorem gX8_form_X8_isShape : GoodIn wsX8_form (wsV RX8 141 RX8 yX8_isShape wsX8_isShape) := goodIn_app (goodIn_of _ (by decide +kernel)) ggX8_form_X8_isShape
set_option maxRecDepth 20000 in
theorem ggX8_form_X8_in : GoodIn wsX8_form wsX8_in := goodIn_r _ [30] (by decide +kernel) (by decide +kernel)
set_option maxRecDepth 20000 in
theorem gX8_form_X8_in : GoodIn wsX8_form (va_wsS RX8 53 yX8_in wsX8_in) := goodIn_app (goodIn_of _ (by decide +kernel)) ggX8_form_X8_in
set_option maxRecDepth 20000 in
theorem ggX8_form_X8_formOf : GoodIn wsX8_form wsX8_formOf := goodIn_r _ [55, 22, 56, 57, 5, 58, 59, 60, 61, 62, 28, 29, 30, 63, 64, 65, 66, 67, 68, 69, 70, 71, 72, 73, 74, 75, 76, 77, 78, 79, 80, 81, 82, 83, 84, 85, 86, 87, 88, 89, 90, 91, 92] (by decide +kernel) (by decide +kernel)
set_option maxRecDepth 20000 in
theorem gX8_form_X8_formOf : GoodIn wsX8_form (wsV RX8 172 RX8 yX8_formOf wsX8_formOf) := goodIn_app (goodIn_of _ (by decide +kernel)) ggX8_form_X8_formOf
theorem dX8_form_0 : decode cX8_form 0 = .ok (.aload_n 0, 1) := by decide +kernel
theorem dX8_form_1 : decode cX8_form 1 = .ok (.invokevirtual 138, 3) := by decide +kernel
theorem dX8_form_4 : decode cX8_form 4 = .ok (.aload_n 0, 1) := by decide +kernel
theorem dX8_form_5 : decode cX8_form 5 = .ok (.iload_n 1, 1) := by decide +kernel
theorem dX8_form_6 : decode cX8_form 6 = .ok (.invokevirtual 141, 3) := by decide +kernel
theorem dX8_form_9 : decode cX8_form 9 = .ok (.ifCond .eq 24, 3) := by decide +kernel
theorem dX8_form_12 : decode cX8_form 12 = .ok (.iload_n 2, 1) := by decide +kernel
theorem dX8_form_13 : decode cX8_form 13 = .ok (.i2l, 1) := by decide +kernel
theorem dX8_form_14 : decode cX8_form 14 = .ok (.lconst 0, 1) := by decide +kernel
theorem dX8_form_15 : decode cX8_form 15 = .ok (.ldc2_w 67, 3) := by decide +kernel
theorem dX8_form_18 : decode cX8_form 18 = .ok (.invokestatic 53, 3) := by decide +kernel
theorem dX8_form_21 : decode cX8_form 21 = .ok (.ifCond .eq 12, 3) := by decide +kernel
theorem dX8_form_24 : decode cX8_form 24 = .ok (.aload_n 0, 1) := by decide +kernel
theorem dX8_form_25 : decode cX8_form 25 = .ok (.iload_n 1, 1) := by decide +kernel
theorem dX8_form_26 : decode cX8_form 26 = .ok (.iload_n 2, 1) := by decide +kernel
theorem dX8_form_27 : decode cX8_form 27 = .ok (.invokevirtual 172, 3) := by decide +kernel
theorem dX8_form_30 : decode cX8_form 30 = .ok (.goto 5, 3) := by decide +kernel
theorem dX8_form_33 : decode cX8_form 33 = .ok (.bipush (-2), 2) := by decide +kernel
theorem dX8_form_35 : decode cX8_form 35 = .ok (.ireturn, 1) := by decide +kernel
theorem lk_X8_form_0 : Cond.constantLong RX8 67 2 ∈ wsX8_form := by decide +kernel
set_option maxRecDepth 100000 in
theorem r_X8_form_0 {X : Bn} (C : Cx X cX8_form 3 RX8 wsX8_form 4 94) (ad : Nat → Nat) (S : MS) (x1 : Int32) (x2 : Int32) (h : ∃ (S2 : MS), (Fn X.l X.D X.E X.a1 X.a2 yX8_reads wsX8_reads 3 70 [.ref (ad 0)] (mW X.E ad S) none (mW X.E ad S2)) ∧ (((((f_X8_isShape S2 x1) = true) → (((f_X8_in x2.toInt64 (0 : Int64) (2 : Int64)) = true) → (p_X8_formOf S2 x1 x2)))) ∧ (Ends X (some .int) (some (.int (if (f_X8_isShape S2 x1) then (if (f_X8_in x2.toInt64 (0 : Int64) (2 : Int64)) then f_X8_formOf S2 x1 x2 else (-2)) else (-2)))) (mW X.E ad S2)))) : At X 3 (mW X.E ad S) 0 [(0, .ref (ad 0)), (1, .int x1), (2, .int x2)] [] := by
  refine at_aload_n C dX8_form_0 rfl (j := 0) rfl ?_
  obtain ⟨S2, hF2, h⟩ := h
  refine at_cV1v C 0 hF2 gX8_form_X8_reads rfl (by decide +kernel) ⟨rfl, rfl⟩ rfl rfl rfl 0 mW_c0 rfl dX8_form_1 ?_
  refine at_aload_n C dX8_form_4 rfl (j := 0) rfl ?_
  refine at_iload_n C dX8_form_5 rfl (j := 1) rfl ?_
  refine at_cV1 C 1 (c_X8_isShape X.l X.D X.E X.a1 X.a2 ad S2 x1) gX8_form_X8_isShape rfl (by decide +kernel) ⟨rfl, rfl⟩ rfl rfl rfl 0 mW_c0 rfl dX8_form_6 ?_
  have hq := h.1
  replace h := h.2
  have K : At X 3 (mW X.E ad S2) 35 [] [.int (if (f_X8_isShape S2 x1) then (if (f_X8_in x2.toInt64 (0 : Int64) (2 : Int64)) then f_X8_formOf S2 x1 x2 else (-2)) else (-2))] := by
    exact at_iret C dX8_form_35 h
  replace h := hq
  refine at_ifB_eq C dX8_form_9 (tgt := 33) (by decide) (fun hc0 => ?_) (fun hc0 => ?_)
  · skip
    refine at_bipush C dX8_form_33 (v := (-2)) rfl ?_
    refine at_lv [] rfl ?_
    first | (simp only [if_neg (show ¬ (f_X8_isShape S2 x1) = true by rw [hc0]; decide)] at K; exact K) | exact K
  · replace h := h hc0
    refine at_iload_n C dX8_form_12 rfl (j := 2) rfl ?_
    refine at_i2l C dX8_form_13 ?_
    refine at_lconst C dX8_form_14 (v := 0) rfl ?_
    refine at_ldc2 C lk_X8_form_0 dX8_form_15 ?_
    refine at_cS0 C 3 (c_X8_in X.l X.D X.E X.a1 X.a2 x2.toInt64 (0 : Int64) (2 : Int64)) gX8_form_X8_in rfl (by decide +kernel) ⟨rfl, rfl⟩ rfl rfl rfl dX8_form_18 ?_
    refine at_ifB_eq C dX8_form_21 (tgt := 33) (by decide) (fun hc1 => ?_) (fun hc1 => ?_)
    · skip
      refine at_bipush C dX8_form_33 (v := (-2)) rfl ?_
      refine at_lv [] rfl ?_
      first | (simp only [if_pos hc0, if_neg (show ¬ (f_X8_in x2.toInt64 (0 : Int64) (2 : Int64)) = true by rw [hc1]; decide)] at K; exact K) | exact K
    · replace h := h hc1
      refine at_aload_n C dX8_form_24 rfl (j := 0) rfl ?_
      refine at_iload_n C dX8_form_25 rfl (j := 1) rfl ?_
      refine at_iload_n C dX8_form_26 rfl (j := 2) rfl ?_
      refine at_cV1 C 2 (c_X8_formOf X.l X.D X.E X.a1 X.a2 ad S2 x1 x2 h) gX8_form_X8_formOf rfl (by decide +kernel) ⟨rfl, rfl⟩ rfl rfl rfl 0 mW_c0 rfl dX8_form_27 ?_
      refine at_goto C dX8_form_30 (tgt := 35) (by decide) ?_
      refine at_lv [] rfl ?_
      first | (simp only [if_pos hc0, if_pos hc1] at K; exact K) | exact K
def f_X8_form (S1 : MS) (x1 : Int32) (x2 : Int32) : Int32 := (if (f_X8_isShape S1 x1) then (if (f_X8_in x2.toInt64 (0 : Int64) (2 : Int64)) then f_X8_formOf S1 x1 x2 else (-2)) else (-2))
def p_X8_form (S1 : MS) (x1 : Int32) (x2 : Int32) : Prop := ((((f_X8_isShape S1 x1) = true) → (((f_X8_in x2.toInt64 (0 : Int64) (2 : Int64)) = true) → (p_X8_formOf S1 x1 x2))))
set_option maxRecDepth 100000 in
theorem c_X8_form (ad : Nat → Nat) (S S1 : MS) (hr : ∀ (l : Launch) (D : va_G) (E : Nat → ClassId) (a1 a2 : Nat), Fn l D E a1 a2 yX8_reads wsX8_reads 3 70 [.ref (ad 0)] (mW E ad S) none (mW E ad S1)) (x1 : Int32) (x2 : Int32) (hp : p_X8_form S1 x1 x2) (l : Launch) (D : va_G) (E : Nat → ClassId) (a1 a2 : Nat) : Fn l D E a1 a2 yX8_form wsX8_form 4 94 [.ref (ad 0), .int x1, .int x2] (mW E ad S) (some (.int (f_X8_form S1 x1 x2))) (mW E ad S1) := by
  refine Fn.of (cc := cX8_form) (maxL := 3) (ret := (some .int)) (own := RX8) (by decide) rfl rfl (sameM _ _ _ _) (Nat.le_of_ble_eq_true rfl) (fun X h1 h2 h3 h4 h5 C hE => ?_)
  subst h1 h2 h3 h4 h5
  refine r_X8_form_0 C ad S x1 x2 ⟨S1, hr X.l X.D X.E X.a1 X.a2, ?_⟩
  refine ⟨hp, ?_⟩
  simp only [f_X8_form] at hE
  exact hE
set_option maxRecDepth 20000 in
theorem ggX8_kin_X8_reads : GoodIn wsX8_kin wsX8_reads := goodIn_r _ [5, 6, 7, 8, 4, 9, 10, 11, 12, 13, 14, 15, 16, 17, 18, 19, 20, 21, 22, 23, 24, 25, 26, 27, 28, 29, 30, 31, 32, 33, 34, 35, 36, 37, 38, 39, 40, 41, 42, 43, 44, 45, 46, 78, 79, 80, 81, 82, 83, 84, 85, 86, 87, 88, 89, 90, 91, 92, 93, 94, 95] (by decide +kernel) (by decide +kernel)
set_option maxRecDepth 20000 in
theorem gX8_kin_X8_reads : GoodIn wsX8_kin (wsV RX8 138 RX8 yX8_reads wsX8_reads) := goodIn_app (goodIn_of _ (by decide +kernel)) ggX8_kin_X8_reads
set_option maxRecDepth 20000 in
theorem ggX8_kin_X8_isShape : GoodIn wsX8_kin wsX8_isShape := goodIn_r _ [50, 11, 27, 28, 4, 29, 78, 79, 80, 81, 82, 83, 84, 85, 86, 87, 88, 89, 90, 91, 92, 93, 94, 95] (by decide +kernel) (by decide +kernel)
set_option maxRecDepth 20000 in
theorem gX8_kin_X8_isShape : GoodIn wsX8_kin (wsV RX8 141 RX8 yX8_isShape wsX8_isShape) := goodIn_app (goodIn_of _ (by decide +kernel)) ggX8_kin_X8_isShape
set_option maxRecDepth 20000 in
theorem ggX8_kin_X8_isTwo : GoodIn wsX8_kin wsX8_isTwo := goodIn_r _ [53, 27, 28, 4, 29] (by decide +kernel) (by decide +kernel)
set_option maxRecDepth 20000 in
theorem gX8_kin_X8_isTwo : GoodIn wsX8_kin (va_wsS RX8 82 yX8_isTwo wsX8_isTwo) := goodIn_app (goodIn_of _ (by decide +kernel)) ggX8_kin_X8_isTwo
set_option maxRecDepth 20000 in
theorem ggX8_kin_X8_kinOf : GoodIn wsX8_kin wsX8_kinOf := goodIn_r _ [57, 21, 11, 58, 59, 4, 60, 61, 62, 63, 64, 65, 66, 67, 68, 69, 70, 71, 72, 73, 74, 75, 76, 77, 78, 79, 80, 81, 82, 83, 84, 85, 86, 87, 88, 89, 90, 91, 92, 93, 94, 95] (by decide +kernel) (by decide +kernel)
set_option maxRecDepth 20000 in
theorem gX8_kin_X8_kinOf : GoodIn wsX8_kin (wsV RX8 178 RX8 yX8_kinOf wsX8_kinOf) := goodIn_app (goodIn_of _ (by decide +kernel)) ggX8_kin_X8_kinOf
theorem dX8_kin_0 : decode cX8_kin 0 = .ok (.aload_n 0, 1) := by decide +kernel
theorem dX8_kin_1 : decode cX8_kin 1 = .ok (.invokevirtual 138, 3) := by decide +kernel
theorem dX8_kin_4 : decode cX8_kin 4 = .ok (.aload_n 0, 1) := by decide +kernel
theorem dX8_kin_5 : decode cX8_kin 5 = .ok (.iload_n 1, 1) := by decide +kernel
theorem dX8_kin_6 : decode cX8_kin 6 = .ok (.invokevirtual 141, 3) := by decide +kernel
theorem dX8_kin_9 : decode cX8_kin 9 = .ok (.ifCond .eq 19, 3) := by decide +kernel
theorem dX8_kin_12 : decode cX8_kin 12 = .ok (.iload_n 2, 1) := by decide +kernel
theorem dX8_kin_13 : decode cX8_kin 13 = .ok (.invokestatic 82, 3) := by decide +kernel
theorem dX8_kin_16 : decode cX8_kin 16 = .ok (.ifCond .eq 12, 3) := by decide +kernel
theorem dX8_kin_19 : decode cX8_kin 19 = .ok (.aload_n 0, 1) := by decide +kernel
theorem dX8_kin_20 : decode cX8_kin 20 = .ok (.iload_n 1, 1) := by decide +kernel
theorem dX8_kin_21 : decode cX8_kin 21 = .ok (.iload_n 2, 1) := by decide +kernel
theorem dX8_kin_22 : decode cX8_kin 22 = .ok (.invokevirtual 178, 3) := by decide +kernel
theorem dX8_kin_25 : decode cX8_kin 25 = .ok (.goto 5, 3) := by decide +kernel
theorem dX8_kin_28 : decode cX8_kin 28 = .ok (.bipush (-2), 2) := by decide +kernel
theorem dX8_kin_30 : decode cX8_kin 30 = .ok (.ireturn, 1) := by decide +kernel
set_option maxRecDepth 100000 in
theorem r_X8_kin_0 {X : Bn} (C : Cx X cX8_kin 3 RX8 wsX8_kin 5 115) (ad : Nat → Nat) (S : MS) (x1 : Int32) (x2 : Int32) (h : ∃ (S2 : MS), (Fn X.l X.D X.E X.a1 X.a2 yX8_reads wsX8_reads 3 70 [.ref (ad 0)] (mW X.E ad S) none (mW X.E ad S2)) ∧ (((((f_X8_isShape S2 x1) = true) → (((f_X8_isTwo x2) = true) → (p_X8_kinOf S2 x1)))) ∧ (Ends X (some .int) (some (.int (if (f_X8_isShape S2 x1) then (if (f_X8_isTwo x2) then f_X8_kinOf S2 x1 x2 else (-2)) else (-2)))) (mW X.E ad S2)))) : At X 3 (mW X.E ad S) 0 [(0, .ref (ad 0)), (1, .int x1), (2, .int x2)] [] := by
  refine at_aload_n C dX8_kin_0 rfl (j := 0) rfl ?_
  obtain ⟨S2, hF2, h⟩ := h
  refine at_cV1v C 0 hF2 gX8_kin_X8_reads rfl (by decide +kernel) ⟨rfl, rfl⟩ rfl rfl rfl 0 mW_c0 rfl dX8_kin_1 ?_
  refine at_aload_n C dX8_kin_4 rfl (j := 0) rfl ?_
  refine at_iload_n C dX8_kin_5 rfl (j := 1) rfl ?_
  refine at_cV1 C 1 (c_X8_isShape X.l X.D X.E X.a1 X.a2 ad S2 x1) gX8_kin_X8_isShape rfl (by decide +kernel) ⟨rfl, rfl⟩ rfl rfl rfl 0 mW_c0 rfl dX8_kin_6 ?_
  have hq := h.1
  replace h := h.2
  have K : At X 3 (mW X.E ad S2) 30 [] [.int (if (f_X8_isShape S2 x1) then (if (f_X8_isTwo x2) then f_X8_kinOf S2 x1 x2 else (-2)) else (-2))] := by
    exact at_iret C dX8_kin_30 h
  replace h := hq
  refine at_ifB_eq C dX8_kin_9 (tgt := 28) (by decide) (fun hc0 => ?_) (fun hc0 => ?_)
  · skip
    refine at_bipush C dX8_kin_28 (v := (-2)) rfl ?_
    refine at_lv [] rfl ?_
    first | (simp only [if_neg (show ¬ (f_X8_isShape S2 x1) = true by rw [hc0]; decide)] at K; exact K) | exact K
  · replace h := h hc0
    refine at_iload_n C dX8_kin_12 rfl (j := 2) rfl ?_
    refine at_cS0 C 1 (c_X8_isTwo X.l X.D X.E X.a1 X.a2 x2) gX8_kin_X8_isTwo rfl (by decide +kernel) ⟨rfl, rfl⟩ rfl rfl rfl dX8_kin_13 ?_
    refine at_ifB_eq C dX8_kin_16 (tgt := 28) (by decide) (fun hc1 => ?_) (fun hc1 => ?_)
    · skip
      refine at_bipush C dX8_kin_28 (v := (-2)) rfl ?_
      refine at_lv [] rfl ?_
      first | (simp only [if_pos hc0, if_neg (show ¬ (f_X8_isTwo x2) = true by rw [hc1]; decide)] at K; exact K) | exact K
    · replace h := h hc1
      refine at_aload_n C dX8_kin_19 rfl (j := 0) rfl ?_
      refine at_iload_n C dX8_kin_20 rfl (j := 1) rfl ?_
      refine at_iload_n C dX8_kin_21 rfl (j := 2) rfl ?_
      refine at_cV1 C 2 (c_X8_kinOf X.l X.D X.E X.a1 X.a2 ad S2 x1 x2 h) gX8_kin_X8_kinOf rfl (by decide +kernel) ⟨rfl, rfl⟩ rfl rfl rfl 0 mW_c0 rfl dX8_kin_22 ?_
      refine at_goto C dX8_kin_25 (tgt := 30) (by decide) ?_
      refine at_lv [] rfl ?_
      first | (simp only [if_pos hc0, if_pos hc1] at K; exact K) | exact K
def f_X8_kin (S1 : MS) (x1 : Int32) (x2 : Int32) : Int32 := (if (f_X8_isShape S1 x1) then (if (f_X8_isTwo x2) then f_X8_kinOf S1 x1 x2 else (-2)) else (-2))
def p_X8_kin (S1 : MS) (x1 : Int32) (x2 : Int32) : Prop := ((((f_X8_isShape S1 x1) = true) → (((f_X8_isTwo x2) = true) → (p_X8_kinOf S1 x1))))
set_option maxRecDepth 100000 in
theorem c_X8_kin (ad : Nat → Nat) (S S1 : MS) (hr : ∀ (l : Launch) (D : va_G) (E : Nat → ClassId) (a1 a2 : Nat), Fn l D E a1 a2 yX8_reads wsX8_reads 3 70 [.ref (ad 0)] (mW E ad S) none (mW E ad S1)) (x1 : Int32) (x2 : Int32) (hp : p_X8_kin S1 x1 x2) (l : Launch) (D : va_G) (E : Nat → ClassId) (a1 a2 : Nat) : Fn l D E a1 a2 yX8_kin wsX8_kin 5 115 [.ref (ad 0), .int x1, .int x2] (mW E ad S) (some (.int (f_X8_kin S1 x1 x2))) (mW E ad S1) := by
  refine Fn.of (cc := cX8_kin) (maxL := 3) (ret := (some .int)) (own := RX8) (by decide) rfl rfl (sameM _ _ _ _) (Nat.le_of_ble_eq_true rfl) (fun X h1 h2 h3 h4 h5 C hE => ?_)
  subst h1 h2 h3 h4 h5
  refine r_X8_kin_0 C ad S x1 x2 ⟨S1, hr X.l X.D X.E X.a1 X.a2, ?_⟩
  refine ⟨hp, ?_⟩
  simp only [f_X8_kin] at hE
  exact hE
set_option maxRecDepth 20000 in
theorem ggX8_self_X8_reads : GoodIn wsX8_self wsX8_reads := goodIn_r _ [5, 6, 7, 8, 4, 9, 10, 11, 12, 13, 14, 15, 16, 17, 18, 19, 20, 21, 22, 23, 24, 25, 26, 27, 28, 29, 30, 31, 32, 33, 34, 35, 36, 37, 38, 39, 40, 41, 42, 43, 44, 45, 46, 69, 70, 71, 72, 73, 74, 75, 76, 77, 78, 79, 80, 81, 82, 83, 84, 85, 86] (by decide +kernel) (by decide +kernel)
set_option maxRecDepth 20000 in
theorem gX8_self_X8_reads : GoodIn wsX8_self (wsV RX8 138 RX8 yX8_reads wsX8_reads) := goodIn_app (goodIn_of _ (by decide +kernel)) ggX8_self_X8_reads
set_option maxRecDepth 20000 in
theorem ggX8_self_X8_isShape : GoodIn wsX8_self wsX8_isShape := goodIn_r _ [50, 11, 27, 28, 4, 29, 69, 70, 71, 72, 73, 74, 75, 76, 77, 78, 79, 80, 81, 82, 83, 84, 85, 86] (by decide +kernel) (by decide +kernel)
set_option maxRecDepth 20000 in
theorem gX8_self_X8_isShape : GoodIn wsX8_self (wsV RX8 141 RX8 yX8_isShape wsX8_isShape) := goodIn_app (goodIn_of _ (by decide +kernel)) ggX8_self_X8_isShape
set_option maxRecDepth 20000 in
theorem ggX8_self_X8_selfOf : GoodIn wsX8_self wsX8_selfOf := goodIn_r _ [54, 21, 55, 56, 4, 57, 58, 59, 60, 61, 62, 63, 64, 65, 66, 67, 68, 69, 70, 71, 72, 73, 74, 75, 76, 77, 78, 79, 80, 81, 82, 83, 84, 85, 86] (by decide +kernel) (by decide +kernel)
set_option maxRecDepth 20000 in
theorem gX8_self_X8_selfOf : GoodIn wsX8_self (wsV RX8 181 RX8 yX8_selfOf wsX8_selfOf) := goodIn_app (goodIn_of _ (by decide +kernel)) ggX8_self_X8_selfOf
theorem dX8_self_0 : decode cX8_self 0 = .ok (.aload_n 0, 1) := by decide +kernel
theorem dX8_self_1 : decode cX8_self 1 = .ok (.invokevirtual 138, 3) := by decide +kernel
theorem dX8_self_4 : decode cX8_self 4 = .ok (.aload_n 0, 1) := by decide +kernel
theorem dX8_self_5 : decode cX8_self 5 = .ok (.iload_n 1, 1) := by decide +kernel
theorem dX8_self_6 : decode cX8_self 6 = .ok (.invokevirtual 141, 3) := by decide +kernel
theorem dX8_self_9 : decode cX8_self 9 = .ok (.ifCond .eq 11, 3) := by decide +kernel
theorem dX8_self_12 : decode cX8_self 12 = .ok (.aload_n 0, 1) := by decide +kernel
theorem dX8_self_13 : decode cX8_self 13 = .ok (.iload_n 1, 1) := by decide +kernel
theorem dX8_self_14 : decode cX8_self 14 = .ok (.invokevirtual 181, 3) := by decide +kernel
theorem dX8_self_17 : decode cX8_self 17 = .ok (.goto 5, 3) := by decide +kernel
theorem dX8_self_20 : decode cX8_self 20 = .ok (.bipush (-2), 2) := by decide +kernel
theorem dX8_self_22 : decode cX8_self 22 = .ok (.ireturn, 1) := by decide +kernel
set_option maxRecDepth 100000 in
theorem r_X8_self_0 {X : Bn} (C : Cx X cX8_self 2 RX8 wsX8_self 4 90) (ad : Nat → Nat) (S : MS) (x1 : Int32) (h : ∃ (S2 : MS), (Fn X.l X.D X.E X.a1 X.a2 yX8_reads wsX8_reads 3 70 [.ref (ad 0)] (mW X.E ad S) none (mW X.E ad S2)) ∧ (((((f_X8_isShape S2 x1) = true) → (p_X8_selfOf S2 x1))) ∧ (Ends X (some .int) (some (.int (if (f_X8_isShape S2 x1) then f_X8_selfOf S2 x1 else (-2)))) (mW X.E ad S2)))) : At X 2 (mW X.E ad S) 0 [(0, .ref (ad 0)), (1, .int x1)] [] := by
  refine at_aload_n C dX8_self_0 rfl (j := 0) rfl ?_
  obtain ⟨S2, hF2, h⟩ := h
  refine at_cV1v C 0 hF2 gX8_self_X8_reads rfl (by decide +kernel) ⟨rfl, rfl⟩ rfl rfl rfl 0 mW_c0 rfl dX8_self_1 ?_
  refine at_aload_n C dX8_self_4 rfl (j := 0) rfl ?_
  refine at_iload_n C dX8_self_5 rfl (j := 1) rfl ?_
  refine at_cV1 C 1 (c_X8_isShape X.l X.D X.E X.a1 X.a2 ad S2 x1) gX8_self_X8_isShape rfl (by decide +kernel) ⟨rfl, rfl⟩ rfl rfl rfl 0 mW_c0 rfl dX8_self_6 ?_
  have hq := h.1
  replace h := h.2
  have K : At X 2 (mW X.E ad S2) 22 [] [.int (if (f_X8_isShape S2 x1) then f_X8_selfOf S2 x1 else (-2))] := by
    exact at_iret C dX8_self_22 h
  replace h := hq
  refine at_ifB_eq C dX8_self_9 (tgt := 20) (by decide) (fun hc0 => ?_) (fun hc0 => ?_)
  · skip
    refine at_bipush C dX8_self_20 (v := (-2)) rfl ?_
    refine at_lv [] rfl ?_
    first | (simp only [if_neg (show ¬ (f_X8_isShape S2 x1) = true by rw [hc0]; decide)] at K; exact K) | exact K
  · replace h := h hc0
    refine at_aload_n C dX8_self_12 rfl (j := 0) rfl ?_
    refine at_iload_n C dX8_self_13 rfl (j := 1) rfl ?_
    refine at_cV1 C 1 (c_X8_selfOf X.l X.D X.E X.a1 X.a2 ad S2 x1 h) gX8_self_X8_selfOf rfl (by decide +kernel) ⟨rfl, rfl⟩ rfl rfl rfl 0 mW_c0 rfl dX8_self_14 ?_
    refine at_goto C dX8_self_17 (tgt := 22) (by decide) ?_
    refine at_lv [] rfl ?_
    first | (simp only [if_pos hc0] at K; exact K) | exact K
def f_X8_self (S1 : MS) (x1 : Int32) : Int32 := (if (f_X8_isShape S1 x1) then f_X8_selfOf S1 x1 else (-2))
def p_X8_self (S1 : MS) (x1 : Int32) : Prop := ((((f_X8_isShape S1 x1) = true) → (p_X8_selfOf S1 x1)))
set_option maxRecDepth 100000 in
theorem c_X8_self (ad : Nat → Nat) (S S1 : MS) (hr : ∀ (l : Launch) (D : va_G) (E : Nat → ClassId) (a1 a2 : Nat), Fn l D E a1 a2 yX8_reads wsX8_reads 3 70 [.ref (ad 0)] (mW E ad S) none (mW E ad S1)) (x1 : Int32) (hp : p_X8_self S1 x1) (l : Launch) (D : va_G) (E : Nat → ClassId) (a1 a2 : Nat) : Fn l D E a1 a2 yX8_self wsX8_self 4 90 [.ref (ad 0), .int x1] (mW E ad S) (some (.int (f_X8_self S1 x1))) (mW E ad S1) := by
  refine Fn.of (cc := cX8_self) (maxL := 2) (ret := (some .int)) (own := RX8) (by decide) rfl rfl (sameM _ _ _ _) (Nat.le_of_ble_eq_true rfl) (fun X h1 h2 h3 h4 h5 C hE => ?_)
  subst h1 h2 h3 h4 h5
  refine r_X8_self_0 C ad S x1 ⟨S1, hr X.l X.D X.E X.a1 X.a2, ?_⟩
  refine ⟨hp, ?_⟩
  simp only [f_X8_self] at hE
  exact hE
set_option maxRecDepth 20000 in
theorem ggX8_stands_X8_reads : GoodIn wsX8_stands wsX8_reads := goodIn_r _ [6, 7, 8, 9, 5, 10, 11, 12, 13, 14, 15, 16, 17, 18, 19, 20, 21, 1, 22, 23, 24, 25, 26, 27, 28, 29, 30, 31, 32, 33, 34, 35, 36, 37, 38, 39, 40, 41, 42, 43, 44, 45, 46, 79, 80, 81, 82, 83, 84, 85, 86, 87, 88, 89, 90, 91, 92, 93, 94, 95, 96] (by decide +kernel) (by decide +kernel)
set_option maxRecDepth 20000 in
theorem gX8_stands_X8_reads : GoodIn wsX8_stands (wsV RX8 138 RX8 yX8_reads wsX8_reads) := goodIn_app (goodIn_of _ (by decide +kernel)) ggX8_stands_X8_reads
set_option maxRecDepth 20000 in
theorem ggX8_stands_X8_isStand : GoodIn wsX8_stands wsX8_isStand := goodIn_r _ [50, 51, 52, 53, 5, 54, 12, 27, 28, 29, 55, 56, 57, 58, 59, 60, 61, 62, 79, 80, 81, 82, 83, 84, 85, 86, 87, 88, 89, 90, 91, 92, 93, 94, 95, 96] (by decide +kernel) (by decide +kernel)
set_option maxRecDepth 20000 in
theorem gX8_stands_X8_isStand : GoodIn wsX8_stands (wsV RX8 189 RX8 yX8_isStand wsX8_isStand) := goodIn_app (goodIn_of _ (by decide +kernel)) ggX8_stands_X8_isStand
set_option maxRecDepth 20000 in
theorem ggX8_stands_X8_turned : GoodIn wsX8_stands wsX8_turned := goodIn_r _ [65, 66, 67, 5, 68, 69, 70, 71] (by decide +kernel) (by decide +kernel)
set_option maxRecDepth 20000 in
theorem gX8_stands_X8_turned : GoodIn wsX8_stands (va_wsS RX8 132 yX8_turned wsX8_turned) := goodIn_app (goodIn_of _ (by decide +kernel)) ggX8_stands_X8_turned
set_option maxRecDepth 20000 in
theorem ggX8_stands_X8_canStand : GoodIn wsX8_stands wsX8_canStand := goodIn_r _ [75, 42, 69, 70, 5, 71, 76, 77, 78, 79, 80, 81, 82, 83, 84, 85, 86, 87, 88, 89, 90, 91, 92, 93, 94, 95, 96] (by decide +kernel) (by decide +kernel)
set_option maxRecDepth 20000 in
theorem gX8_stands_X8_canStand : GoodIn wsX8_stands (wsV RX8 192 RX8 yX8_canStand wsX8_canStand) := goodIn_app (goodIn_of _ (by decide +kernel)) ggX8_stands_X8_canStand
theorem dX8_stands_0 : decode cX8_stands 0 = .ok (.aload_n 0, 1) := by decide +kernel
theorem dX8_stands_1 : decode cX8_stands 1 = .ok (.invokevirtual 138, 3) := by decide +kernel
theorem dX8_stands_4 : decode cX8_stands 4 = .ok (.aload_n 0, 1) := by decide +kernel
theorem dX8_stands_5 : decode cX8_stands 5 = .ok (.iload_n 1, 1) := by decide +kernel
theorem dX8_stands_6 : decode cX8_stands 6 = .ok (.iload_n 2, 1) := by decide +kernel
theorem dX8_stands_7 : decode cX8_stands 7 = .ok (.iload_n 3, 1) := by decide +kernel
theorem dX8_stands_8 : decode cX8_stands 8 = .ok (.invokevirtual 189, 3) := by decide +kernel
theorem dX8_stands_11 : decode cX8_stands 11 = .ok (.ifCond .eq 29, 3) := by decide +kernel
theorem dX8_stands_14 : decode cX8_stands 14 = .ok (.aload_n 0, 1) := by decide +kernel
theorem dX8_stands_15 : decode cX8_stands 15 = .ok (.aload_n 0, 1) := by decide +kernel
theorem dX8_stands_16 : decode cX8_stands 16 = .ok (.getfield 28, 3) := by decide +kernel
theorem dX8_stands_19 : decode cX8_stands 19 = .ok (.iload_n 1, 1) := by decide +kernel
theorem dX8_stands_20 : decode cX8_stands 20 = .ok (.iaload, 1) := by decide +kernel
theorem dX8_stands_21 : decode cX8_stands 21 = .ok (.iload_n 2, 1) := by decide +kernel
theorem dX8_stands_22 : decode cX8_stands 22 = .ok (.invokestatic 132, 3) := by decide +kernel
theorem dX8_stands_25 : decode cX8_stands 25 = .ok (.iload_n 3, 1) := by decide +kernel
theorem dX8_stands_26 : decode cX8_stands 26 = .ok (.invokevirtual 192, 3) := by decide +kernel
theorem dX8_stands_29 : decode cX8_stands 29 = .ok (.ifCond .eq 7, 3) := by decide +kernel
theorem dX8_stands_32 : decode cX8_stands 32 = .ok (.iconst 1, 1) := by decide +kernel
theorem dX8_stands_33 : decode cX8_stands 33 = .ok (.goto 9, 3) := by decide +kernel
theorem dX8_stands_36 : decode cX8_stands 36 = .ok (.iconst 0, 1) := by decide +kernel
theorem dX8_stands_37 : decode cX8_stands 37 = .ok (.goto 5, 3) := by decide +kernel
theorem dX8_stands_40 : decode cX8_stands 40 = .ok (.bipush (-2), 2) := by decide +kernel
theorem dX8_stands_42 : decode cX8_stands 42 = .ok (.ireturn, 1) := by decide +kernel
theorem iw_X8_stands_X8 : ∀ w ∈ u_ws RX8 TX8 18, w ∈ wsX8_stands := by decide +kernel
theorem lk_X8_stands_0 : Cond.fieldLink RX8 28 (TX8 9).1 (TX8 9).2.1 (TX8 9).2.2.1 ∈ wsX8_stands := by decide +kernel
set_option maxRecDepth 100000 in
theorem r_X8_stands_0 {X : Bn} (C : Cx X cX8_stands 4 RX8 wsX8_stands 4 90) (ad : Nat → Nat) (S : MS) (x1 : Int32) (x2 : Int32) (x3 : Int32) (h : ∃ (S2 : MS), (Fn X.l X.D X.E X.a1 X.a2 yX8_reads wsX8_reads 3 70 [.ref (ad 0)] (mW X.E ad S) none (mW X.E ad S2)) ∧ (((((f_X8_isStand S2 x1 x2 x3) = true) → (vp_in x1 8) ∧ (p_X8_canStand x3))) ∧ (Ends X (some .int) (some (.int (if (f_X8_isStand S2 x1 x2 x3) then (if (f_X8_canStand S2 (f_X8_turned (S2.1 9 x1.toNatClampNeg) x2) x3) then 1 else 0) else (-2)))) (mW X.E ad S2)))) : At X 4 (mW X.E ad S) 0 [(0, .ref (ad 0)), (1, .int x1), (2, .int x2), (3, .int x3)] [] := by
  refine at_aload_n C dX8_stands_0 rfl (j := 0) rfl ?_
  obtain ⟨S2, hF2, h⟩ := h
  refine at_cV1v C 0 hF2 gX8_stands_X8_reads rfl (by decide +kernel) ⟨rfl, rfl⟩ rfl rfl rfl 0 mW_c0 rfl dX8_stands_1 ?_
  refine at_aload_n C dX8_stands_4 rfl (j := 0) rfl ?_
  refine at_iload_n C dX8_stands_5 rfl (j := 1) rfl ?_
  refine at_iload_n C dX8_stands_6 rfl (j := 2) rfl ?_
  refine at_iload_n C dX8_stands_7 rfl (j := 3) rfl ?_
  refine at_cV1 C 3 (c_X8_isStand X.l X.D X.E X.a1 X.a2 ad S2 x1 x2 x3) gX8_stands_X8_isStand rfl (by decide +kernel) ⟨rfl, rfl⟩ rfl rfl rfl 0 mW_c0 rfl dX8_stands_8 ?_
  have hq := h.1
  replace h := h.2
  have K : At X 4 (mW X.E ad S2) 42 [] [.int (if (f_X8_isStand S2 x1 x2 x3) then (if (f_X8_canStand S2 (f_X8_turned (S2.1 9 x1.toNatClampNeg) x2) x3) then 1 else 0) else (-2))] := by
    exact at_iret C dX8_stands_42 h
  replace h := hq
  refine at_ifB_eq C dX8_stands_11 (tgt := 40) (by decide) (fun hc0 => ?_) (fun hc0 => ?_)
  · skip
    refine at_bipush C dX8_stands_40 (v := (-2)) rfl ?_
    refine at_lv [] rfl ?_
    first | (simp only [if_neg (show ¬ (f_X8_isStand S2 x1 x2 x3) = true by rw [hc0]; decide)] at K; exact K) | exact K
  · replace h := h hc0
    refine at_aload_n C dX8_stands_14 rfl (j := 0) rfl ?_
    refine at_aload_n C dX8_stands_15 rfl (j := 0) rfl ?_
    refine at_get C (K := RX8) (T := TX8) (N := 18) (ci := 7) (v := .ref (ad 7)) iw_X8_stands_X8 0 mW_c0 rfl 9 (by decide) lk_X8_stands_0 rfl dX8_stands_16 ?_
    refine at_iload_n C dX8_stands_19 rfl (j := 1) rfl ?_
    refine at_iald C 7 mW_c7 h.1 dX8_stands_20 ?_
    replace h := h.2
    refine at_iload_n C dX8_stands_21 rfl (j := 2) rfl ?_
    refine at_cS0 C 2 (c_X8_turned X.l X.D X.E X.a1 X.a2 (S2.1 9 x1.toNatClampNeg) x2) gX8_stands_X8_turned rfl (by decide +kernel) ⟨rfl, rfl⟩ rfl rfl rfl dX8_stands_22 ?_
    refine at_iload_n C dX8_stands_25 rfl (j := 3) rfl ?_
    refine at_cV1 C 2 (c_X8_canStand X.l X.D X.E X.a1 X.a2 ad S2 (f_X8_turned (S2.1 9 x1.toNatClampNeg) x2) x3 h) gX8_stands_X8_canStand rfl (by decide +kernel) ⟨rfl, rfl⟩ rfl rfl rfl 0 mW_c0 rfl dX8_stands_26 ?_
    refine at_ifB_eq C dX8_stands_29 (tgt := 36) (by decide) (fun hc1 => ?_) (fun hc1 => ?_)
    · skip
      refine at_iconst C dX8_stands_36 (v := 0) rfl ?_
      refine at_goto C dX8_stands_37 (tgt := 42) (by decide) ?_
      refine at_lv [] rfl ?_
      first | (simp only [if_pos hc0, if_neg (show ¬ (f_X8_canStand S2 (f_X8_turned (S2.1 9 x1.toNatClampNeg) x2) x3) = true by rw [hc1]; decide)] at K; exact K) | exact K
    · skip
      refine at_iconst C dX8_stands_32 (v := 1) rfl ?_
      refine at_goto C dX8_stands_33 (tgt := 42) (by decide) ?_
      refine at_lv [] rfl ?_
      first | (simp only [if_pos hc0, if_pos hc1] at K; exact K) | exact K
def f_X8_stands (S1 : MS) (x1 : Int32) (x2 : Int32) (x3 : Int32) : Int32 := (if (f_X8_isStand S1 x1 x2 x3) then (if (f_X8_canStand S1 (f_X8_turned (S1.1 9 x1.toNatClampNeg) x2) x3) then 1 else 0) else (-2))
def p_X8_stands (S1 : MS) (x1 : Int32) (x2 : Int32) (x3 : Int32) : Prop := ((((f_X8_isStand S1 x1 x2 x3) = true) → (vp_in x1 8) ∧ (p_X8_canStand x3)))
set_option maxRecDepth 100000 in
theorem c_X8_stands (ad : Nat → Nat) (S S1 : MS) (hr : ∀ (l : Launch) (D : va_G) (E : Nat → ClassId) (a1 a2 : Nat), Fn l D E a1 a2 yX8_reads wsX8_reads 3 70 [.ref (ad 0)] (mW E ad S) none (mW E ad S1)) (x1 : Int32) (x2 : Int32) (x3 : Int32) (hp : p_X8_stands S1 x1 x2 x3) (l : Launch) (D : va_G) (E : Nat → ClassId) (a1 a2 : Nat) : Fn l D E a1 a2 yX8_stands wsX8_stands 4 90 [.ref (ad 0), .int x1, .int x2, .int x3] (mW E ad S) (some (.int (f_X8_stands S1 x1 x2 x3))) (mW E ad S1) := by
  refine Fn.of (cc := cX8_stands) (maxL := 4) (ret := (some .int)) (own := RX8) (by decide) rfl rfl (sameM _ _ _ _) (Nat.le_of_ble_eq_true rfl) (fun X h1 h2 h3 h4 h5 C hE => ?_)
  subst h1 h2 h3 h4 h5
  refine r_X8_stands_0 C ad S x1 x2 x3 ⟨S1, hr X.l X.D X.E X.a1 X.a2, ?_⟩
  refine ⟨hp, ?_⟩
  simp only [f_X8_stands] at hE
  exact hE
set_option maxRecDepth 20000 in
theorem ggX8_meet_X8_reads : GoodIn wsX8_meet wsX8_reads := goodIn_r _ [5, 6, 7, 8, 4, 9, 10, 11, 12, 13, 14, 15, 16, 17, 18, 19, 20, 21, 22, 23, 24, 25, 26, 27, 28, 29, 30, 31, 32, 33, 34, 35, 36, 37, 38, 39, 40, 41, 42, 43, 44, 45, 46, 89, 90, 91, 92, 93, 94, 95, 96, 97, 98, 99, 100, 101, 102, 103, 104, 105, 106] (by decide +kernel) (by decide +kernel)
set_option maxRecDepth 20000 in
theorem gX8_meet_X8_reads : GoodIn wsX8_meet (wsV RX8 138 RX8 yX8_reads wsX8_reads) := goodIn_app (goodIn_of _ (by decide +kernel)) ggX8_meet_X8_reads
set_option maxRecDepth 20000 in
theorem ggX8_meet_X8_isStand : GoodIn wsX8_meet wsX8_isStand := goodIn_r _ [50, 51, 52, 53, 4, 54, 11, 27, 28, 29, 55, 56, 57, 58, 59, 60, 61, 62, 89, 90, 91, 92, 93, 94, 95, 96, 97, 98, 99, 100, 101, 102, 103, 104, 105, 106] (by decide +kernel) (by decide +kernel)
set_option maxRecDepth 20000 in
theorem gX8_meet_X8_isStand : GoodIn wsX8_meet (wsV RX8 189 RX8 yX8_isStand wsX8_isStand) := goodIn_app (goodIn_of _ (by decide +kernel)) ggX8_meet_X8_isStand
set_option maxRecDepth 20000 in
theorem ggX8_meet_X8_meetOf : GoodIn wsX8_meet wsX8_meetOf := goodIn_r _ [66, 21, 67, 68, 4, 69, 70, 71, 72, 73, 74, 75, 76, 77, 78, 79, 42, 80, 81, 82, 83, 84, 85, 86, 87, 88, 58, 27, 28, 29, 89, 90, 91, 92, 93, 94, 95, 96, 97, 98, 99, 100, 101, 102, 103, 104, 105, 106] (by decide +kernel) (by decide +kernel)
set_option maxRecDepth 20000 in
theorem gX8_meet_X8_meetOf : GoodIn wsX8_meet (wsV RX8 218 RX8 yX8_meetOf wsX8_meetOf) := goodIn_app (goodIn_of _ (by decide +kernel)) ggX8_meet_X8_meetOf
theorem dX8_meet_0 : decode cX8_meet 0 = .ok (.aload_n 0, 1) := by decide +kernel
theorem dX8_meet_1 : decode cX8_meet 1 = .ok (.invokevirtual 138, 3) := by decide +kernel
theorem dX8_meet_4 : decode cX8_meet 4 = .ok (.aload_n 0, 1) := by decide +kernel
theorem dX8_meet_5 : decode cX8_meet 5 = .ok (.iload_n 1, 1) := by decide +kernel
theorem dX8_meet_6 : decode cX8_meet 6 = .ok (.iload_n 2, 1) := by decide +kernel
theorem dX8_meet_7 : decode cX8_meet 7 = .ok (.iload_n 3, 1) := by decide +kernel
theorem dX8_meet_8 : decode cX8_meet 8 = .ok (.invokevirtual 189, 3) := by decide +kernel
theorem dX8_meet_11 : decode cX8_meet 11 = .ok (.ifCond .eq 32, 3) := by decide +kernel
theorem dX8_meet_14 : decode cX8_meet 14 = .ok (.aload_n 0, 1) := by decide +kernel
theorem dX8_meet_15 : decode cX8_meet 15 = .ok (.iload 4, 2) := by decide +kernel
theorem dX8_meet_17 : decode cX8_meet 17 = .ok (.iload 5, 2) := by decide +kernel
theorem dX8_meet_19 : decode cX8_meet 19 = .ok (.iload 6, 2) := by decide +kernel
theorem dX8_meet_21 : decode cX8_meet 21 = .ok (.invokevirtual 189, 3) := by decide +kernel
theorem dX8_meet_24 : decode cX8_meet 24 = .ok (.ifCond .eq 19, 3) := by decide +kernel
theorem dX8_meet_27 : decode cX8_meet 27 = .ok (.aload_n 0, 1) := by decide +kernel
theorem dX8_meet_28 : decode cX8_meet 28 = .ok (.iload_n 1, 1) := by decide +kernel
theorem dX8_meet_29 : decode cX8_meet 29 = .ok (.iload_n 2, 1) := by decide +kernel
theorem dX8_meet_30 : decode cX8_meet 30 = .ok (.iload_n 3, 1) := by decide +kernel
theorem dX8_meet_31 : decode cX8_meet 31 = .ok (.iload 4, 2) := by decide +kernel
theorem dX8_meet_33 : decode cX8_meet 33 = .ok (.iload 5, 2) := by decide +kernel
theorem dX8_meet_35 : decode cX8_meet 35 = .ok (.iload 6, 2) := by decide +kernel
theorem dX8_meet_37 : decode cX8_meet 37 = .ok (.invokevirtual 218, 3) := by decide +kernel
theorem dX8_meet_40 : decode cX8_meet 40 = .ok (.goto 5, 3) := by decide +kernel
theorem dX8_meet_43 : decode cX8_meet 43 = .ok (.bipush (-2), 2) := by decide +kernel
theorem dX8_meet_45 : decode cX8_meet 45 = .ok (.ireturn, 1) := by decide +kernel
set_option maxRecDepth 100000 in
theorem r_X8_meet_0 {X : Bn} (C : Cx X cX8_meet 7 RX8 wsX8_meet 4 99) (ad : Nat → Nat) (S : MS) (x1 : Int32) (x2 : Int32) (x3 : Int32) (x4 : Int32) (x5 : Int32) (x6 : Int32) (h : ∃ (S2 : MS), (Fn X.l X.D X.E X.a1 X.a2 yX8_reads wsX8_reads 3 70 [.ref (ad 0)] (mW X.E ad S) none (mW X.E ad S2)) ∧ (((((f_X8_isStand S2 x1 x2 x3) = true) → (((f_X8_isStand S2 x4 x5 x6) = true) → (p_X8_meetOf S2 x1 x2 x3 x4 x5 x6)))) ∧ (Ends X (some .int) (some (.int (if (f_X8_isStand S2 x1 x2 x3) then (if (f_X8_isStand S2 x4 x5 x6) then f_X8_meetOf S2 x1 x2 x3 x4 x5 x6 else (-2)) else (-2)))) (mW X.E ad S2)))) : At X 7 (mW X.E ad S) 0 [(0, .ref (ad 0)), (1, .int x1), (2, .int x2), (3, .int x3), (4, .int x4), (5, .int x5), (6, .int x6)] [] := by
  refine at_aload_n C dX8_meet_0 rfl (j := 0) rfl ?_
  obtain ⟨S2, hF2, h⟩ := h
  refine at_cV1v C 0 hF2 gX8_meet_X8_reads rfl (by decide +kernel) ⟨rfl, rfl⟩ rfl rfl rfl 0 mW_c0 rfl dX8_meet_1 ?_
  refine at_aload_n C dX8_meet_4 rfl (j := 0) rfl ?_
  refine at_iload_n C dX8_meet_5 rfl (j := 1) rfl ?_
  refine at_iload_n C dX8_meet_6 rfl (j := 2) rfl ?_
  refine at_iload_n C dX8_meet_7 rfl (j := 3) rfl ?_
  refine at_cV1 C 3 (c_X8_isStand X.l X.D X.E X.a1 X.a2 ad S2 x1 x2 x3) gX8_meet_X8_isStand rfl (by decide +kernel) ⟨rfl, rfl⟩ rfl rfl rfl 0 mW_c0 rfl dX8_meet_8 ?_
  have hq := h.1
  replace h := h.2
  have K : At X 7 (mW X.E ad S2) 45 [] [.int (if (f_X8_isStand S2 x1 x2 x3) then (if (f_X8_isStand S2 x4 x5 x6) then f_X8_meetOf S2 x1 x2 x3 x4 x5 x6 else (-2)) else (-2))] := by
    exact at_iret C dX8_meet_45 h
  replace h := hq
  refine at_ifB_eq C dX8_meet_11 (tgt := 43) (by decide) (fun hc0 => ?_) (fun hc0 => ?_)
  · skip
    refine at_bipush C dX8_meet_43 (v := (-2)) rfl ?_
    refine at_lv [] rfl ?_
    first | (simp only [if_neg (show ¬ (f_X8_isStand S2 x1 x2 x3) = true by rw [hc0]; decide)] at K; exact K) | exact K
  · replace h := h hc0
    refine at_aload_n C dX8_meet_14 rfl (j := 0) rfl ?_
    refine at_iload C dX8_meet_15 (j := 4) rfl ?_
    refine at_iload C dX8_meet_17 (j := 5) rfl ?_
    refine at_iload C dX8_meet_19 (j := 6) rfl ?_
    refine at_cV1 C 3 (c_X8_isStand X.l X.D X.E X.a1 X.a2 ad S2 x4 x5 x6) gX8_meet_X8_isStand rfl (by decide +kernel) ⟨rfl, rfl⟩ rfl rfl rfl 0 mW_c0 rfl dX8_meet_21 ?_
    refine at_ifB_eq C dX8_meet_24 (tgt := 43) (by decide) (fun hc1 => ?_) (fun hc1 => ?_)
    · skip
      refine at_bipush C dX8_meet_43 (v := (-2)) rfl ?_
      refine at_lv [] rfl ?_
      first | (simp only [if_pos hc0, if_neg (show ¬ (f_X8_isStand S2 x4 x5 x6) = true by rw [hc1]; decide)] at K; exact K) | exact K
    · replace h := h hc1
      refine at_aload_n C dX8_meet_27 rfl (j := 0) rfl ?_
      refine at_iload_n C dX8_meet_28 rfl (j := 1) rfl ?_
      refine at_iload_n C dX8_meet_29 rfl (j := 2) rfl ?_
      refine at_iload_n C dX8_meet_30 rfl (j := 3) rfl ?_
      refine at_iload C dX8_meet_31 (j := 4) rfl ?_
      refine at_iload C dX8_meet_33 (j := 5) rfl ?_
      refine at_iload C dX8_meet_35 (j := 6) rfl ?_
      refine at_cV1 C 6 (c_X8_meetOf X.l X.D X.E X.a1 X.a2 ad S2 x1 x2 x3 x4 x5 x6 h) gX8_meet_X8_meetOf rfl (by decide +kernel) ⟨rfl, rfl⟩ rfl rfl rfl 0 mW_c0 rfl dX8_meet_37 ?_
      refine at_goto C dX8_meet_40 (tgt := 45) (by decide) ?_
      refine at_lv [] rfl ?_
      first | (simp only [if_pos hc0, if_pos hc1] at K; exact K) | exact K
def f_X8_meet (S1 : MS) (x1 : Int32) (x2 : Int32) (x3 : Int32) (x4 : Int32) (x5 : Int32) (x6 : Int32) : Int32 := (if (f_X8_isStand S1 x1 x2 x3) then (if (f_X8_isStand S1 x4 x5 x6) then f_X8_meetOf S1 x1 x2 x3 x4 x5 x6 else (-2)) else (-2))
def p_X8_meet (S1 : MS) (x1 : Int32) (x2 : Int32) (x3 : Int32) (x4 : Int32) (x5 : Int32) (x6 : Int32) : Prop := ((((f_X8_isStand S1 x1 x2 x3) = true) → (((f_X8_isStand S1 x4 x5 x6) = true) → (p_X8_meetOf S1 x1 x2 x3 x4 x5 x6))))
set_option maxRecDepth 100000 in
theorem c_X8_meet (ad : Nat → Nat) (S S1 : MS) (hr : ∀ (l : Launch) (D : va_G) (E : Nat → ClassId) (a1 a2 : Nat), Fn l D E a1 a2 yX8_reads wsX8_reads 3 70 [.ref (ad 0)] (mW E ad S) none (mW E ad S1)) (x1 : Int32) (x2 : Int32) (x3 : Int32) (x4 : Int32) (x5 : Int32) (x6 : Int32) (hp : p_X8_meet S1 x1 x2 x3 x4 x5 x6) (l : Launch) (D : va_G) (E : Nat → ClassId) (a1 a2 : Nat) : Fn l D E a1 a2 yX8_meet wsX8_meet 4 99 [.ref (ad 0), .int x1, .int x2, .int x3, .int x4, .int x5, .int x6] (mW E ad S) (some (.int (f_X8_meet S1 x1 x2 x3 x4 x5 x6))) (mW E ad S1) := by
  refine Fn.of (cc := cX8_meet) (maxL := 7) (ret := (some .int)) (own := RX8) (by decide) rfl rfl (sameM _ _ _ _) (Nat.le_of_ble_eq_true rfl) (fun X h1 h2 h3 h4 h5 C hE => ?_)
  subst h1 h2 h3 h4 h5
  refine r_X8_meet_0 C ad S x1 x2 x3 x4 x5 x6 ⟨S1, hr X.l X.D X.E X.a1 X.a2, ?_⟩
  refine ⟨hp, ?_⟩
  simp only [f_X8_meet] at hE
  exact hE
set_option maxRecDepth 20000 in
theorem ggX8_fits_X8_reads : GoodIn wsX8_fits wsX8_reads := goodIn_r _ [5, 6, 7, 8, 4, 9, 10, 11, 12, 13, 14, 15, 16, 17, 18, 19, 20, 21, 22, 23, 24, 25, 26, 27, 28, 29, 30, 31, 32, 33, 34, 35, 36, 37, 38, 39, 40, 41, 42, 43, 44, 45, 46, 75, 76, 77, 78, 79, 80, 81, 82, 83, 84, 85, 86, 87, 88, 89, 90, 91, 92] (by decide +kernel) (by decide +kernel)
set_option maxRecDepth 20000 in
theorem gX8_fits_X8_reads : GoodIn wsX8_fits (wsV RX8 138 RX8 yX8_reads wsX8_reads) := goodIn_app (goodIn_of _ (by decide +kernel)) ggX8_fits_X8_reads
set_option maxRecDepth 20000 in
theorem ggX8_fits_X8_isTwo : GoodIn wsX8_fits wsX8_isTwo := goodIn_r _ [49, 27, 28, 4, 29] (by decide +kernel) (by decide +kernel)
set_option maxRecDepth 20000 in
theorem gX8_fits_X8_isTwo : GoodIn wsX8_fits (va_wsS RX8 82 yX8_isTwo wsX8_isTwo) := goodIn_app (goodIn_of _ (by decide +kernel)) ggX8_fits_X8_isTwo
set_option maxRecDepth 20000 in
theorem ggX8_fits_X8_fitsOf : GoodIn wsX8_fits wsX8_fitsOf := goodIn_r _ [53, 11, 54, 55, 56, 4, 57, 58, 21, 59, 60, 61, 62, 63, 64, 65, 66, 67, 68, 69, 70, 71, 72, 73, 74, 75, 76, 77, 78, 79, 80, 81, 82, 83, 84, 85, 86, 87, 88, 89, 90, 91, 92] (by decide +kernel) (by decide +kernel)
set_option maxRecDepth 20000 in
theorem gX8_fits_X8_fitsOf : GoodIn wsX8_fits (wsV RX8 232 RX8 yX8_fitsOf wsX8_fitsOf) := goodIn_app (goodIn_of _ (by decide +kernel)) ggX8_fits_X8_fitsOf
theorem dX8_fits_0 : decode cX8_fits 0 = .ok (.aload_n 0, 1) := by decide +kernel
theorem dX8_fits_1 : decode cX8_fits 1 = .ok (.invokevirtual 138, 3) := by decide +kernel
theorem dX8_fits_4 : decode cX8_fits 4 = .ok (.iload_n 1, 1) := by decide +kernel
theorem dX8_fits_5 : decode cX8_fits 5 = .ok (.invokestatic 82, 3) := by decide +kernel
theorem dX8_fits_8 : decode cX8_fits 8 = .ok (.ifCond .eq 11, 3) := by decide +kernel
theorem dX8_fits_11 : decode cX8_fits 11 = .ok (.aload_n 0, 1) := by decide +kernel
theorem dX8_fits_12 : decode cX8_fits 12 = .ok (.iload_n 1, 1) := by decide +kernel
theorem dX8_fits_13 : decode cX8_fits 13 = .ok (.invokevirtual 232, 3) := by decide +kernel
theorem dX8_fits_16 : decode cX8_fits 16 = .ok (.goto 5, 3) := by decide +kernel
theorem dX8_fits_19 : decode cX8_fits 19 = .ok (.bipush (-2), 2) := by decide +kernel
theorem dX8_fits_21 : decode cX8_fits 21 = .ok (.ireturn, 1) := by decide +kernel
set_option maxRecDepth 100000 in
theorem r_X8_fits_0 {X : Bn} (C : Cx X cX8_fits 2 RX8 wsX8_fits 5 116) (ad : Nat → Nat) (S : MS) (x1 : Int32) (h : ∃ (S2 : MS), (Fn X.l X.D X.E X.a1 X.a2 yX8_reads wsX8_reads 3 70 [.ref (ad 0)] (mW X.E ad S) none (mW X.E ad S2)) ∧ (((((f_X8_isTwo x1) = true) → (p_X8_fitsOf S2))) ∧ (Ends X (some .int) (some (.int (if (f_X8_isTwo x1) then f_X8_fitsOf S2 x1 else (-2)))) (mW X.E ad S2)))) : At X 2 (mW X.E ad S) 0 [(0, .ref (ad 0)), (1, .int x1)] [] := by
  refine at_aload_n C dX8_fits_0 rfl (j := 0) rfl ?_
  obtain ⟨S2, hF2, h⟩ := h
  refine at_cV1v C 0 hF2 gX8_fits_X8_reads rfl (by decide +kernel) ⟨rfl, rfl⟩ rfl rfl rfl 0 mW_c0 rfl dX8_fits_1 ?_
  refine at_iload_n C dX8_fits_4 rfl (j := 1) rfl ?_
  refine at_cS0 C 1 (c_X8_isTwo X.l X.D X.E X.a1 X.a2 x1) gX8_fits_X8_isTwo rfl (by decide +kernel) ⟨rfl, rfl⟩ rfl rfl rfl dX8_fits_5 ?_
  have hq := h.1
  replace h := h.2
  have K : At X 2 (mW X.E ad S2) 21 [] [.int (if (f_X8_isTwo x1) then f_X8_fitsOf S2 x1 else (-2))] := by
    exact at_iret C dX8_fits_21 h
  replace h := hq
  refine at_ifB_eq C dX8_fits_8 (tgt := 19) (by decide) (fun hc0 => ?_) (fun hc0 => ?_)
  · skip
    refine at_bipush C dX8_fits_19 (v := (-2)) rfl ?_
    refine at_lv [] rfl ?_
    first | (simp only [if_neg (show ¬ (f_X8_isTwo x1) = true by rw [hc0]; decide)] at K; exact K) | exact K
  · replace h := h hc0
    refine at_aload_n C dX8_fits_11 rfl (j := 0) rfl ?_
    refine at_iload_n C dX8_fits_12 rfl (j := 1) rfl ?_
    refine at_cV1 C 1 (c_X8_fitsOf X.l X.D X.E X.a1 X.a2 ad S2 x1 h) gX8_fits_X8_fitsOf rfl (by decide +kernel) ⟨rfl, rfl⟩ rfl rfl rfl 0 mW_c0 rfl dX8_fits_13 ?_
    refine at_goto C dX8_fits_16 (tgt := 21) (by decide) ?_
    refine at_lv [] rfl ?_
    first | (simp only [if_pos hc0] at K; exact K) | exact K
def f_X8_fits (S1 : MS) (x1 : Int32) : Int32 := (if (f_X8_isTwo x1) then f_X8_fitsOf S1 x1 else (-2))
def p_X8_fits (S1 : MS) (x1 : Int32) : Prop := ((((f_X8_isTwo x1) = true) → (p_X8_fitsOf S1)))
set_option maxRecDepth 100000 in
theorem c_X8_fits (ad : Nat → Nat) (S S1 : MS) (hr : ∀ (l : Launch) (D : va_G) (E : Nat → ClassId) (a1 a2 : Nat), Fn l D E a1 a2 yX8_reads wsX8_reads 3 70 [.ref (ad 0)] (mW E ad S) none (mW E ad S1)) (x1 : Int32) (hp : p_X8_fits S1 x1) (l : Launch) (D : va_G) (E : Nat → ClassId) (a1 a2 : Nat) : Fn l D E a1 a2 yX8_fits wsX8_fits 5 116 [.ref (ad 0), .int x1] (mW E ad S) (some (.int (f_X8_fits S1 x1))) (mW E ad S1) := by
  refine Fn.of (cc := cX8_fits) (maxL := 2) (ret := (some .int)) (own := RX8) (by decide) rfl rfl (sameM _ _ _ _) (Nat.le_of_ble_eq_true rfl) (fun X h1 h2 h3 h4 h5 C hE => ?_)
  subst h1 h2 h3 h4 h5
  refine r_X8_fits_0 C ad S x1 ⟨S1, hr X.l X.D X.E X.a1 X.a2, ?_⟩
  refine ⟨hp, ?_⟩
  simp only [f_X8_fits] at hE
  exact hE
set_option maxRecDepth 20000 in
theorem ggX8_view_X8_reads : GoodIn wsX8_view wsX8_reads := goodIn_r _ [5, 6, 7, 8, 4, 9, 10, 11, 12, 13, 14, 15, 16, 17, 18, 19, 20, 21, 22, 23, 24, 25, 26, 27, 28, 29, 30, 31, 32, 33, 34, 35, 36, 37, 38, 39, 40, 41, 42, 43, 44, 45, 46, 68, 69, 70, 71, 72, 73, 74, 75, 76, 77, 78, 79, 80, 81, 82, 83, 84, 85] (by decide +kernel) (by decide +kernel)
set_option maxRecDepth 20000 in
theorem gX8_view_X8_reads : GoodIn wsX8_view (wsV RX8 138 RX8 yX8_reads wsX8_reads) := goodIn_app (goodIn_of _ (by decide +kernel)) ggX8_view_X8_reads
set_option maxRecDepth 20000 in
theorem ggX8_view_X8_isFree : GoodIn wsX8_view wsX8_isFree := goodIn_r _ [50, 42, 51, 52, 4, 53, 54, 27, 28, 29, 68, 69, 70, 71, 72, 73, 74, 75, 76, 77, 78, 79, 80, 81, 82, 83, 84, 85] (by decide +kernel) (by decide +kernel)
set_option maxRecDepth 20000 in
theorem gX8_view_X8_isFree : GoodIn wsX8_view (wsV RX8 247 RX8 yX8_isFree wsX8_isFree) := goodIn_app (goodIn_of _ (by decide +kernel)) ggX8_view_X8_isFree
set_option maxRecDepth 20000 in
theorem ggX8_view_X8_viewOf : GoodIn wsX8_view wsX8_viewOf := goodIn_r _ [58, 59, 60, 61, 4, 62, 63, 64, 65, 66, 67, 42, 27, 28, 29, 68, 69, 70, 71, 72, 73, 74, 75, 76, 77, 78, 79, 80, 81, 82, 83, 84, 85] (by decide +kernel) (by decide +kernel)
set_option maxRecDepth 20000 in
theorem gX8_view_X8_viewOf : GoodIn wsX8_view (wsV RX8 250 RX8 yX8_viewOf wsX8_viewOf) := goodIn_app (goodIn_of _ (by decide +kernel)) ggX8_view_X8_viewOf
theorem dX8_view_0 : decode cX8_view 0 = .ok (.aload_n 0, 1) := by decide +kernel
theorem dX8_view_1 : decode cX8_view 1 = .ok (.invokevirtual 138, 3) := by decide +kernel
theorem dX8_view_4 : decode cX8_view 4 = .ok (.aload_n 0, 1) := by decide +kernel
theorem dX8_view_5 : decode cX8_view 5 = .ok (.iload_n 1, 1) := by decide +kernel
theorem dX8_view_6 : decode cX8_view 6 = .ok (.invokevirtual 247, 3) := by decide +kernel
theorem dX8_view_9 : decode cX8_view 9 = .ok (.ifCond .eq 11, 3) := by decide +kernel
theorem dX8_view_12 : decode cX8_view 12 = .ok (.aload_n 0, 1) := by decide +kernel
theorem dX8_view_13 : decode cX8_view 13 = .ok (.iload_n 1, 1) := by decide +kernel
theorem dX8_view_14 : decode cX8_view 14 = .ok (.invokevirtual 250, 3) := by decide +kernel
theorem dX8_view_17 : decode cX8_view 17 = .ok (.goto 5, 3) := by decide +kernel
theorem dX8_view_20 : decode cX8_view 20 = .ok (.bipush (-2), 2) := by decide +kernel
theorem dX8_view_22 : decode cX8_view 22 = .ok (.ireturn, 1) := by decide +kernel
set_option maxRecDepth 100000 in
theorem r_X8_view_0 {X : Bn} (C : Cx X cX8_view 2 RX8 wsX8_view 4 94) (ad : Nat → Nat) (S : MS) (x1 : Int32) (h : ∃ (S2 : MS), (Fn X.l X.D X.E X.a1 X.a2 yX8_reads wsX8_reads 3 70 [.ref (ad 0)] (mW X.E ad S) none (mW X.E ad S2)) ∧ ((p_X8_isFree S2 x1) ∧ (((((f_X8_isFree S2 x1) = true) → (p_X8_viewOf S2 x1))) ∧ (Ends X (some .int) (some (.int (if (f_X8_isFree S2 x1) then f_X8_viewOf S2 x1 else (-2)))) (mW X.E ad S2))))) : At X 2 (mW X.E ad S) 0 [(0, .ref (ad 0)), (1, .int x1)] [] := by
  refine at_aload_n C dX8_view_0 rfl (j := 0) rfl ?_
  obtain ⟨S2, hF2, h⟩ := h
  refine at_cV1v C 0 hF2 gX8_view_X8_reads rfl (by decide +kernel) ⟨rfl, rfl⟩ rfl rfl rfl 0 mW_c0 rfl dX8_view_1 ?_
  refine at_aload_n C dX8_view_4 rfl (j := 0) rfl ?_
  refine at_iload_n C dX8_view_5 rfl (j := 1) rfl ?_
  refine at_cV1 C 1 (c_X8_isFree X.l X.D X.E X.a1 X.a2 ad S2 x1 h.1) gX8_view_X8_isFree rfl (by decide +kernel) ⟨rfl, rfl⟩ rfl rfl rfl 0 mW_c0 rfl dX8_view_6 ?_
  replace h := h.2
  have hq := h.1
  replace h := h.2
  have K : At X 2 (mW X.E ad S2) 22 [] [.int (if (f_X8_isFree S2 x1) then f_X8_viewOf S2 x1 else (-2))] := by
    exact at_iret C dX8_view_22 h
  replace h := hq
  refine at_ifB_eq C dX8_view_9 (tgt := 20) (by decide) (fun hc0 => ?_) (fun hc0 => ?_)
  · skip
    refine at_bipush C dX8_view_20 (v := (-2)) rfl ?_
    refine at_lv [] rfl ?_
    first | (simp only [if_neg (show ¬ (f_X8_isFree S2 x1) = true by rw [hc0]; decide)] at K; exact K) | exact K
  · replace h := h hc0
    refine at_aload_n C dX8_view_12 rfl (j := 0) rfl ?_
    refine at_iload_n C dX8_view_13 rfl (j := 1) rfl ?_
    refine at_cV1 C 1 (c_X8_viewOf X.l X.D X.E X.a1 X.a2 ad S2 x1 h) gX8_view_X8_viewOf rfl (by decide +kernel) ⟨rfl, rfl⟩ rfl rfl rfl 0 mW_c0 rfl dX8_view_14 ?_
    refine at_goto C dX8_view_17 (tgt := 22) (by decide) ?_
    refine at_lv [] rfl ?_
    first | (simp only [if_pos hc0] at K; exact K) | exact K
def f_X8_view (S1 : MS) (x1 : Int32) : Int32 := (if (f_X8_isFree S1 x1) then f_X8_viewOf S1 x1 else (-2))
def p_X8_view (S1 : MS) (x1 : Int32) : Prop := (p_X8_isFree S1 x1) ∧ ((((f_X8_isFree S1 x1) = true) → (p_X8_viewOf S1 x1)))
set_option maxRecDepth 100000 in
theorem c_X8_view (ad : Nat → Nat) (S S1 : MS) (hr : ∀ (l : Launch) (D : va_G) (E : Nat → ClassId) (a1 a2 : Nat), Fn l D E a1 a2 yX8_reads wsX8_reads 3 70 [.ref (ad 0)] (mW E ad S) none (mW E ad S1)) (x1 : Int32) (hp : p_X8_view S1 x1) (l : Launch) (D : va_G) (E : Nat → ClassId) (a1 a2 : Nat) : Fn l D E a1 a2 yX8_view wsX8_view 4 94 [.ref (ad 0), .int x1] (mW E ad S) (some (.int (f_X8_view S1 x1))) (mW E ad S1) := by
  refine Fn.of (cc := cX8_view) (maxL := 2) (ret := (some .int)) (own := RX8) (by decide) rfl rfl (sameM _ _ _ _) (Nat.le_of_ble_eq_true rfl) (fun X h1 h2 h3 h4 h5 C hE => ?_)
  subst h1 h2 h3 h4 h5
  refine r_X8_view_0 C ad S x1 ⟨S1, hr X.l X.D X.E X.a1 X.a2, ?_⟩
  refine ⟨hp.1, ?_⟩
  refine ⟨hp.2, ?_⟩
  simp only [f_X8_view] at hE
  exact hE
set_option maxRecDepth 20000 in
theorem ggX8_sees_X8_reads : GoodIn wsX8_sees wsX8_reads := goodIn_r _ [5, 6, 7, 8, 4, 9, 10, 11, 12, 13, 14, 15, 16, 17, 18, 19, 20, 21, 22, 23, 24, 25, 26, 27, 28, 29, 30, 31, 32, 33, 34, 35, 36, 37, 38, 39, 40, 41, 42, 43, 44, 45, 46, 64, 65, 66, 67, 68, 69, 70, 71, 72, 73, 74, 75, 76, 77, 78, 79, 80, 81] (by decide +kernel) (by decide +kernel)
set_option maxRecDepth 20000 in
theorem gX8_sees_X8_reads : GoodIn wsX8_sees (wsV RX8 138 RX8 yX8_reads wsX8_reads) := goodIn_app (goodIn_of _ (by decide +kernel)) ggX8_sees_X8_reads
set_option maxRecDepth 20000 in
theorem ggX8_sees_X8_isFree : GoodIn wsX8_sees wsX8_isFree := goodIn_r _ [50, 42, 51, 52, 4, 53, 54, 27, 28, 29, 64, 65, 66, 67, 68, 69, 70, 71, 72, 73, 74, 75, 76, 77, 78, 79, 80, 81] (by decide +kernel) (by decide +kernel)
set_option maxRecDepth 20000 in
theorem gX8_sees_X8_isFree : GoodIn wsX8_sees (wsV RX8 247 RX8 yX8_isFree wsX8_isFree) := goodIn_app (goodIn_of _ (by decide +kernel)) ggX8_sees_X8_isFree
set_option maxRecDepth 20000 in
theorem ggX8_sees_X8_stepsTo : GoodIn wsX8_sees wsX8_stepsTo := goodIn_r _ [58, 59, 60, 61, 4, 62, 63, 42, 27, 28, 29, 64, 65, 66, 67, 68, 69, 70, 71, 72, 73, 74, 75, 76, 77, 78, 79, 80, 81] (by decide +kernel) (by decide +kernel)
set_option maxRecDepth 20000 in
theorem gX8_sees_X8_stepsTo : GoodIn wsX8_sees (wsV RX8 253 RX8 yX8_stepsTo wsX8_stepsTo) := goodIn_app (goodIn_of _ (by decide +kernel)) ggX8_sees_X8_stepsTo
theorem dX8_sees_0 : decode cX8_sees 0 = .ok (.aload_n 0, 1) := by decide +kernel
theorem dX8_sees_1 : decode cX8_sees 1 = .ok (.invokevirtual 138, 3) := by decide +kernel
theorem dX8_sees_4 : decode cX8_sees 4 = .ok (.aload_n 0, 1) := by decide +kernel
theorem dX8_sees_5 : decode cX8_sees 5 = .ok (.iload_n 1, 1) := by decide +kernel
theorem dX8_sees_6 : decode cX8_sees 6 = .ok (.invokevirtual 247, 3) := by decide +kernel
theorem dX8_sees_9 : decode cX8_sees 9 = .ok (.ifCond .eq 29, 3) := by decide +kernel
theorem dX8_sees_12 : decode cX8_sees 12 = .ok (.aload_n 0, 1) := by decide +kernel
theorem dX8_sees_13 : decode cX8_sees 13 = .ok (.iload_n 2, 1) := by decide +kernel
theorem dX8_sees_14 : decode cX8_sees 14 = .ok (.invokevirtual 247, 3) := by decide +kernel
theorem dX8_sees_17 : decode cX8_sees 17 = .ok (.ifCond .eq 21, 3) := by decide +kernel
theorem dX8_sees_20 : decode cX8_sees 20 = .ok (.aload_n 0, 1) := by decide +kernel
theorem dX8_sees_21 : decode cX8_sees 21 = .ok (.iload_n 1, 1) := by decide +kernel
theorem dX8_sees_22 : decode cX8_sees 22 = .ok (.iload_n 2, 1) := by decide +kernel
theorem dX8_sees_23 : decode cX8_sees 23 = .ok (.invokevirtual 253, 3) := by decide +kernel
theorem dX8_sees_26 : decode cX8_sees 26 = .ok (.iconst (-1), 1) := by decide +kernel
theorem dX8_sees_27 : decode cX8_sees 27 = .ok (.if_icmp .ne 7, 3) := by decide +kernel
theorem dX8_sees_30 : decode cX8_sees 30 = .ok (.iconst 0, 1) := by decide +kernel
theorem dX8_sees_31 : decode cX8_sees 31 = .ok (.goto 9, 3) := by decide +kernel
theorem dX8_sees_34 : decode cX8_sees 34 = .ok (.iconst 1, 1) := by decide +kernel
theorem dX8_sees_35 : decode cX8_sees 35 = .ok (.goto 5, 3) := by decide +kernel
theorem dX8_sees_38 : decode cX8_sees 38 = .ok (.bipush (-2), 2) := by decide +kernel
theorem dX8_sees_40 : decode cX8_sees 40 = .ok (.ireturn, 1) := by decide +kernel
set_option maxRecDepth 100000 in
theorem r_X8_sees_0 {X : Bn} (C : Cx X cX8_sees 3 RX8 wsX8_sees 4 90) (ad : Nat → Nat) (S : MS) (x1 : Int32) (x2 : Int32) (h : ∃ (S2 : MS), (Fn X.l X.D X.E X.a1 X.a2 yX8_reads wsX8_reads 3 70 [.ref (ad 0)] (mW X.E ad S) none (mW X.E ad S2)) ∧ ((p_X8_isFree S2 x1) ∧ (((((f_X8_isFree S2 x1) = true) → (p_X8_isFree S2 x2) ∧ (((f_X8_isFree S2 x2) = true) → (p_X8_stepsTo x1 x2)))) ∧ (Ends X (some .int) (some (.int (if (f_X8_isFree S2 x1) then (if (f_X8_isFree S2 x2) then (if f_X8_stepsTo S2 x1 x2 = (-1) then 0 else 1) else (-2)) else (-2)))) (mW X.E ad S2))))) : At X 3 (mW X.E ad S) 0 [(0, .ref (ad 0)), (1, .int x1), (2, .int x2)] [] := by
  refine at_aload_n C dX8_sees_0 rfl (j := 0) rfl ?_
  obtain ⟨S2, hF2, h⟩ := h
  refine at_cV1v C 0 hF2 gX8_sees_X8_reads rfl (by decide +kernel) ⟨rfl, rfl⟩ rfl rfl rfl 0 mW_c0 rfl dX8_sees_1 ?_
  refine at_aload_n C dX8_sees_4 rfl (j := 0) rfl ?_
  refine at_iload_n C dX8_sees_5 rfl (j := 1) rfl ?_
  refine at_cV1 C 1 (c_X8_isFree X.l X.D X.E X.a1 X.a2 ad S2 x1 h.1) gX8_sees_X8_isFree rfl (by decide +kernel) ⟨rfl, rfl⟩ rfl rfl rfl 0 mW_c0 rfl dX8_sees_6 ?_
  replace h := h.2
  have hq := h.1
  replace h := h.2
  have K : At X 3 (mW X.E ad S2) 40 [] [.int (if (f_X8_isFree S2 x1) then (if (f_X8_isFree S2 x2) then (if f_X8_stepsTo S2 x1 x2 = (-1) then 0 else 1) else (-2)) else (-2))] := by
    exact at_iret C dX8_sees_40 h
  replace h := hq
  refine at_ifB_eq C dX8_sees_9 (tgt := 38) (by decide) (fun hc0 => ?_) (fun hc0 => ?_)
  · skip
    refine at_bipush C dX8_sees_38 (v := (-2)) rfl ?_
    refine at_lv [] rfl ?_
    first | (simp only [if_neg (show ¬ (f_X8_isFree S2 x1) = true by rw [hc0]; decide)] at K; exact K) | exact K
  · replace h := h hc0
    refine at_aload_n C dX8_sees_12 rfl (j := 0) rfl ?_
    refine at_iload_n C dX8_sees_13 rfl (j := 2) rfl ?_
    refine at_cV1 C 1 (c_X8_isFree X.l X.D X.E X.a1 X.a2 ad S2 x2 h.1) gX8_sees_X8_isFree rfl (by decide +kernel) ⟨rfl, rfl⟩ rfl rfl rfl 0 mW_c0 rfl dX8_sees_14 ?_
    replace h := h.2
    refine at_ifB_eq C dX8_sees_17 (tgt := 38) (by decide) (fun hc1 => ?_) (fun hc1 => ?_)
    · skip
      refine at_bipush C dX8_sees_38 (v := (-2)) rfl ?_
      refine at_lv [] rfl ?_
      first | (simp only [if_pos hc0, if_neg (show ¬ (f_X8_isFree S2 x2) = true by rw [hc1]; decide)] at K; exact K) | exact K
    · replace h := h hc1
      refine at_aload_n C dX8_sees_20 rfl (j := 0) rfl ?_
      refine at_iload_n C dX8_sees_21 rfl (j := 1) rfl ?_
      refine at_iload_n C dX8_sees_22 rfl (j := 2) rfl ?_
      refine at_cV1 C 2 (c_X8_stepsTo X.l X.D X.E X.a1 X.a2 ad S2 x1 x2 h) gX8_sees_X8_stepsTo rfl (by decide +kernel) ⟨rfl, rfl⟩ rfl rfl rfl 0 mW_c0 rfl dX8_sees_23 ?_
      refine at_iconst C dX8_sees_26 (v := (-1)) rfl ?_
      refine at_icmp_ne C dX8_sees_27 (tgt := 34) (by decide) (fun hc2 => ?_) (fun hc2 => ?_)
      · skip
        refine at_iconst C dX8_sees_34 (v := 1) rfl ?_
        refine at_goto C dX8_sees_35 (tgt := 40) (by decide) ?_
        refine at_lv [] rfl ?_
        first | (simp only [if_pos hc0, if_pos hc1, if_neg hc2] at K; exact K) | exact K
      · skip
        refine at_iconst C dX8_sees_30 (v := 0) rfl ?_
        refine at_goto C dX8_sees_31 (tgt := 40) (by decide) ?_
        refine at_lv [] rfl ?_
        first | (simp only [if_pos hc0, if_pos hc1, if_pos hc2] at K; exact K) | exact K
def f_X8_sees (S1 : MS) (x1 : Int32) (x2 : Int32) : Int32 := (if (f_X8_isFree S1 x1) then (if (f_X8_isFree S1 x2) then (if f_X8_stepsTo S1 x1 x2 = (-1) then 0 else 1) else (-2)) else (-2))
def p_X8_sees (S1 : MS) (x1 : Int32) (x2 : Int32) : Prop := (p_X8_isFree S1 x1) ∧ ((((f_X8_isFree S1 x1) = true) → (p_X8_isFree S1 x2) ∧ (((f_X8_isFree S1 x2) = true) → (p_X8_stepsTo x1 x2))))
set_option maxRecDepth 100000 in
theorem c_X8_sees (ad : Nat → Nat) (S S1 : MS) (hr : ∀ (l : Launch) (D : va_G) (E : Nat → ClassId) (a1 a2 : Nat), Fn l D E a1 a2 yX8_reads wsX8_reads 3 70 [.ref (ad 0)] (mW E ad S) none (mW E ad S1)) (x1 : Int32) (x2 : Int32) (hp : p_X8_sees S1 x1 x2) (l : Launch) (D : va_G) (E : Nat → ClassId) (a1 a2 : Nat) : Fn l D E a1 a2 yX8_sees wsX8_sees 4 90 [.ref (ad 0), .int x1, .int x2] (mW E ad S) (some (.int (f_X8_sees S1 x1 x2))) (mW E ad S1) := by
  refine Fn.of (cc := cX8_sees) (maxL := 3) (ret := (some .int)) (own := RX8) (by decide) rfl rfl (sameM _ _ _ _) (Nat.le_of_ble_eq_true rfl) (fun X h1 h2 h3 h4 h5 C hE => ?_)
  subst h1 h2 h3 h4 h5
  refine r_X8_sees_0 C ad S x1 x2 ⟨S1, hr X.l X.D X.E X.a1 X.a2, ?_⟩
  refine ⟨hp.1, ?_⟩
  refine ⟨hp.2, ?_⟩
  simp only [f_X8_sees] at hE
  exact hE
set_option maxRecDepth 20000 in
theorem ggX8_echoes_X8_reads : GoodIn wsX8_echoes wsX8_reads := goodIn_r _ [5, 6, 7, 8, 4, 9, 10, 11, 12, 13, 14, 15, 16, 17, 18, 19, 20, 21, 22, 23, 24, 25, 26, 27, 28, 29, 30, 31, 32, 33, 34, 35, 36, 37, 38, 39, 40, 41, 42, 43, 44, 45, 46, 71, 72, 73, 74, 75, 76, 77, 78, 79, 80, 81, 82, 83, 84, 85, 86, 87, 88] (by decide +kernel) (by decide +kernel)
set_option maxRecDepth 20000 in
theorem gX8_echoes_X8_reads : GoodIn wsX8_echoes (wsV RX8 138 RX8 yX8_reads wsX8_reads) := goodIn_app (goodIn_of _ (by decide +kernel)) ggX8_echoes_X8_reads
set_option maxRecDepth 20000 in
theorem ggX8_echoes_X8_isTold : GoodIn wsX8_echoes wsX8_isTold := goodIn_r _ [49, 50, 51, 27, 28, 4, 29] (by decide +kernel) (by decide +kernel)
set_option maxRecDepth 20000 in
theorem gX8_echoes_X8_isTold : GoodIn wsX8_echoes (va_wsS RX8 264 yX8_isTold wsX8_isTold) := goodIn_app (goodIn_of _ (by decide +kernel)) ggX8_echoes_X8_isTold
set_option maxRecDepth 20000 in
theorem ggX8_echoes_X8_isTwo : GoodIn wsX8_echoes wsX8_isTwo := goodIn_r _ [54, 27, 28, 4, 29] (by decide +kernel) (by decide +kernel)
set_option maxRecDepth 20000 in
theorem gX8_echoes_X8_isTwo : GoodIn wsX8_echoes (va_wsS RX8 82 yX8_isTwo wsX8_isTwo) := goodIn_app (goodIn_of _ (by decide +kernel)) ggX8_echoes_X8_isTwo
set_option maxRecDepth 20000 in
theorem ggX8_echoes_X8_echoesOf : GoodIn wsX8_echoes wsX8_echoesOf := goodIn_r _ [58, 42, 59, 60, 61, 4, 62, 63, 64, 65, 66, 67, 68, 69, 70, 51, 27, 28, 29, 71, 72, 73, 74, 75, 76, 77, 78, 79, 80, 81, 82, 83, 84, 85, 86, 87, 88] (by decide +kernel) (by decide +kernel)
set_option maxRecDepth 20000 in
theorem gX8_echoes_X8_echoesOf : GoodIn wsX8_echoes (wsV RX8 267 RX8 yX8_echoesOf wsX8_echoesOf) := goodIn_app (goodIn_of _ (by decide +kernel)) ggX8_echoes_X8_echoesOf
theorem dX8_echoes_0 : decode cX8_echoes 0 = .ok (.aload_n 0, 1) := by decide +kernel
theorem dX8_echoes_1 : decode cX8_echoes 1 = .ok (.invokevirtual 138, 3) := by decide +kernel
theorem dX8_echoes_4 : decode cX8_echoes 4 = .ok (.iload_n 1, 1) := by decide +kernel
theorem dX8_echoes_5 : decode cX8_echoes 5 = .ok (.invokestatic 264, 3) := by decide +kernel
theorem dX8_echoes_8 : decode cX8_echoes 8 = .ok (.ifCond .eq 29, 3) := by decide +kernel
theorem dX8_echoes_11 : decode cX8_echoes 11 = .ok (.iload_n 2, 1) := by decide +kernel
theorem dX8_echoes_12 : decode cX8_echoes 12 = .ok (.invokestatic 264, 3) := by decide +kernel
theorem dX8_echoes_15 : decode cX8_echoes 15 = .ok (.ifCond .eq 22, 3) := by decide +kernel
theorem dX8_echoes_18 : decode cX8_echoes 18 = .ok (.iload_n 3, 1) := by decide +kernel
theorem dX8_echoes_19 : decode cX8_echoes 19 = .ok (.invokestatic 264, 3) := by decide +kernel
theorem dX8_echoes_22 : decode cX8_echoes 22 = .ok (.ifCond .eq 15, 3) := by decide +kernel
theorem dX8_echoes_25 : decode cX8_echoes 25 = .ok (.iload 4, 2) := by decide +kernel
theorem dX8_echoes_27 : decode cX8_echoes 27 = .ok (.invokestatic 264, 3) := by decide +kernel
theorem dX8_echoes_30 : decode cX8_echoes 30 = .ok (.ifCond .eq 7, 3) := by decide +kernel
theorem dX8_echoes_33 : decode cX8_echoes 33 = .ok (.iconst 1, 1) := by decide +kernel
theorem dX8_echoes_34 : decode cX8_echoes 34 = .ok (.goto 4, 3) := by decide +kernel
theorem dX8_echoes_37 : decode cX8_echoes 37 = .ok (.iconst 0, 1) := by decide +kernel
theorem dX8_echoes_38 : decode cX8_echoes 38 = .ok (.istore 6, 2) := by decide +kernel
theorem dX8_echoes_40 : decode cX8_echoes 40 = .ok (.iload 6, 2) := by decide +kernel
theorem dX8_echoes_42 : decode cX8_echoes 42 = .ok (.ifCond .eq 25, 3) := by decide +kernel
theorem dX8_echoes_45 : decode cX8_echoes 45 = .ok (.iload 5, 2) := by decide +kernel
theorem dX8_echoes_47 : decode cX8_echoes 47 = .ok (.invokestatic 82, 3) := by decide +kernel
theorem dX8_echoes_50 : decode cX8_echoes 50 = .ok (.ifCond .eq 17, 3) := by decide +kernel
theorem dX8_echoes_53 : decode cX8_echoes 53 = .ok (.aload_n 0, 1) := by decide +kernel
theorem dX8_echoes_54 : decode cX8_echoes 54 = .ok (.iload_n 1, 1) := by decide +kernel
theorem dX8_echoes_55 : decode cX8_echoes 55 = .ok (.iload_n 2, 1) := by decide +kernel
theorem dX8_echoes_56 : decode cX8_echoes 56 = .ok (.iload_n 3, 1) := by decide +kernel
theorem dX8_echoes_57 : decode cX8_echoes 57 = .ok (.iload 4, 2) := by decide +kernel
theorem dX8_echoes_59 : decode cX8_echoes 59 = .ok (.iload 5, 2) := by decide +kernel
theorem dX8_echoes_61 : decode cX8_echoes 61 = .ok (.invokevirtual 267, 3) := by decide +kernel
theorem dX8_echoes_64 : decode cX8_echoes 64 = .ok (.goto 5, 3) := by decide +kernel
theorem dX8_echoes_67 : decode cX8_echoes 67 = .ok (.bipush (-2), 2) := by decide +kernel
theorem dX8_echoes_69 : decode cX8_echoes 69 = .ok (.ireturn, 1) := by decide +kernel
set_option maxRecDepth 100000 in
theorem r_X8_echoes_0 {X : Bn} (C : Cx X cX8_echoes 7 RX8 wsX8_echoes 5 124) (ad : Nat → Nat) (S : MS) (x1 : Int32) (x2 : Int32) (x3 : Int32) (x4 : Int32) (x5 : Int32) (h : ∃ (S2 : MS), (Fn X.l X.D X.E X.a1 X.a2 yX8_reads wsX8_reads 3 70 [.ref (ad 0)] (mW X.E ad S) none (mW X.E ad S2)) ∧ (Ends X (some .int) (some (.int (if (if (f_X8_isTold x1) then (if (f_X8_isTold x2) then (if (f_X8_isTold x3) then (if (f_X8_isTold x4) then true else false) else false) else false) else false) then (if (f_X8_isTwo x5) then f_X8_echoesOf S2 x1 x2 x3 x4 x5 else (-2)) else (-2)))) (mW X.E ad S2))) : At X 7 (mW X.E ad S) 0 [(0, .ref (ad 0)), (1, .int x1), (2, .int x2), (3, .int x3), (4, .int x4), (5, .int x5)] [] := by
  refine at_aload_n C dX8_echoes_0 rfl (j := 0) rfl ?_
  obtain ⟨S2, hF2, h⟩ := h
  refine at_cV1v C 0 hF2 gX8_echoes_X8_reads rfl (by decide +kernel) ⟨rfl, rfl⟩ rfl rfl rfl 0 mW_c0 rfl dX8_echoes_1 ?_
  refine at_iload_n C dX8_echoes_4 rfl (j := 1) rfl ?_
  refine at_cS0 C 1 (c_X8_isTold X.l X.D X.E X.a1 X.a2 x1) gX8_echoes_X8_isTold rfl (by decide +kernel) ⟨rfl, rfl⟩ rfl rfl rfl dX8_echoes_5 ?_
  have K : At X 7 (mW X.E ad S2) 38 [(0, .ref (ad 0)), (1, .int x1), (2, .int x2), (3, .int x3), (4, .int x4), (5, .int x5)] [.int (b2i (if (f_X8_isTold x1) then (if (f_X8_isTold x2) then (if (f_X8_isTold x3) then (if (f_X8_isTold x4) then true else false) else false) else false) else false))] := by
    refine at_istore C dX8_echoes_38 (by decide) (lv' := [(6, .int (b2i (if (f_X8_isTold x1) then (if (f_X8_isTold x2) then (if (f_X8_isTold x3) then (if (f_X8_isTold x4) then true else false) else false) else false) else false))), (0, .ref (ad 0)), (1, .int x1), (2, .int x2), (3, .int x3), (4, .int x4), (5, .int x5)]) rfl ?_
    refine at_iload C dX8_echoes_40 (j := 0) rfl ?_
    have K : At X 7 (mW X.E ad S2) 69 [] [.int (if (if (f_X8_isTold x1) then (if (f_X8_isTold x2) then (if (f_X8_isTold x3) then (if (f_X8_isTold x4) then true else false) else false) else false) else false) then (if (f_X8_isTwo x5) then f_X8_echoesOf S2 x1 x2 x3 x4 x5 else (-2)) else (-2))] := by
      exact at_iret C dX8_echoes_69 h
    refine at_ifB_eq C dX8_echoes_42 (tgt := 67) (by decide) (fun hc0 => ?_) (fun hc0 => ?_)
    · skip
      refine at_bipush C dX8_echoes_67 (v := (-2)) rfl ?_
      refine at_lv [] rfl ?_
      first | (simp only [if_neg (show ¬ (if (f_X8_isTold x1) then (if (f_X8_isTold x2) then (if (f_X8_isTold x3) then (if (f_X8_isTold x4) then true else false) else false) else false) else false) = true by rw [hc0]; decide)] at K; exact K) | exact K
    · skip
      refine at_iload C dX8_echoes_45 (j := 6) rfl ?_
      refine at_cS0 C 1 (c_X8_isTwo X.l X.D X.E X.a1 X.a2 x5) gX8_echoes_X8_isTwo rfl (by decide +kernel) ⟨rfl, rfl⟩ rfl rfl rfl dX8_echoes_47 ?_
      refine at_ifB_eq C dX8_echoes_50 (tgt := 67) (by decide) (fun hc1 => ?_) (fun hc1 => ?_)
      · skip
        refine at_bipush C dX8_echoes_67 (v := (-2)) rfl ?_
        refine at_lv [] rfl ?_
        first | (simp only [if_pos hc0, if_neg (show ¬ (f_X8_isTwo x5) = true by rw [hc1]; decide)] at K; exact K) | exact K
      · skip
        refine at_aload_n C dX8_echoes_53 rfl (j := 1) rfl ?_
        refine at_iload_n C dX8_echoes_54 rfl (j := 2) rfl ?_
        refine at_iload_n C dX8_echoes_55 rfl (j := 3) rfl ?_
        refine at_iload_n C dX8_echoes_56 rfl (j := 4) rfl ?_
        refine at_iload C dX8_echoes_57 (j := 5) rfl ?_
        refine at_iload C dX8_echoes_59 (j := 6) rfl ?_
        refine at_cV1 C 5 (c_X8_echoesOf X.l X.D X.E X.a1 X.a2 ad S2 x1 x2 x3 x4 x5) gX8_echoes_X8_echoesOf rfl (by decide +kernel) ⟨rfl, rfl⟩ rfl rfl rfl 0 mW_c0 rfl dX8_echoes_61 ?_
        refine at_goto C dX8_echoes_64 (tgt := 69) (by decide) ?_
        refine at_lv [] rfl ?_
        first | (simp only [if_pos hc0, if_pos hc1] at K; exact K) | exact K
  refine at_ifB_eq C dX8_echoes_8 (tgt := 37) (by decide) (fun hc0 => ?_) (fun hc0 => ?_)
  · skip
    refine at_iconst C dX8_echoes_37 (v := 0) rfl ?_
    first | (simp only [if_neg (show ¬ (f_X8_isTold x1) = true by rw [hc0]; decide)] at K; exact K) | exact K
  · skip
    refine at_iload_n C dX8_echoes_11 rfl (j := 2) rfl ?_
    refine at_cS0 C 1 (c_X8_isTold X.l X.D X.E X.a1 X.a2 x2) gX8_echoes_X8_isTold rfl (by decide +kernel) ⟨rfl, rfl⟩ rfl rfl rfl dX8_echoes_12 ?_
    refine at_ifB_eq C dX8_echoes_15 (tgt := 37) (by decide) (fun hc1 => ?_) (fun hc1 => ?_)
    · skip
      refine at_iconst C dX8_echoes_37 (v := 0) rfl ?_
      first | (simp only [if_pos hc0, if_neg (show ¬ (f_X8_isTold x2) = true by rw [hc1]; decide)] at K; exact K) | exact K
    · skip
      refine at_iload_n C dX8_echoes_18 rfl (j := 3) rfl ?_
      refine at_cS0 C 1 (c_X8_isTold X.l X.D X.E X.a1 X.a2 x3) gX8_echoes_X8_isTold rfl (by decide +kernel) ⟨rfl, rfl⟩ rfl rfl rfl dX8_echoes_19 ?_
      refine at_ifB_eq C dX8_echoes_22 (tgt := 37) (by decide) (fun hc2 => ?_) (fun hc2 => ?_)
      · skip
        refine at_iconst C dX8_echoes_37 (v := 0) rfl ?_
        first | (simp only [if_pos hc0, if_pos hc1, if_neg (show ¬ (f_X8_isTold x3) = true by rw [hc2]; decide)] at K; exact K) | exact K
      · skip
        refine at_iload C dX8_echoes_25 (j := 4) rfl ?_
        refine at_cS0 C 1 (c_X8_isTold X.l X.D X.E X.a1 X.a2 x4) gX8_echoes_X8_isTold rfl (by decide +kernel) ⟨rfl, rfl⟩ rfl rfl rfl dX8_echoes_27 ?_
        refine at_ifB_eq C dX8_echoes_30 (tgt := 37) (by decide) (fun hc3 => ?_) (fun hc3 => ?_)
        · skip
          refine at_iconst C dX8_echoes_37 (v := 0) rfl ?_
          first | (simp only [if_pos hc0, if_pos hc1, if_pos hc2, if_neg (show ¬ (f_X8_isTold x4) = true by rw [hc3]; decide)] at K; exact K) | exact K
        · skip
          refine at_iconst C dX8_echoes_33 (v := 1) rfl ?_
          refine at_goto C dX8_echoes_34 (tgt := 38) (by decide) ?_
          first | (simp only [if_pos hc0, if_pos hc1, if_pos hc2, if_pos hc3] at K; exact K) | exact K
def f_X8_echoes (S1 : MS) (x1 : Int32) (x2 : Int32) (x3 : Int32) (x4 : Int32) (x5 : Int32) : Int32 := (if (if (f_X8_isTold x1) then (if (f_X8_isTold x2) then (if (f_X8_isTold x3) then (if (f_X8_isTold x4) then true else false) else false) else false) else false) then (if (f_X8_isTwo x5) then f_X8_echoesOf S1 x1 x2 x3 x4 x5 else (-2)) else (-2))
set_option maxRecDepth 100000 in
theorem c_X8_echoes (ad : Nat → Nat) (S S1 : MS) (hr : ∀ (l : Launch) (D : va_G) (E : Nat → ClassId) (a1 a2 : Nat), Fn l D E a1 a2 yX8_reads wsX8_reads 3 70 [.ref (ad 0)] (mW E ad S) none (mW E ad S1)) (x1 : Int32) (x2 : Int32) (x3 : Int32) (x4 : Int32) (x5 : Int32) (l : Launch) (D : va_G) (E : Nat → ClassId) (a1 a2 : Nat) : Fn l D E a1 a2 yX8_echoes wsX8_echoes 5 124 [.ref (ad 0), .int x1, .int x2, .int x3, .int x4, .int x5] (mW E ad S) (some (.int (f_X8_echoes S1 x1 x2 x3 x4 x5))) (mW E ad S1) := by
  refine Fn.of (cc := cX8_echoes) (maxL := 7) (ret := (some .int)) (own := RX8) (by decide) rfl rfl (sameM _ _ _ _) (Nat.le_of_ble_eq_true rfl) (fun X h1 h2 h3 h4 h5 C hE => ?_)
  subst h1 h2 h3 h4 h5
  refine r_X8_echoes_0 C ad S x1 x2 x3 x4 x5 ⟨S1, hr X.l X.D X.E X.a1 X.a2, ?_⟩
  simp only [f_X8_echoes] at hE
  exact hE
set_option maxRecDepth 20000 in
theorem ggX8_fog_X8_reads : GoodIn wsX8_fog wsX8_reads := goodIn_r _ [6, 7, 8, 9, 5, 10, 11, 12, 13, 14, 15, 16, 17, 18, 19, 20, 21, 22, 23, 24, 25, 26, 27, 28, 29, 30, 31, 32, 33, 34, 35, 36, 37, 38, 39, 40, 41, 42, 43, 44, 45, 46, 47, 79, 80, 81, 82, 83, 84, 85, 86, 87, 88, 89, 90, 91, 92, 93, 94, 95, 96] (by decide +kernel) (by decide +kernel)
set_option maxRecDepth 20000 in
theorem gX8_fog_X8_reads : GoodIn wsX8_fog (wsV RX8 138 RX8 yX8_reads wsX8_reads) := goodIn_app (goodIn_of _ (by decide +kernel)) ggX8_fog_X8_reads
set_option maxRecDepth 20000 in
theorem ggX8_fog_X8_isFree : GoodIn wsX8_fog wsX8_isFree := goodIn_r _ [51, 43, 52, 53, 5, 54, 55, 28, 29, 30, 79, 80, 81, 82, 83, 84, 85, 86, 87, 88, 89, 90, 91, 92, 93, 94, 95, 96] (by decide +kernel) (by decide +kernel)
set_option maxRecDepth 20000 in
theorem gX8_fog_X8_isFree : GoodIn wsX8_fog (wsV RX8 247 RX8 yX8_isFree wsX8_isFree) := goodIn_app (goodIn_of _ (by decide +kernel)) ggX8_fog_X8_isFree
set_option maxRecDepth 20000 in
theorem ggX8_fog_X8_in : GoodIn wsX8_fog wsX8_in := goodIn_r _ [30] (by decide +kernel) (by decide +kernel)
set_option maxRecDepth 20000 in
theorem gX8_fog_X8_in : GoodIn wsX8_fog (va_wsS RX8 53 yX8_in wsX8_in) := goodIn_app (goodIn_of _ (by decide +kernel)) ggX8_fog_X8_in
set_option maxRecDepth 20000 in
theorem ggX8_fog_X8_isTwo : GoodIn wsX8_fog wsX8_isTwo := goodIn_r _ [58, 28, 29, 5, 30] (by decide +kernel) (by decide +kernel)
set_option maxRecDepth 20000 in
theorem gX8_fog_X8_isTwo : GoodIn wsX8_fog (va_wsS RX8 82 yX8_isTwo wsX8_isTwo) := goodIn_app (goodIn_of _ (by decide +kernel)) ggX8_fog_X8_isTwo
set_option maxRecDepth 20000 in
theorem ggX8_fog_X8_fogOf : GoodIn wsX8_fog wsX8_fogOf := goodIn_r _ [62, 1, 63, 64, 65, 5, 66, 67, 68, 69, 70, 71, 43, 28, 29, 30, 72, 73, 74, 79, 80, 81, 82, 83, 84, 85, 86, 87, 88, 89, 90, 91, 92, 93, 94, 95, 96] (by decide +kernel) (by decide +kernel)
set_option maxRecDepth 20000 in
theorem gX8_fog_X8_fogOf : GoodIn wsX8_fog (wsV RX8 276 RX8 yX8_fogOf wsX8_fogOf) := goodIn_app (goodIn_of _ (by decide +kernel)) ggX8_fog_X8_fogOf
set_option maxRecDepth 20000 in
theorem ggX8_fog_X8_no : GoodIn wsX8_fog wsX8_no := goodIn_r _ [77, 78] (by decide +kernel) (by decide +kernel)
set_option maxRecDepth 20000 in
theorem gX8_fog_X8_no : GoodIn wsX8_fog (va_wsS RX8 280 yX8_no wsX8_no) := goodIn_app (goodIn_of _ (by decide +kernel)) ggX8_fog_X8_no
theorem dX8_fog_0 : decode cX8_fog 0 = .ok (.aload_n 0, 1) := by decide +kernel
theorem dX8_fog_1 : decode cX8_fog 1 = .ok (.invokevirtual 138, 3) := by decide +kernel
theorem dX8_fog_4 : decode cX8_fog 4 = .ok (.aload_n 0, 1) := by decide +kernel
theorem dX8_fog_5 : decode cX8_fog 5 = .ok (.iload_n 1, 1) := by decide +kernel
theorem dX8_fog_6 : decode cX8_fog 6 = .ok (.invokevirtual 247, 3) := by decide +kernel
theorem dX8_fog_9 : decode cX8_fog 9 = .ok (.ifCond .eq 43, 3) := by decide +kernel
theorem dX8_fog_12 : decode cX8_fog 12 = .ok (.aload_n 0, 1) := by decide +kernel
theorem dX8_fog_13 : decode cX8_fog 13 = .ok (.iload_n 2, 1) := by decide +kernel
theorem dX8_fog_14 : decode cX8_fog 14 = .ok (.invokevirtual 247, 3) := by decide +kernel
theorem dX8_fog_17 : decode cX8_fog 17 = .ok (.ifCond .eq 35, 3) := by decide +kernel
theorem dX8_fog_20 : decode cX8_fog 20 = .ok (.iload_n 3, 1) := by decide +kernel
theorem dX8_fog_21 : decode cX8_fog 21 = .ok (.i2l, 1) := by decide +kernel
theorem dX8_fog_22 : decode cX8_fog 22 = .ok (.lconst 0, 1) := by decide +kernel
theorem dX8_fog_23 : decode cX8_fog 23 = .ok (.ldc2_w 270, 3) := by decide +kernel
theorem dX8_fog_26 : decode cX8_fog 26 = .ok (.invokestatic 53, 3) := by decide +kernel
theorem dX8_fog_29 : decode cX8_fog 29 = .ok (.ifCond .eq 23, 3) := by decide +kernel
theorem dX8_fog_32 : decode cX8_fog 32 = .ok (.iload 4, 2) := by decide +kernel
theorem dX8_fog_34 : decode cX8_fog 34 = .ok (.invokestatic 82, 3) := by decide +kernel
theorem dX8_fog_37 : decode cX8_fog 37 = .ok (.ifCond .eq 15, 3) := by decide +kernel
theorem dX8_fog_40 : decode cX8_fog 40 = .ok (.aload_n 0, 1) := by decide +kernel
theorem dX8_fog_41 : decode cX8_fog 41 = .ok (.iload_n 1, 1) := by decide +kernel
theorem dX8_fog_42 : decode cX8_fog 42 = .ok (.iload_n 2, 1) := by decide +kernel
theorem dX8_fog_43 : decode cX8_fog 43 = .ok (.iload_n 3, 1) := by decide +kernel
theorem dX8_fog_44 : decode cX8_fog 44 = .ok (.iload 4, 2) := by decide +kernel
theorem dX8_fog_46 : decode cX8_fog 46 = .ok (.invokevirtual 276, 3) := by decide +kernel
theorem dX8_fog_49 : decode cX8_fog 49 = .ok (.goto 8, 3) := by decide +kernel
theorem dX8_fog_52 : decode cX8_fog 52 = .ok (.bipush (-2), 2) := by decide +kernel
theorem dX8_fog_54 : decode cX8_fog 54 = .ok (.invokestatic 280, 3) := by decide +kernel
theorem dX8_fog_57 : decode cX8_fog 57 = .ok (.lreturn, 1) := by decide +kernel
theorem lk_X8_fog_0 : Cond.constantLong RX8 270 16 ∈ wsX8_fog := by decide +kernel
set_option maxRecDepth 100000 in
theorem r_X8_fog_0 {X : Bn} (C : Cx X cX8_fog 5 RX8 wsX8_fog 4 105) (ad : Nat → Nat) (S : MS) (x1 : Int32) (x2 : Int32) (x3 : Int32) (x4 : Int32) (h : ∃ (S2 : MS), (Fn X.l X.D X.E X.a1 X.a2 yX8_reads wsX8_reads 3 70 [.ref (ad 0)] (mW X.E ad S) none (mW X.E ad S2)) ∧ ((p_X8_isFree S2 x1) ∧ (((((f_X8_isFree S2 x1) = true) → (p_X8_isFree S2 x2) ∧ (((f_X8_isFree S2 x2) = true) → (((f_X8_in x3.toInt64 (0 : Int64) (16 : Int64)) = true) → (((f_X8_isTwo x4) = true) → (p_X8_fogOf x1 x2 x3)))))) ∧ (Ends X (some .long) (some (.long (if (f_X8_isFree S2 x1) then (if (f_X8_isFree S2 x2) then (if (f_X8_in x3.toInt64 (0 : Int64) (16 : Int64)) then (if (f_X8_isTwo x4) then f_X8_fogOf S2 x1 x2 x3 x4 else f_X8_no ((-2) : Int32)) else f_X8_no ((-2) : Int32)) else f_X8_no ((-2) : Int32)) else f_X8_no ((-2) : Int32)))) (mW X.E ad S2))))) : At X 5 (mW X.E ad S) 0 [(0, .ref (ad 0)), (1, .int x1), (2, .int x2), (3, .int x3), (4, .int x4)] [] := by
  refine at_aload_n C dX8_fog_0 rfl (j := 0) rfl ?_
  obtain ⟨S2, hF2, h⟩ := h
  refine at_cV1v C 0 hF2 gX8_fog_X8_reads rfl (by decide +kernel) ⟨rfl, rfl⟩ rfl rfl rfl 0 mW_c0 rfl dX8_fog_1 ?_
  refine at_aload_n C dX8_fog_4 rfl (j := 0) rfl ?_
  refine at_iload_n C dX8_fog_5 rfl (j := 1) rfl ?_
  refine at_cV1 C 1 (c_X8_isFree X.l X.D X.E X.a1 X.a2 ad S2 x1 h.1) gX8_fog_X8_isFree rfl (by decide +kernel) ⟨rfl, rfl⟩ rfl rfl rfl 0 mW_c0 rfl dX8_fog_6 ?_
  replace h := h.2
  have hq := h.1
  replace h := h.2
  have K : At X 5 (mW X.E ad S2) 57 [] [.long (if (f_X8_isFree S2 x1) then (if (f_X8_isFree S2 x2) then (if (f_X8_in x3.toInt64 (0 : Int64) (16 : Int64)) then (if (f_X8_isTwo x4) then f_X8_fogOf S2 x1 x2 x3 x4 else f_X8_no ((-2) : Int32)) else f_X8_no ((-2) : Int32)) else f_X8_no ((-2) : Int32)) else f_X8_no ((-2) : Int32))] := by
    exact at_lret C dX8_fog_57 h
  replace h := hq
  refine at_ifB_eq C dX8_fog_9 (tgt := 52) (by decide) (fun hc0 => ?_) (fun hc0 => ?_)
  · skip
    refine at_bipush C dX8_fog_52 (v := (-2)) rfl ?_
    refine at_cS0 C 1 (c_X8_no X.l X.D X.E X.a1 X.a2 ((-2) : Int32)) gX8_fog_X8_no rfl (by decide +kernel) ⟨rfl, rfl⟩ rfl rfl rfl dX8_fog_54 ?_
    refine at_lv [] rfl ?_
    first | (simp only [if_neg (show ¬ (f_X8_isFree S2 x1) = true by rw [hc0]; decide)] at K; exact K) | exact K
  · replace h := h hc0
    refine at_aload_n C dX8_fog_12 rfl (j := 0) rfl ?_
    refine at_iload_n C dX8_fog_13 rfl (j := 2) rfl ?_
    refine at_cV1 C 1 (c_X8_isFree X.l X.D X.E X.a1 X.a2 ad S2 x2 h.1) gX8_fog_X8_isFree rfl (by decide +kernel) ⟨rfl, rfl⟩ rfl rfl rfl 0 mW_c0 rfl dX8_fog_14 ?_
    replace h := h.2
    refine at_ifB_eq C dX8_fog_17 (tgt := 52) (by decide) (fun hc1 => ?_) (fun hc1 => ?_)
    · skip
      refine at_bipush C dX8_fog_52 (v := (-2)) rfl ?_
      refine at_cS0 C 1 (c_X8_no X.l X.D X.E X.a1 X.a2 ((-2) : Int32)) gX8_fog_X8_no rfl (by decide +kernel) ⟨rfl, rfl⟩ rfl rfl rfl dX8_fog_54 ?_
      refine at_lv [] rfl ?_
      first | (simp only [if_pos hc0, if_neg (show ¬ (f_X8_isFree S2 x2) = true by rw [hc1]; decide)] at K; exact K) | exact K
    · replace h := h hc1
      refine at_iload_n C dX8_fog_20 rfl (j := 3) rfl ?_
      refine at_i2l C dX8_fog_21 ?_
      refine at_lconst C dX8_fog_22 (v := 0) rfl ?_
      refine at_ldc2 C lk_X8_fog_0 dX8_fog_23 ?_
      refine at_cS0 C 3 (c_X8_in X.l X.D X.E X.a1 X.a2 x3.toInt64 (0 : Int64) (16 : Int64)) gX8_fog_X8_in rfl (by decide +kernel) ⟨rfl, rfl⟩ rfl rfl rfl dX8_fog_26 ?_
      refine at_ifB_eq C dX8_fog_29 (tgt := 52) (by decide) (fun hc2 => ?_) (fun hc2 => ?_)
      · skip
        refine at_bipush C dX8_fog_52 (v := (-2)) rfl ?_
        refine at_cS0 C 1 (c_X8_no X.l X.D X.E X.a1 X.a2 ((-2) : Int32)) gX8_fog_X8_no rfl (by decide +kernel) ⟨rfl, rfl⟩ rfl rfl rfl dX8_fog_54 ?_
        refine at_lv [] rfl ?_
        first | (simp only [if_pos hc0, if_pos hc1, if_neg (show ¬ (f_X8_in x3.toInt64 (0 : Int64) (16 : Int64)) = true by rw [hc2]; decide)] at K; exact K) | exact K
      · replace h := h hc2
        refine at_iload C dX8_fog_32 (j := 4) rfl ?_
        refine at_cS0 C 1 (c_X8_isTwo X.l X.D X.E X.a1 X.a2 x4) gX8_fog_X8_isTwo rfl (by decide +kernel) ⟨rfl, rfl⟩ rfl rfl rfl dX8_fog_34 ?_
        refine at_ifB_eq C dX8_fog_37 (tgt := 52) (by decide) (fun hc3 => ?_) (fun hc3 => ?_)
        · skip
          refine at_bipush C dX8_fog_52 (v := (-2)) rfl ?_
          refine at_cS0 C 1 (c_X8_no X.l X.D X.E X.a1 X.a2 ((-2) : Int32)) gX8_fog_X8_no rfl (by decide +kernel) ⟨rfl, rfl⟩ rfl rfl rfl dX8_fog_54 ?_
          refine at_lv [] rfl ?_
          first | (simp only [if_pos hc0, if_pos hc1, if_pos hc2, if_neg (show ¬ (f_X8_isTwo x4) = true by rw [hc3]; decide)] at K; exact K) | exact K
        · replace h := h hc3
          refine at_aload_n C dX8_fog_40 rfl (j := 0) rfl ?_
          refine at_iload_n C dX8_fog_41 rfl (j := 1) rfl ?_
          refine at_iload_n C dX8_fog_42 rfl (j := 2) rfl ?_
          refine at_iload_n C dX8_fog_43 rfl (j := 3) rfl ?_
          refine at_iload C dX8_fog_44 (j := 4) rfl ?_
          refine at_cV1 C 4 (c_X8_fogOf X.l X.D X.E X.a1 X.a2 ad S2 x1 x2 x3 x4 h) gX8_fog_X8_fogOf rfl (by decide +kernel) ⟨rfl, rfl⟩ rfl rfl rfl 0 mW_c0 rfl dX8_fog_46 ?_
          refine at_goto C dX8_fog_49 (tgt := 57) (by decide) ?_
          refine at_lv [] rfl ?_
          first | (simp only [if_pos hc0, if_pos hc1, if_pos hc2, if_pos hc3] at K; exact K) | exact K
def f_X8_fog (S1 : MS) (x1 : Int32) (x2 : Int32) (x3 : Int32) (x4 : Int32) : Int64 := (if (f_X8_isFree S1 x1) then (if (f_X8_isFree S1 x2) then (if (f_X8_in x3.toInt64 (0 : Int64) (16 : Int64)) then (if (f_X8_isTwo x4) then f_X8_fogOf S1 x1 x2 x3 x4 else f_X8_no ((-2) : Int32)) else f_X8_no ((-2) : Int32)) else f_X8_no ((-2) : Int32)) else f_X8_no ((-2) : Int32))
def p_X8_fog (S1 : MS) (x1 : Int32) (x2 : Int32) (x3 : Int32) (x4 : Int32) : Prop := (p_X8_isFree S1 x1) ∧ ((((f_X8_isFree S1 x1) = true) → (p_X8_isFree S1 x2) ∧ (((f_X8_isFree S1 x2) = true) → (((f_X8_in x3.toInt64 (0 : Int64) (16 : Int64)) = true) → (((f_X8_isTwo x4) = true) → (p_X8_fogOf x1 x2 x3))))))
set_option maxRecDepth 100000 in
theorem c_X8_fog (ad : Nat → Nat) (S S1 : MS) (hr : ∀ (l : Launch) (D : va_G) (E : Nat → ClassId) (a1 a2 : Nat), Fn l D E a1 a2 yX8_reads wsX8_reads 3 70 [.ref (ad 0)] (mW E ad S) none (mW E ad S1)) (x1 : Int32) (x2 : Int32) (x3 : Int32) (x4 : Int32) (hp : p_X8_fog S1 x1 x2 x3 x4) (l : Launch) (D : va_G) (E : Nat → ClassId) (a1 a2 : Nat) : Fn l D E a1 a2 yX8_fog wsX8_fog 4 105 [.ref (ad 0), .int x1, .int x2, .int x3, .int x4] (mW E ad S) (some (.long (f_X8_fog S1 x1 x2 x3 x4))) (mW E ad S1) := by
  refine Fn.of (cc := cX8_fog) (maxL := 5) (ret := (some .long)) (own := RX8) (by decide) rfl rfl (sameM _ _ _ _) (Nat.le_of_ble_eq_true rfl) (fun X h1 h2 h3 h4 h5 C hE => ?_)
  subst h1 h2 h3 h4 h5
  refine r_X8_fog_0 C ad S x1 x2 x3 x4 ⟨S1, hr X.l X.D X.E X.a1 X.a2, ?_⟩
  refine ⟨hp.1, ?_⟩
  refine ⟨hp.2, ?_⟩
  simp only [f_X8_fog] at hE
  exact hE
