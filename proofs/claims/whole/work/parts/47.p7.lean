/-! what holds between the class's cells C and the reference's cells M -/
def RelT (C M : MS) (n0 n1 : Nat) : Prop := (n0 ≤ 40 ∧ C.1 2 0 = nI n0 ∧ M.1 6 0 = nI n0 ∧ ∀ j, j < n0 → M.1 5 j = C.1 0 j) ∧ n1 ≤ 71 ∧ C.1 3 0 = nI n1 ∧ M.1 6 1 = nI n1 ∧ ∀ j, j < n1 → M.1 5 (40 + j) = C.1 1 j
def RelS (C : MS) (n0 : Nat) : Prop := C.1 7 0 = fault0 (hxv (C.1 0) 0 n0) n0 ∧ C.1 6 0 = nI (count0 (hxv (C.1 0) 0 n0) n0) ∧ ∀ j, j < count0 (hxv (C.1 0) 0 n0) n0 → ∀ t, t < 4 → C.1 4 (4 * j + t) = trn t (told0 (hxv (C.1 0) 0 n0) j) ∧ ∀ s, s < 4 → C.1 5 (16 * j + (4 * t + s)) = f_X2_sightFrom (trn t (told0 (hxv (C.1 0) 0 n0) j)) (nI s)
def RelH (C : MS) (n1 : Nat) : Prop := C.1 8 0 = faultH (hxv (C.1 1) 0 n1) n1 ∧ ∀ c, c < 64 → tbL (C.2 1 0) c = freeH (hxv (C.1 1) 0 n1) n1 c
def RelK (C M : MS) (k : Nat) : Prop := k ≤ 8 ∧ C.1 15 0 = nI k ∧ M.1 14 0 = nI k ∧ ∀ j, j < k → (∃ s, s < 4 ∧ C.1 12 j = nI s ∧ M.1 15 (2 * j) = nI s) ∧ C.1 13 j = M.1 15 (2 * j + 1)
def RelP1 (C M : MS) (s : Nat) : Prop := ∃ z, z ≤ 64 ∧ C.1 (28 + s) 0 = nI z ∧ M.1 1 s = nI z ∧ (∀ i, i < z → M.1 2 (64 * s + i) = C.1 (20 + s) i) ∧ ((C.1 (32 + s) 0 = 1 ∧ M.1 0 s = -1) ∨ (C.1 (32 + s) 0 = 0 ∧ ∃ f, f < 3 ∧ M.1 0 s = nI f ∧ C.1 (24 + s) 0 = nI f))
def RelP (C M : MS) : Prop := ∀ s, s < 4 → RelP1 C M s
def Rel (C M : MS) : Prop := ∃ n0 n1 k, RelT C M n0 n1 ∧ RelS C n0 ∧ RelH C n1 ∧ RelK C M k ∧ RelP C M ∧ C.1 16 0 = M.1 4 0
/-- what a question of the class leaves alone -/
def keepC (C C' : MS) : Prop := (∀ k, k ≠ 9 → k ≠ 10 → k ≠ 11 → k ≠ 14 → C'.1 k = C.1 k) ∧ C'.2 1 = C.2 1
theorem keepC.rf (C : MS) : keepC C C := ⟨fun _ _ _ _ _ => rfl, rfl⟩
theorem keepW.c {C C' : MS} (h : keepW C C') : keepC C C' := ⟨fun k _ _ _ _ => by rw [h.1], h.2 1 (by decide) (by decide) (by decide) (by decide)⟩
theorem keepV.c {C C' : MS} (h : keepV C C') : keepC C C' := ⟨fun k a b c _ => h.1 k a b c, h.2 1 (by decide)⟩
theorem keepC.set14 (C : MS) (f : Nat → Int32) : keepC C (setF C 14 f) := ⟨fun k _ _ _ h => setF_o h, rfl⟩
theorem Rel.keep {C C' M M' : MS} (h : Rel C M) (hc : keepC C C') (hm : keepQ M M') : Rel C' M' := by
  obtain ⟨n0, n1, k, hT, hS, hH, hK, hP, hL⟩ := h
  obtain ⟨c1, c2⟩ := hc
  have e : ∀ k, k ≠ 9 ∧ k ≠ 10 ∧ k ≠ 11 ∧ k ≠ 14 → C'.1 k = C.1 k := fun k q => c1 k q.1 q.2.1 q.2.2.1 q.2.2.2
  refine ⟨n0, n1, k, ?_, ?_, ?_, ?_, ?_, ?_⟩
  · unfold RelT at hT ⊢
    rw [e 2 (by decide), e 0 (by decide), e 3 (by decide), e 1 (by decide), hm 6 (by decide), hm 5 (by decide)]; exact hT
  · unfold RelS at hS ⊢
    rw [e 7 (by decide), e 0 (by decide), e 6 (by decide), e 4 (by decide), e 5 (by decide)]; exact hS
  · unfold RelH at hH ⊢
    rw [e 8 (by decide), e 1 (by decide), c2]; exact hH
  · unfold RelK at hK ⊢
    rw [e 15 (by decide), e 12 (by decide), e 13 (by decide), hm 14 (by decide), hm 15 (by decide)]; exact hK
  · intro s hs
    have := hP s hs
    unfold RelP1 at this ⊢
    rw [e (28 + s) (by omega), e (20 + s) (by omega), e (32 + s) (by omega), e (24 + s) (by omega), hm 1 (by decide), hm 2 (by decide), hm 0 (by decide)]; exact this
  · rw [e 16 (by decide), hm 4 (by decide)]; exact hL
theorem hx_eq0 {C M : MS} {n0 n1 : Nat} (h : RelT C M n0 n1) : hxv (M.1 5) 0 n0 = hxv (C.1 0) 0 n0 := by
  funext p
  unfold hxv
  by_cases q : p < n0
  · rw [if_pos q, if_pos q, Nat.zero_add]; exact h.1.2.2.2 p q
  · rw [if_neg q, if_neg q]
theorem hx_eq1 {C M : MS} {n0 n1 : Nat} (h : RelT C M n0 n1) : hxv (M.1 5) 40 n1 = hxv (C.1 1) 0 n1 := by
  funext p
  unfold hxv
  by_cases q : p < n1
  · rw [if_pos q, if_pos q, Nat.zero_add]; exact h.2.2.2.2 p q
  · rw [if_neg q, if_neg q]
/-- both beside each other, behind reads() -/
def Bo (C S1 : MS) (cnt : Nat) (sh : Nat → Nat) (k : Nat) : Prop := cnt ≤ 8 ∧ C.1 6 0 = nI cnt ∧ S1.1 8 0 = nI cnt ∧ (∀ j, j < cnt → sh16 (sh j) ∧ S1.1 9 j = nI (sh j) ∧ ∀ t, t < 4 → C.1 4 (4 * j + t) = nI (tnK t (sh j)) ∧ ∀ s, s < 4 → C.1 5 (16 * j + (4 * t + s)) = f_X8_sightOf (nI (tnK t (sh j))) (nI s)) ∧ (∀ c, c < 64 → S1.1 10 c = b2i (frC C c)) ∧ RelK C S1 k
theorem bo_of {C M S1 : MS} {n0 n1 k : Nat} (hT : RelT C M n0 n1) (hS : RelS C n0) (hH : RelH C n1) (hK : RelK C M k) (hr : rdAll n0 n1 M S1) : Bo C S1 (count0 (hxv (C.1 0) 0 n0) n0) (shN (hxv (C.1 0) 0 n0)) k := by
  have hrd := hr.rd
  obtain ⟨r1, r2, r3, r4, r5⟩ := hr
  rw [hx_eq0 hT] at hrd r1 r2
  rw [hx_eq1 hT] at r3
  refine ⟨hrd.1, hS.2.1, r1, fun j hj => ?_, fun c hc => ?_, ?_⟩
  · obtain ⟨h1, h2⟩ := hrd.2.2 j hj
    refine ⟨h1, h2, fun t ht => ?_⟩
    obtain ⟨s1, s2⟩ := hS.2.2 j hj t ht
    have e := (shN_eq (r2 j hj).2).2
    have l := tnK_lt t h1.2
    rw [e, trn_nI t h1.2] at s1
    refine ⟨s1, fun s hs => ?_⟩
    rw [s2 s hs, e, trn_nI t h1.2, sight_eq l hs]
  · rw [r3 c hc]; unfold frC; rw [hH.2 c hc]
  · unfold RelK at hK ⊢
    rw [r4 14 (by decide) (by decide) (by decide) (by decide), r4 15 (by decide) (by decide) (by decide) (by decide)]; exact hK
theorem Rel.reads {C M : MS} (h : Rel C M) (ad : Nat → Nat) : ∃ S1 cnt sh k, Bo C S1 cnt sh k ∧ keepQ M S1 ∧ hrT ad M S1 := by
  obtain ⟨n0, n1, k, hT, hS, hH, hK, hP, hL⟩ := h
  obtain ⟨S1, hr, hF⟩ := c_X8_reads ad M (n0 := n0) (n1 := n1) ⟨⟨hT.1.2.2.1, hT.1.1⟩, hT.2.2.2.1, hT.2.1⟩
  exact ⟨S1, _, _, k, bo_of hT hS hH hK hr, hr.keep, hF⟩
/-- THE PAIR: both answer alike, and what holds between them goes on -/
def Pr {T : Type} (inj : T → Value) (y7 : MethodName) (w7 : List Cond) (f7 o7 : Nat) (y8 : MethodName) (w8 : List Cond) (f8 o8 : Nat) (As : List Value) : Prop := ∀ (C M : MS), Rel C M → ∀ ad ad' : Nat → Nat, ∃ (r : T) (C' M' : MS), Rel C' M' ∧ (∀ (l : Launch) (D : va_G) (E : Nat → ClassId) (a1 a2 : Nat), Fn l D E a1 a2 y7 w7 f7 o7 (.ref (ad 0) :: As) (cW E ad C) (some (inj r)) (cW E ad C')) ∧ ∀ (l : Launch) (D : va_G) (E : Nat → ClassId) (a1 a2 : Nat), Fn l D E a1 a2 y8 w8 f8 o8 (.ref (ad' 0) :: As) (mW E ad' M) (some (inj r)) (mW E ad' M')
/-! lookups -/
theorem rows_nI {C S1 : MS} {cnt k s t : Nat} {sh : Nat → Nat} (h : Bo C S1 cnt sh k) (hs : s < cnt) (ht : t < 4) : f_X3_rowsOf C (nI s) (nI t) = nI (tnK t (sh s)) := by
  have h8 := h.1
  unfold f_X3_rowsOf
  rw [show nI s * 4 + nI t = nI (4 * s + t) from by rw [show (4 : Int32) = nI 4 from rfl, pk_mul, nI_add, Nat.mul_comm], if_neg (show ¬ nI (4 * s + t) < 0 from Int32.not_lt.mpr ((nle (a := 0) (by decide) (by omega)).mpr (Nat.zero_le _))), if_neg (show ¬ (32 : Int32) ≤ nI (4 * s + t) from fun q => nlt_no (Q := False) (b := 32) (a := 4 * s + t) (by decide) (by omega) q), nI_clamp (by omega)]
  exact ((h.2.2.2.1 s hs).2.2 t ht).1
theorem sight_nI' {C S1 : MS} {cnt k s t i : Nat} {sh : Nat → Nat} (h : Bo C S1 cnt sh k) (hs : s < cnt) (ht : t < 4) (hi : i < 4) : f_X3_sightOf C (nI s) (nI t) (nI i) = f_X8_sightOf (nI (tnK t (sh s))) (nI i) := by
  have h8 := h.1
  unfold f_X3_sightOf
  rw [show (nI s * 4 + nI t) * 4 + nI i = nI (16 * s + (4 * t + i)) from by rw [show (4 : Int32) = nI 4 from rfl, pk_mul, nI_add, pk_mul, nI_add]; exact congrArg nI (by omega), if_neg (show ¬ nI (16 * s + (4 * t + i)) < 0 from Int32.not_lt.mpr ((nle (a := 0) (by decide) (by omega)).mpr (Nat.zero_le _))), if_neg (show ¬ (128 : Int32) ≤ nI (16 * s + (4 * t + i)) from fun q => nlt_no (Q := False) (b := 128) (a := 16 * s + (4 * t + i)) (by decide) (by omega) q), nI_clamp (by omega)]
  exact ((h.2.2.2.1 s hs).2.2 t ht).2 i hi
theorem turn_nI {C S1 : MS} {cnt k s t : Nat} {sh : Nat → Nat} (h : Bo C S1 cnt sh k) (hs : s < cnt) (ht : t < 4) : f_X8_turned (S1.1 9 s) (nI t) = nI (tnK t (sh s)) := by
  obtain ⟨h1, h2, _⟩ := h.2.2.2.1 s hs
  rw [h2, turned_nI h1.2 (by omega)]
theorem shape_b {C S1 : MS} {cnt k : Nat} {sh : Nat → Nat} (h : Bo C S1 cnt sh k) (x : Int32) : f_X7_isShape C x = f_X8_isShape S1 x := by
  rw [Bool.eq_iff_iff, cShape_iff h.1 h.2.1, isShape_iff h.1 h.2.2.1]
theorem stand_b {C S1 : MS} {cnt k : Nat} {sh : Nat → Nat} (h : Bo C S1 cnt sh k) (x y z : Int32) : f_X7_isStand C x y z = f_X8_isStand S1 x y z := by
  rw [Bool.eq_iff_iff, cStand_iff h.1 h.2.1, isStand_iff h.1 h.2.2.1]
theorem turn_b (x : Int32) : f_X7_within x 4 = f_X8_isTurn x := by
  rw [Bool.eq_iff_iff, isTurn_iff]
  exact within_iff (n := 4) (by decide)
theorem two_b (x : Int32) : f_X7_within x 2 = f_X8_isTwo x := by
  rw [Bool.eq_iff_iff, isTwo_iff]
  refine (within_iff (n := 2) (by decide)).trans ⟨?_, ?_⟩
  · rintro ⟨k, hk, e⟩
    rcases (show k = 0 ∨ k = 1 by omega) with rfl | rfl
    · exact Or.inl e
    · exact Or.inr e
  · rintro (e | e)
    · exact ⟨0, by decide, e⟩
    · exact ⟨1, by decide, e⟩
theorem in_b {x : Int32} {m : Nat} (hm : m < 2 ^ 31 - 1) : f_X7_within x (nI (m + 1)) = f_X8_in x.toInt64 0 (lN m) := by
  rw [Bool.eq_iff_iff, in_nI (by omega)]
  refine (within_iff (by omega)).trans ⟨?_, ?_⟩
  · rintro ⟨k, hk, e⟩; exact ⟨k, by omega, e⟩
  · rintro ⟨k, hk, e⟩; exact ⟨k, by omega, e⟩
theorem fr_b {C S1 : MS} {cnt k : Nat} {sh : Nat → Nat} (h : Bo C S1 cnt sh k) : frS S1 = frC C := by
  funext c
  unfold frS
  by_cases q : c < 64
  · rw [decide_eq_true q, h.2.2.2.2.1 c q]
    cases frC C c <;> rfl
  · rw [decide_eq_false q]
    exact (tbL_ge (by omega)).symm
theorem free10 {C S1 : MS} {cnt k c : Nat} {sh : Nat → Nat} (h : Bo C S1 cnt sh k) (hc : c < 64) : S1.1 10 c = 0 ↔ frC C c = false := by
  rw [h.2.2.2.2.1 c hc]
  cases frC C c <;> decide
