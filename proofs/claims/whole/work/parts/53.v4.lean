section
/-! through a house -/
theorem rch_cong {ok ok' : Nat → Bool} {st : Nat} (hst : st < 256) (h : ∀ σ, σ < 256 → ok σ = ok' σ) : ∀ (n σ : Nat), rch ok st n σ ↔ rch ok' st n σ
  | 0, _ => Iff.rfl
  | n + 1, σ => by
    have ih := rch_cong hst h n
    constructor
    · rintro (a | ⟨a, τ, j, hj, b, c⟩)
      · exact Or.inl ((ih σ).mp a)
      · exact Or.inr ⟨by rw [← h σ (mv6_lt (rch_lt hst b) j c)]; exact a, τ, j, hj, (ih τ).mp b, c⟩
    · rintro (a | ⟨a, τ, j, hj, b, c⟩)
      · exact Or.inl ((ih σ).mpr a)
      · have b' := (ih τ).mpr b
        exact Or.inr ⟨by rw [h σ (mv6_lt (rch_lt hst b') j c)]; exact a, τ, j, hj, b', c⟩
theorem thr_uni {ok ok' : Nat → Bool} {st tg : Nat} {r r' : Int32} (hst : st < 256) (htg : tg < 256) (h : ∀ σ, σ < 256 → ok σ = ok' σ) (a : thrR ok st tg r) (b : thrR ok' st tg r') : r = r' := by
  have e := rch_cong hst h
  unfold thrR at a b
  rw [← h st hst, ← h tg htg] at b
  rcases a with ⟨a0, a⟩ | ⟨a0, a⟩ <;> rcases b with ⟨b0, b⟩ | ⟨b0, b⟩
  · rcases a with ⟨a1, a2⟩ | ⟨m, hm, a1, a2, a3⟩ <;> rcases b with ⟨b1, b2⟩ | ⟨m', hm', b1, b2, b3⟩
    · rw [a1, b1]
    · exact absurd ((e m' tg).mpr b2) (a2 m')
    · exact absurd ((e m tg).mp a2) (b2 m)
    · rw [a1, b1, Nat.le_antisymm (a3 m' ((e m' tg).mpr b2)) (b3 m ((e m tg).mp a2))]
  · exact absurd a0 b0
  · exact absurd b0 a0
  · rw [a, b]
theorem ok_eq {C S : MS} {cnt k s σ : Nat} {sh : Nat → Nat} (h : Bo C S cnt sh k) (hs : s < cnt) (hσ : σ < 256) : okT C s σ = okS (S.1 10) (S.1 9 s) σ := by
  have e1 : okT C s σ = f_X7_canStand C (nI s) (nI (σ / 64)) (nI (σ % 64)) := by
    unfold okT f_X7_canStand
    rw [has_eq (by omega)]
  have e2 : okS (S.1 10) (S.1 9 s) σ = f_X8_canStand S (f_X8_turned (S.1 9 s) (nI (σ / 64))) (nI (σ % 64)) := by
    unfold okS f_X8_canStand
    rw [nI_clamp (show σ % 64 < 2 ^ 31 by omega)]
  rw [e1, e2, turn_nI h hs (by omega), cst_eq h hs (by omega) (by omega)]
theorem v_through {C S : MS} {cnt k : Nat} {sh : Nat → Nat} (h : Bo C S cnt sh k) {x y z y' z' r r' : Int32} (a : thruC C x y z y' z' r) (b : thruV S x y z y' z' r') : r = r' := by
  unfold thruC at a
  unfold thruV at b
  rw [stand_b h, stand_b h] at a
  by_cases q : f_X8_isStand S x y z = true ∧ f_X8_isStand S x y' z' = true
  · rw [if_pos q] at a b
    obtain ⟨s, t, c, ⟨hs, ht, hc⟩, rfl, rfl, rfl⟩ := (isStand_iff h.1 h.2.2.1 x y z).mp q.1
    obtain ⟨s', t', c', ⟨hs', ht', hc'⟩, _, rfl, rfl⟩ := (isStand_iff h.1 h.2.2.1 (nI s) y' z').mp q.2
    have h8 := h.1
    rw [nI_clamp (show s < 2 ^ 31 by omega), nI_clamp (show t < 2 ^ 31 by omega), nI_clamp (show c < 2 ^ 31 by omega), nI_clamp (show t' < 2 ^ 31 by omega), nI_clamp (show c' < 2 ^ 31 by omega)] at a b
    exact thr_uni (by omega) (by omega) (fun σ hσ => ok_eq h hs hσ) a b
  · rw [if_neg q] at a b
    rw [a, b]
theorem rch_uni {ok ok' : Nat → Bool} {st : Nat} {r r' : Int32} (hst : st < 256) (h : ∀ σ, σ < 256 → ok σ = ok' σ) (a : rchC ok st r) (b : rchR ok' st r') : r = r' := by
  have e := rch_cong hst h
  unfold rchC at a
  unfold rchR at b
  rw [← h st hst] at b
  rcases a with ⟨a0, v, hv, a⟩ | ⟨a0, a⟩ <;> rcases b with ⟨b0, F, hF, b⟩ | ⟨b0, b⟩
  · rw [a, b, cnt64]
    unfold rcV
    refine itF_cong (N := 64) (fun c s hc => ?_) 64 0 0 rfl
    have key : ∀ u, u < 4 → (0 ≤ F (64 * u + c) ↔ ∃ n, rch ok st n (64 * u + c)) := by
      intro u hu
      rcases hF (64 * u + c) (by omega) with ⟨f1, f2⟩ | ⟨m, hm, f1, f2, _⟩
      · rw [f1]
        exact ⟨fun z => absurd z (by decide), fun ⟨n, z⟩ => absurd ((e n _).mp z) (f2 n)⟩
      · rw [f1]
        exact ⟨fun _ => ⟨m, (e m _).mpr f2⟩, fun _ => nI_pos' (by omega)⟩
    have : tbL v c = rcB F c := by
      rw [Bool.eq_iff_iff, hv c hc]
      unfold rcB
      simp only [Bool.or_eq_true, decide_eq_true_eq]
      have k0 := key 0 (by decide)
      have k1 := key 1 (by decide)
      have k2 := key 2 (by decide)
      have k3 := key 3 (by decide)
      rw [show 64 * 0 + c = c by omega] at k0
      rw [show 64 * 1 + c = 64 + c by omega] at k1
      rw [show 64 * 2 + c = 128 + c by omega] at k2
      rw [show 64 * 3 + c = 192 + c by omega] at k3
      constructor
      · rintro ⟨u, n, hu, z⟩
        rcases (show u = 0 ∨ u = 1 ∨ u = 2 ∨ u = 3 by omega) with rfl | rfl | rfl | rfl
        · exact Or.inl (k0.mpr ⟨n, by rwa [show 64 * 0 + c = c by omega] at z⟩)
        · exact Or.inr (Or.inl (k1.mpr ⟨n, by rwa [show 64 * 1 + c = 64 + c by omega] at z⟩))
        · exact Or.inr (Or.inr (Or.inl (k2.mpr ⟨n, by rwa [show 64 * 2 + c = 128 + c by omega] at z⟩)))
        · exact Or.inr (Or.inr (Or.inr (k3.mpr ⟨n, by rwa [show 64 * 3 + c = 192 + c by omega] at z⟩)))
      · rintro (z | z | z | z)
        · obtain ⟨n, z⟩ := k0.mp z
          exact ⟨0, n, by decide, by rwa [show 64 * 0 + c = c by omega]⟩
        · obtain ⟨n, z⟩ := k1.mp z
          exact ⟨1, n, by decide, by rwa [show 64 * 1 + c = 64 + c by omega]⟩
        · obtain ⟨n, z⟩ := k2.mp z
          exact ⟨2, n, by decide, by rwa [show 64 * 2 + c = 128 + c by omega]⟩
        · obtain ⟨n, z⟩ := k3.mp z
          exact ⟨3, n, by decide, by rwa [show 64 * 3 + c = 192 + c by omega]⟩
    rw [this]
  · exact absurd a0 b0
  · exact absurd b0 a0
  · rw [a, b]
theorem v_reach {C S : MS} {cnt k : Nat} {sh : Nat → Nat} (h : Bo C S cnt sh k) {x y z r r' : Int32} (a : reaC C x y z r) (b : rchV S x y z r') : r = r' := by
  unfold reaC at a
  unfold rchV at b
  rw [stand_b h] at a
  by_cases q : f_X8_isStand S x y z = true
  · rw [if_pos q] at a b
    obtain ⟨s, t, c, ⟨hs, ht, hc⟩, rfl, rfl, rfl⟩ := (isStand_iff h.1 h.2.2.1 x y z).mp q
    have h8 := h.1
    rw [nI_clamp (show s < 2 ^ 31 by omega), nI_clamp (show t < 2 ^ 31 by omega), nI_clamp (show c < 2 ^ 31 by omega)] at a b
    exact rch_uni (by omega) (fun σ hσ => ok_eq h hs hσ) a b
  · rw [if_neg q] at a b
    rw [a, b]
/-! count -/
def f_X7_count (S : MS) (x : Int32) : Int32 := if x = 0 then S.1 6 0 else (if x = 1 then f_J13_bitCount_95d88 (S.2 1 0) else (if x = 2 then S.1 2 0 else (if x = 3 then S.1 3 0 else (if x = 4 then S.1 15 0 else (if x = 5 then f_X3_cellsOfAll S else (if x = 6 then f_X3_wholeOnes S else (if x = 7 then f_X3_unlikeTheirMirror S else (if x = 8 then S.1 16 0 else -2))))))))
theorem c_X7_count (ad : Nat → Nat) (S : MS) (hC : okC S) (x1 : Int32) (l : Launch) (D : va_G) (E : Nat → ClassId) (a1 a2 : Nat) : Fn l D E a1 a2 yX7_count wsX7_count 4 91 [.ref (ad 0), .int x1] (cW E ad S) (some (.int (f_X7_count S x1))) (cW E ad S) := by
  refine Fn.of (cc := cX7_count) (maxL := 2) (ret := (some .int)) (own := RX7) (by decide) rfl rfl (sameC _ _ _ _) (Nat.le_of_ble_eq_true rfl) (fun X q1 q2 q3 q4 q5 K hE => ?_)
  subst q1 q2 q3 q4 q5
  refine r_X7_count_0 K ad S x1 ⟨fun z => ?_, fun z => ?_, fun z => ?_, fun z => ?_, fun z => ?_, fun z => ⟨hC, ?_⟩, fun z => ⟨hC, ?_⟩, fun z => ⟨hC, ?_⟩, fun z => ?_, fun z0 z1 z2 z3 z4 z5 z6 z7 z8 => ?_⟩
  · subst z; exact hE
  · subst z; exact hE
  · subst z; exact hE
  · subst z; exact hE
  · subst z; exact hE
  · subst z; exact hE
  · subst z; exact hE
  · subst z; exact hE
  · subst z; exact hE
  · rw [f_X7_count, if_neg z0, if_neg z1, if_neg z2, if_neg z3, if_neg z4, if_neg z5, if_neg z6, if_neg z7, if_neg z8] at hE; exact hE
theorem v_count {C S : MS} {cnt k : Nat} {sh : Nat → Nat} (h : Bo C S cnt sh k) (hr : Rel C S) (x : Int32) : f_X7_count C x = f_X8_count S x := by
  have h8 := h.1
  have c8 : (nI cnt).toNatClampNeg = cnt := nI_clamp (by omega)
  have e1 : f_J13_bitCount_95d88 (C.2 1 0) = ctFree S := by
    rw [cnt64]
    unfold ctFree
    refine itF_cong (N := 64) (fun c a hc => ?_) 64 0 0 rfl
    have f := free10 h hc
    show a + b2i (frC C c) = _
    cases w : frC C c
    · rw [if_pos (f.mpr w)]
    · rw [if_neg (fun z => by rw [f.mp z] at w; cases w)]
  have e5 : f_X3_cellsOfAll C = ctCells S := by
    unfold f_X3_cellsOfAll ctCells
    rw [h.2.1, h.2.2.1, c8]
    refine itF_cong (N := cnt) (fun i a hi => ?_) cnt 0 0 (Nat.zero_add cnt)
    rw [rows_0 h hi, (h.sh hi).2, ones_eq (h.sh hi).1.2]
  have e6 : f_X3_wholeOnes C = ctWhole S := by
    unfold f_X3_wholeOnes ctWhole
    rw [h.2.1, h.2.2.1, c8]
    refine itF_cong (N := cnt) (fun i a hi => ?_) cnt 0 0 (Nat.zero_add cnt)
    rw [rows_0 h hi, (h.sh hi).2, whole_eq (h.sh hi).1]
  have e7 : f_X3_unlikeTheirMirror C = ctOdd S := by
    unfold f_X3_unlikeTheirMirror ctOdd
    rw [h.2.1, h.2.2.1, c8]
    refine itF_cong (N := cnt) (fun i a hi => ?_) cnt 0 0 (Nat.zero_add cnt)
    obtain ⟨h1, h2⟩ := h.sh hi
    rw [rows_0 h hi, h2, mc_nI h1.2, mr_nI h1.2, one_eq' h1 (sh16_mr h1)]
  obtain ⟨n0, n1, k', hT, _, _, hK, _, hL⟩ := hr
  unfold f_X7_count f_X8_count
  rw [h.2.1, h.2.2.1, e1, e5, e6, e7, hT.1.2.1, hT.1.2.2.1, hT.2.2.1, hT.2.2.2.1, hK.2.1, hK.2.2.1, hL]
/-! the words for one question at a time -/
theorem Bo.keep {C C' S : MS} {cnt k : Nat} {sh : Nat → Nat} (h : Bo C S cnt sh k) (hc : keepC C C') : Bo C' S cnt sh k := by
  obtain ⟨c1, c2⟩ := hc
  have e : ∀ k, k ≠ 9 ∧ k ≠ 10 ∧ k ≠ 11 ∧ k ≠ 14 → C'.1 k = C.1 k := fun k q => c1 k q.1 q.2.1 q.2.2.1 q.2.2.2
  unfold Bo RelK frC at h ⊢
  rw [e 6 (by decide), e 4 (by decide), e 5 (by decide), c2, e 15 (by decide), e 12 (by decide), e 13 (by decide)]
  exact h
theorem keepC.tr {A B C : MS} (h : keepC A B) (h' : keepC B C) : keepC A C := ⟨fun k a b c d => (h'.1 k a b c d).trans (h.1 k a b c d), h'.2.trans h.2⟩
/-- the reference has read what the class holds -/
def JM (C M : MS) : Prop := Rel C M ∧ ∃ cnt sh k, Bo C M cnt sh k
/-- at C, and at all that questions leave of it, the class answers v -/
def AnC (C0 : MS) (y : MethodName) (w : List Cond) (f o : Nat) (As : List Value) (v : Value) : Prop := ∀ (ad : Nat → Nat) (C : MS), keepC C0 C → ∃ C', keepC C0 C' ∧ ∀ (l : Launch) (D : va_G) (E : Nat → ClassId) (a1 a2 : Nat), Fn l D E a1 a2 y w f o (.ref (ad 0) :: As) (cW E ad C) (some v) (cW E ad C')
/-- where it stands beside C, the reference answers v, and has read -/
def AnM (C0 : MS) (y : MethodName) (w : List Cond) (f o : Nat) (As : List Value) (v : Value) : Prop := ∀ (ad : Nat → Nat) (M : MS), Rel C0 M → ∃ M', JM C0 M' ∧ ∀ (l : Launch) (D : va_G) (E : Nat → ClassId) (a1 a2 : Nat), Fn l D E a1 a2 y w f o (.ref (ad 0) :: As) (mW E ad M) (some v) (mW E ad M')
/-- the same of its inner methods, once it has read -/
def AnI (C0 : MS) (y : MethodName) (w : List Cond) (f o : Nat) (As : List Value) (v : Value) : Prop := ∀ (ad : Nat → Nat) (M : MS), JM C0 M → ∃ M', JM C0 M' ∧ ∀ (l : Launch) (D : va_G) (E : Nat → ClassId) (a1 a2 : Nat), Fn l D E a1 a2 y w f o (.ref (ad 0) :: As) (mW E ad M) (some v) (mW E ad M')
theorem AnM.i {C0 : MS} {y : MethodName} {w : List Cond} {f o : Nat} {As : List Value} {v : Value} (h : AnM C0 y w f o As v) : AnI C0 y w f o As v := fun ad M q => h ad M q.1
theorem Pr.of {T : Type} {inj : T → Value} {y7 y8 : MethodName} {w7 w8 : List Cond} {f7 o7 f8 o8 : Nat} {As : List Value} (h : ∀ C S, JM C S → ∃ v : T, AnC C y7 w7 f7 o7 As (inj v) ∧ AnM C y8 w8 f8 o8 As (inj v)) : Pr inj y7 w7 f7 o7 y8 w8 f8 o8 As := by
  intro C M hR ad ad'
  obtain ⟨S1, cnt, sh, k, hB, hQ, hr⟩ := hR.reads ad'
  obtain ⟨v, hc, hm⟩ := h C S1 ⟨hR.keep (keepC.rf C) hQ, cnt, sh, k, hB⟩
  obtain ⟨C', k', hF⟩ := hc ad C (keepC.rf C)
  obtain ⟨M', j', hG⟩ := hm ad' M hR
  exact ⟨v, C', M', j'.1.keep k' (keepQ.rf M'), hF, hG⟩
/-- the reference reads, then answers -/
theorem AnM.of {C0 : MS} {y : MethodName} {w : List Cond} {f o : Nat} {As : List Value} {v : Value} (h : ∀ (ad : Nat → Nat) (M S1 : MS) (cnt k : Nat) (sh : Nat → Nat), Bo C0 S1 cnt sh k → Rel C0 S1 → hrT ad M S1 → ∃ M', keepQ S1 M' ∧ Bo C0 M' cnt sh k ∧ ∀ (l : Launch) (D : va_G) (E : Nat → ClassId) (a1 a2 : Nat), Fn l D E a1 a2 y w f o (.ref (ad 0) :: As) (mW E ad M) (some v) (mW E ad M')) : AnM C0 y w f o As v := by
  intro ad M hR
  obtain ⟨S1, cnt, sh, k, hB, hQ, hr⟩ := hR.reads ad
  have hR1 : Rel C0 S1 := hR.keep (keepC.rf C0) hQ
  obtain ⟨M', q, b, hF⟩ := h ad M S1 cnt k sh hB hR1 hr
  exact ⟨M', ⟨hR1.keep (keepC.rf C0) q, cnt, sh, k, b⟩, hF⟩
end
