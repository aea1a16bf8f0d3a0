section
/-! which it is -/
theorem itF_proj {σ τ : Type} (π : σ → τ) {f : Nat → σ → σ} {g : Nat → τ → τ} {N : Nat} (h : ∀ i s, i < N → π (f i s) = g i (π s)) : ∀ (k i : Nat) (s : σ), i + k = N → π (itF f i k s) = itF g i k (π s)
  | 0, _, _, _ => rfl
  | k + 1, i, s, e => by
    show π (itF f (i + 1) k (f i s)) = itF g (i + 1) k (g i (π s))
    rw [itF_proj π h k (i + 1) (f i s) (by omega), h i s (by omega)]
theorem fit_eq {C S : MS} {cnt k s t : Nat} {sh : Nat → Nat} (h : Bo C S cnt sh k) (hs : s < cnt) (ht : t < 4) : f_X0_isFitting C (nI s) (nI t) = f_X8_isFit S (nI s) (nI t) := by
  obtain ⟨k8, e15, e14, hk⟩ := h.2.2.2.2.2
  have ck : (nI k).toNatClampNeg = k := nI_clamp (by omega)
  unfold f_X0_isFitting f_X8_isFit
  rw [e15, e14, ck, nI_clamp (show s < 2 ^ 31 by have := h.1; omega), turn_nI h hs ht]
  refine itF_cong (N := k) (fun j a hj => ?_) k 0 true (Nat.zero_add k)
  obtain ⟨⟨i, hi, c12, c15⟩, c13⟩ := hk j hj
  unfold fitC ftStep
  rw [c12, c15, c13, sight_nI' h hs ht hi]
theorem fp_eq {C S : MS} {cnt k : Nat} {sh : Nat → Nat} (h : Bo C S cnt sh k) : f_X0_fittingPairs C = (fitP S).1 := by
  have c8 : (nI cnt).toNatClampNeg = cnt := nI_clamp (by have := h.1; omega)
  unfold f_X0_fittingPairs fitP
  rw [h.2.1, h.2.2.1, c8]
  refine (itF_proj Prod.fst (N := cnt) (fun s p hs => ?_) cnt 0 ((0 : Int32), (0 : Int32)) (Nat.zero_add cnt)).symm
  refine itF_proj Prod.fst (N := 4) (fun t p ht => ?_) 4 0 p rfl
  unfold fsStep
  rw [fit_eq h hs ht]
  cases f_X8_isFit S (nI s) (nI t)
  · show p.1 = p.1 + 0
    rw [Int32.add_zero]
  · rfl
theorem fs_eq {C S : MS} {cnt k : Nat} {sh : Nat → Nat} (h : Bo C S cnt sh k) : f_X0_fittingShapes C = (fitP S).2 := by
  have c8 : (nI cnt).toNatClampNeg = cnt := nI_clamp (by have := h.1; omega)
  unfold f_X0_fittingShapes fitP
  rw [h.2.1, h.2.2.1, c8]
  refine (itF_proj Prod.snd (N := cnt) (fun s p hs => ?_) cnt 0 ((0 : Int32), (0 : Int32)) (Nat.zero_add cnt)).symm
  refine itF_proj Prod.snd (N := 4) (fun t p ht => ?_) 4 0 p rfl
  unfold fsStep
  rw [fit_eq h hs ht]
  cases f_X8_isFit S (nI s) (nI t) <;> rfl
theorem v_fits {C S : MS} {cnt k : Nat} {sh : Nat → Nat} (h : Bo C S cnt sh k) (x : Int32) : f_X7_fits C x = f_X8_fits S x := by
  unfold f_X7_fits f_X8_fits f_X8_fitsOf
  rw [two_b, fp_eq h, fs_eq h]
/-! from where to look next -/
def on1 (x : Int32) : Nat := pcR 32 (uI x)
theorem on1_le (x : Int32) : on1 x ≤ 32 := pcR_le 32 _
theorem ones_on (x : Int32) : f_X8_ones x = nI (on1 x) := rfl
theorem on1_or (a b : Int32) : on1 a ≤ on1 (a ||| b) := by
  unfold on1
  have e : ∀ m, pcR 32 m = sumB m.testBit 32 0 := fun m => by have := pcR_sum m 32 0; rwa [Nat.pow_zero, Nat.div_one] at this
  rw [e, e]
  refine sumB_le 32 0 (fun j hj => ?_)
  have : uI (a ||| b) = uI a ||| uI b := by
    show (a ||| b).toBitVec.toNat = a.toBitVec.toNat ||| b.toBitVec.toNat
    rw [Int32.toBitVec_or, BitVec.toNat_or]
  rw [this, Nat.testBit_or, hj]; rfl
def Bm (T : Nat → Int32) (m : Nat) (x : Int32) : Int32 := itF (fun p a => if T p = x then a ||| ishl 1 (nI (p / 4)) else a) 0 m 0
theorem Bm_s (T : Nat → Int32) (m : Nat) (x : Int32) : Bm T (m + 1) x = if T m = x then Bm T m x ||| ishl 1 (nI (m / 4)) else Bm T m x := by
  unfold Bm
  rw [itF_succ, Nat.zero_add]
theorem Bm_no {T : Nat → Int32} {x : Int32} : ∀ (d m : Nat), (∀ p, m ≤ p → p < m + d → ¬ T p = x) → Bm T (m + d) x = Bm T m x
  | 0, _, _ => rfl
  | d + 1, m, h => by
    rw [← Nat.add_assoc, Bm_s, if_neg (h (m + d) (by omega) (by omega)), Bm_no d m (fun p a b => h p a (by omega))]
theorem Bm_ex {T : Nat → Int32} {x : Int32} (m : Nat) (h : ¬ Bm T m x = 0) : ∃ p, p < m ∧ T p = x := by
  refine Classical.byContradiction (fun q => h ?_)
  have := Bm_no (T := T) (x := x) m 0 (fun p _ hp e => q ⟨p, by omega, e⟩)
  rw [Nat.zero_add] at this
  exact this
/-- w is the most ones of all f j -/
def isMx (f : Nat → Int32) (w : Int32) : Prop := ∃ n, n ≤ 32 ∧ w = nI n ∧ (∀ j, j < 625 → on1 (f j) ≤ n) ∧ (n = 0 ∨ ∃ j, j < 625 ∧ n = on1 (f j))
theorem isMx.uni {f : Nat → Int32} {w w' : Int32} (h : isMx f w) (h' : isMx f w') : w = w' := by
  obtain ⟨n, _, rfl, b, e⟩ := h
  obtain ⟨n', _, rfl, b', e'⟩ := h'
  have l1 : n ≤ n' := by
    rcases e with e | ⟨j, hj, e⟩
    · omega
    · rw [e]; exact b' j hj
  have l2 : n' ≤ n := by
    rcases e' with e | ⟨j, hj, e⟩
    · omega
    · rw [e]; exact b j hj
  rw [Nat.le_antisymm l1 l2]
theorem isMx.cong {f g : Nat → Int32} {w : Int32} (h : isMx f w) (e : ∀ j, j < 625 → f j = g j) : isMx g w := by
  obtain ⟨n, hn, hw, b, c⟩ := h
  refine ⟨n, hn, hw, fun j hj => by rw [← e j hj]; exact b j hj, ?_⟩
  rcases c with c | ⟨j, hj, c⟩
  · exact Or.inl c
  · exact Or.inr ⟨j, hj, by rw [← e j hj]; exact c⟩
theorem isMx.step {f : Nat → Int32} {w bit : Int32} {i : Nat} (h : isMx f w) (hi : i < 625) : isMx (upd f i (f i ||| bit)) (if f_X8_ones (f i ||| bit) ≤ w then w else f_X8_ones (f i ||| bit)) := by
  obtain ⟨n, hn, rfl, b, c⟩ := h
  have u1 : upd f i (f i ||| bit) i = f i ||| bit := by simp [upd]
  have u2 : ∀ j, j ≠ i → upd f i (f i ||| bit) j = f j := fun j hj => by simp [upd, hj]
  have v32 := on1_le (f i ||| bit)
  rw [ones_on]
  by_cases q : on1 (f i ||| bit) ≤ n
  · rw [if_pos ((nle (by omega) (by omega)).mpr q)]
    refine ⟨n, hn, rfl, fun j hj => ?_, ?_⟩
    · by_cases e : j = i
      · rw [e, u1]; exact q
      · rw [u2 j e]; exact b j hj
    · rcases c with c | ⟨j, hj, c⟩
      · exact Or.inl c
      · by_cases e : j = i
        · refine Or.inr ⟨i, hi, ?_⟩
          rw [u1]
          have := on1_or (f i) bit
          rw [e] at c
          omega
        · exact Or.inr ⟨j, hj, by rw [u2 j e]; exact c⟩
  · rw [if_neg (fun z => q ((nle (by omega) (by omega)).mp z))]
    refine ⟨on1 (f i ||| bit), v32, rfl, fun j hj => ?_, Or.inr ⟨i, hi, by rw [u1]⟩⟩
    by_cases e : j = i
    · rw [e, u1]; exact Nat.le_refl _
    · rw [u2 j e]; have := b j hj; omega
theorem lwT_y {C S : MS} {cnt k p : Nat} {sh : Nat → Nat} (h : Bo C S cnt sh k) {side : Nat} (hd : side < 4) (hp : p / 4 < cnt) : lwT C (nI side) p = if f_X8_isFit S (nI (p / 4)) (nI (p % 4)) then sgv S (nI side) (p / 4) (p % 4) else -1 := by
  unfold lwT sgv
  have h8 := h.1
  rw [h.2.1, if_neg (fun q => nlt_no (Q := False) (b := cnt) (by omega) hp q), fit_eq h hp (by omega), sight_nI' h hp (by omega) hd, turn_nI h hp (by omega)]
  cases f_X8_isFit S (nI (p / 4)) (nI (p % 4)) <;> rfl
theorem lwT_n {C S : MS} {cnt k p : Nat} {sh : Nat → Nat} (h : Bo C S cnt sh k) {side : Nat} (hp : cnt ≤ p / 4) (hq : p < 32) : lwT C (nI side) p = -1 := by
  unfold lwT
  have h8 := h.1
  rw [h.2.1, if_pos ((nle (by omega) (by omega)).mpr hp), if_neg (by decide)]
theorem nI_m1 {j : Nat} (h : j < 625) : ¬ (-1 : Int32) = nI j := fun q => by
  have := nI_pos (n := j) (by omega)
  rw [← q] at this
  exact this (by decide)
theorem wr_max {C S : MS} {cnt k : Nat} {sh : Nat → Nat} (h : Bo C S cnt sh k) {side : Nat} (hd : side < 4) : isMx (fun j => Bm (lwT C (nI side)) (4 * cnt) (nI j)) (f_X8_worstFrom S (nI side)) := by
  have h8 := h.1
  have c8 : (S.1 8 0).toNatClampNeg = cnt := by rw [h.2.2.1]; exact nI_clamp (by omega)
  let I : Nat → (Nat → Int32) × Int32 → Prop := fun m p => (∀ j, j < 625 → p.1 j = Bm (lwT C (nI side)) m (nI j)) ∧ isMx p.1 p.2
  have st : ∀ s t p, s < cnt → t < 4 → I (4 * s + t) p → I (4 * s + t + 1) (wrStep S (nI side) s t p) := by
    intro s t p hs ht ⟨h1, h2⟩
    obtain ⟨i, hi, e⟩ := sight_nI (f_X8_turned (S.1 9 s) (nI t)) (nI side)
    have e1 : sgv S (nI side) s t = nI i := e
    have d1 : (4 * s + t) / 4 = s := by omega
    have d2 : (4 * s + t) % 4 = t := by omega
    have eT := lwT_y h hd (p := 4 * s + t) (by omega)
    rw [d1, d2, e1] at eT
    unfold wrStep
    rw [e1, nI_clamp (show i < 2 ^ 31 by omega)]
    refine ⟨fun j hj => ?_, h2.step hi⟩
    rw [Bm_s, eT, d1]
    show upd p.1 i (p.1 i ||| wrBit S s t) j = _
    unfold wrBit
    by_cases q : j = i
    · subst q
      have : upd p.1 j (p.1 j ||| if f_X8_isFit S (nI s) (nI t) then ishl 1 (nI s) else 0) j = p.1 j ||| if f_X8_isFit S (nI s) (nI t) then ishl 1 (nI s) else 0 := by simp [upd]
      rw [this, h1 j hj]
      cases f_X8_isFit S (nI s) (nI t)
      · show _ ||| (0 : Int32) = if (-1 : Int32) = nI j then _ else _
        rw [if_neg (nI_m1 hj), Int32.or_zero]
      · exact (if_pos rfl).symm
    · have : upd p.1 i (p.1 i ||| if f_X8_isFit S (nI s) (nI t) then ishl 1 (nI s) else 0) j = p.1 j := by simp [upd, q]
      rw [this, h1 j hj]
      cases f_X8_isFit S (nI s) (nI t)
      · show _ = if (-1 : Int32) = nI j then _ else _
        rw [if_neg (nI_m1 hj)]
      · show _ = if nI i = nI j then _ else _
        rw [if_neg (fun z => q ((nI_eq (by omega) (by omega)).mp z).symm)]
  have w0 : ∀ j, j < 625 → wrC S j = 0 := fun j hj => wrC_0 hj
  have i0 : I (4 * 0) (wrC S, 0) := by
    generalize wrC S = g at w0
    refine ⟨fun j hj => w0 j hj, 0, Nat.zero_le 32, rfl, fun j hj => ?_, Or.inl rfl⟩
    show on1 (g j) ≤ 0
    rw [w0 j hj]; decide
  have key : I (4 * cnt) (wrP S (nI side)) := by
    unfold wrP
    rw [c8]
    refine itF_inv (N := cnt) (fun s p => I (4 * s) p) _ (fun s p hs hI => ?_) cnt 0 _ (Nat.zero_add cnt) i0
    refine itF_inv (N := 4) (fun t p => I (4 * s + t) p) _ (fun t p ht hI => ?_) 4 0 p rfl hI
    exact st s t p hs ht hI
  exact key.2.cong key.1
theorem lw_max {T : Nat → Int32} (hT : ∀ p, p < 32 → T p = -1 ∨ ∃ i, i < 625 ∧ T p = nI i) : isMx (fun j => Bm T 32 (nI j)) (lwV T) := by
  have key := itF_inv (N := 32) (fun m (w : Int32) => ∃ n, n ≤ 32 ∧ w = nI n ∧ (∀ p, p < m → ¬ T p = -1 → on1 (Bm T 32 (T p)) ≤ n) ∧ (n = 0 ∨ ∃ p, p < m ∧ ¬ T p = -1 ∧ n = on1 (Bm T 32 (T p)))) (fun p w => if T p = -1 then w else imax w (f_J6_bitCount_0f7a4 (tlB T (T p)))) (fun p w hp hI => ?_) 32 0 0 rfl ⟨0, by decide, rfl, fun p hp => absurd hp (Nat.not_lt_zero p), Or.inl rfl⟩
  · obtain ⟨n, hn, hw, b, c⟩ := key
    refine ⟨n, hn, hw, fun j hj => ?_, ?_⟩
    · by_cases q : Bm T 32 (nI j) = 0
      · show on1 (Bm T 32 (nI j)) ≤ n
        rw [q]; exact Nat.le_trans (by decide) (Nat.zero_le n)
      · obtain ⟨p, hp, e⟩ := Bm_ex 32 q
        have := b p hp (fun z => nI_m1 hj (z.symm.trans e))
        rwa [e] at this
    · rcases c with c | ⟨p, hp, c0, c⟩
      · exact Or.inl c
      · rcases hT p hp with e | ⟨i, hi, e⟩
        · exact absurd e c0
        · exact Or.inr ⟨i, hi, by show n = on1 (Bm T 32 (nI i)); rw [← e]; exact c⟩
  · obtain ⟨n, hn, rfl, b, c⟩ := hI
    by_cases q : T p = -1
    · rw [if_pos q]
      refine ⟨n, hn, rfl, fun p' hp' n' => ?_, ?_⟩
      · rcases Nat.lt_or_ge p' p with l | l
        · exact b p' l n'
        · exact absurd (by rw [show p' = p by omega]; exact q) n'
      · rcases c with c | ⟨p', hp', c⟩
        · exact Or.inl c
        · exact Or.inr ⟨p', by omega, c⟩
    · rw [if_neg q, ones_eq32, ones_on]
      have v32 := on1_le (tlB T (T p))
      have eB : tlB T (T p) = Bm T 32 (T p) := rfl
      unfold imax
      by_cases r : n < on1 (tlB T (T p))
      · rw [if_pos ((nlt (by omega) (by omega)).mpr r)]
        refine ⟨_, v32, rfl, fun p' hp' n' => ?_, Or.inr ⟨p, by omega, q, by rw [eB]⟩⟩
        rcases Nat.lt_or_ge p' p with l | l
        · have := b p' l n'; omega
        · rw [show p' = p by omega, eB]; exact Nat.le_refl _
      · rw [if_neg (fun z => r ((nlt (by omega) (by omega)).mp z))]
        refine ⟨n, hn, rfl, fun p' hp' n' => ?_, ?_⟩
        · rcases Nat.lt_or_ge p' p with l | l
          · exact b p' l n'
          · rw [show p' = p by omega, ← eB]; omega
        · rcases c with c | ⟨p', hp', c⟩
          · exact Or.inl c
          · exact Or.inr ⟨p', by omega, c⟩
theorem worst_eq {C S : MS} {cnt k : Nat} {sh : Nat → Nat} (h : Bo C S cnt sh k) {side : Nat} (hd : side < 4) : f_X8_worstFrom S (nI side) = lkL C side := by
  have h8 := h.1
  have hT : ∀ p, p < 32 → lwT C (nI side) p = -1 ∨ ∃ i, i < 625 ∧ lwT C (nI side) p = nI i := by
    intro p hp
    rcases Nat.lt_or_ge (p / 4) cnt with l | l
    · rw [lwT_y h hd l]
      obtain ⟨i, hi, e⟩ := sight_nI (f_X8_turned (S.1 9 (p / 4)) (nI (p % 4))) (nI side)
      cases f_X8_isFit S (nI (p / 4)) (nI (p % 4))
      · exact Or.inl rfl
      · exact Or.inr ⟨i, hi, e⟩
    · exact Or.inl (lwT_n h l hp)
  refine (wr_max h hd).uni ((lw_max hT).cong (fun j hj => ?_))
  have := Bm_no (T := lwT C (nI side)) (x := nI j) (32 - 4 * cnt) (4 * cnt) (fun p a b e => nI_m1 hj ((lwT_n h (by omega) (by omega)).symm.trans e))
  rw [show 4 * cnt + (32 - 4 * cnt) = 32 by omega] at this
  exact this
theorem lk_eq {C S : MS} {cnt k : Nat} {sh : Nat → Nat} (h : Bo C S cnt sh k) : lkP C = (nI (lkBest S), f_X8_worstFrom S (nI (lkBest S))) := by
  have st : ∀ side b, side < 4 → b < 4 → lkStepC C side (nI b, f_X8_worstFrom S (nI b)) = (nI (lkStep S side b), f_X8_worstFrom S (nI (lkStep S side b))) ∧ lkStep S side b < 4 := by
    intro side b hs hb
    unfold lkStepC lkStep
    rw [← worst_eq h hs]
    by_cases q : f_X8_worstFrom S (nI b) ≤ f_X8_worstFrom S (nI side)
    · rw [if_pos q, if_pos q]; exact ⟨rfl, hb⟩
    · rw [if_neg q, if_neg q]; exact ⟨rfl, hs⟩
  obtain ⟨e1, l1⟩ := st 1 0 (by decide) (by decide)
  obtain ⟨e2, l2⟩ := st 2 _ (by decide) l1
  obtain ⟨e3, l3⟩ := st 3 _ (by decide) l2
  show lkStepC C 3 (lkStepC C 2 (lkStepC C 1 (0, lkL C 0))) = (nI (lkStep S 3 (lkStep S 2 (lkStep S 1 0))), f_X8_worstFrom S (nI (lkStep S 3 (lkStep S 2 (lkStep S 1 0)))))
  rw [← worst_eq h (side := 0) (by decide)]
  rw [show ((0 : Int32), f_X8_worstFrom S (nI 0)) = (nI 0, f_X8_worstFrom S (nI 0)) from rfl, e1, e2, e3]
theorem v_look {C S : MS} {cnt k : Nat} {sh : Nat → Nat} (h : Bo C S cnt sh k) (x : Int32) : f_X7_look C x = f_X8_look S x := by
  unfold f_X7_look f_X8_look f_X8_lookOf f_X8_fitsOf
  rw [two_b, fp_eq h, lk_eq h]
  rfl
end
