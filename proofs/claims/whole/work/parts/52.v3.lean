section
/-! straight lines -/
theorem cfree_iff {C : MS} (x : Int32) : f_X1_isFree C x = true ↔ ∃ c, c < 64 ∧ x = nI c ∧ frC C c = true := by
  unfold f_X1_isFree
  by_cases q : ∃ c, c < 64 ∧ x = nI c
  · obtain ⟨c, hc, rfl⟩ := q
    rw [has_eq hc]
    refine ⟨fun e => ⟨c, hc, rfl, e⟩, fun ⟨c', hc', e, f⟩ => ?_⟩
    rw [(nI_eq (by omega) (by omega)).mp e]; exact f
  · rw [has_no q]
    exact ⟨fun e => (by cases e), fun ⟨c', hc', e, f⟩ => absurd ⟨c', hc', e⟩ q⟩
theorem mfree_iff {C S : MS} {cnt k : Nat} {sh : Nat → Nat} (h : Bo C S cnt sh k) (x : Int32) : f_X8_isFree S x = true ↔ ∃ c, c < 64 ∧ x = nI c ∧ frC C c = true := by
  unfold f_X8_isFree f_X8_isPlace
  by_cases q : ∃ c, c < 64 ∧ x = nI c
  · obtain ⟨c, hc, rfl⟩ := q
    rw [if_pos (show f_X8_in (nI c).toInt64 0 63 = true from (in_nI (m := 63) (by decide)).mpr ⟨c, by omega, rfl⟩), nI_clamp (by omega)]
    have f := free10 h hc
    constructor
    · intro e
      refine ⟨c, hc, rfl, ?_⟩
      by_cases z : S.1 10 c = 0
      · rw [if_pos z] at e; cases e
      · cases w : frC C c
        · exact absurd (f.mpr w) z
        · rfl
    · rintro ⟨c', hc', e, w⟩
      obtain rfl := (nI_eq (by omega) (by omega)).mp e
      rw [if_neg (fun z => by rw [f.mp z] at w; cases w)]
  · rw [if_neg (show ¬ f_X8_in x.toInt64 0 63 = true from fun z => q (by obtain ⟨c, hc, e⟩ := (in_nI (m := 63) (by decide)).mp z; exact ⟨c, by omega, e⟩))]
    exact ⟨fun e => (by cases e), fun ⟨c', hc', e, f⟩ => absurd ⟨c', hc', e⟩ q⟩
theorem free_b {C S : MS} {cnt k : Nat} {sh : Nat → Nat} (h : Bo C S cnt sh k) (x : Int32) : f_X1_isFree C x = f_X8_isFree S x := by
  rw [Bool.eq_iff_iff, cfree_iff, mfree_iff h]
theorem p_free (S : MS) (x : Int32) : p_X8_isFree S x := fun q => by
  obtain ⟨c, hc, rfl⟩ := (in_nI (m := 63) (by decide)).mp q
  exact vp_in_nI (by omega) (by decide)
theorem view_v {C S : MS} {cnt k c : Nat} {sh : Nat → Nat} (h : Bo C S cnt sh k) (hc : c < 64) : f_J13_bitCount_95d88 (f_X1_viewFrom C (nI c)) = f_X8_viewOf S (nI c) := by
  unfold f_X1_viewFrom f_X8_viewOf f_X8_echo
  rw [nI_clamp (by omega), view_cnt hc, fr_b h]
  show _ = (((nI 1 + nI (echoN (frC C) c 0)) + nI (echoN (frC C) c 1)) + nI (echoN (frC C) c 2)) + nI (echoN (frC C) c 3)
  rw [nI_add, nI_add, nI_add, nI_add]
theorem v_view {C S : MS} {cnt k : Nat} {sh : Nat → Nat} (h : Bo C S cnt sh k) (x : Int32) : f_X7_view C x = f_X8_view S x := by
  unfold f_X7_view f_X8_view
  rw [free_b h]
  by_cases q : f_X8_isFree S x = true
  · obtain ⟨c, hc, rfl, _⟩ := (mfree_iff h x).mp q
    rw [if_pos q, if_pos q, view_v h hc]
  · rw [if_neg q, if_neg q]
theorem v_sees {C S : MS} {cnt k : Nat} {sh : Nat → Nat} (h : Bo C S cnt sh k) (x y : Int32) : f_X7_sees C x y = f_X8_sees S x y := by
  unfold f_X7_sees f_X8_sees
  rw [free_b h, free_b h]
  by_cases q : f_X8_isFree S x = true
  · rw [if_pos q, if_pos q]
    by_cases r : f_X8_isFree S y = true
    · rw [if_pos r, if_pos r]
      obtain ⟨c, hc, rfl, _⟩ := (mfree_iff h x).mp q
      obtain ⟨d, hd, rfl, _⟩ := (mfree_iff h y).mp r
      unfold f_X1_viewFrom f_X8_stepsTo
      rw [has_eq hd, nI_clamp (show c < 2 ^ 31 by omega), nI_clamp (show d < 2 ^ 31 by omega), fr_b h]
      have e1 := vwF_tb (fr := frC C) hc hd
      have e2 := steps_m1 (fr := frC C) hc hd
      by_cases z : seenN (frC C) c d
      · rw [e1.mpr z, if_neg (fun w => e2.mp w z)]; rfl
      · rw [if_neg (fun w => z (e1.mp w)), if_pos (e2.mpr z)]; rfl
    · rw [if_neg r, if_neg r]
  · rw [if_neg q, if_neg q]
/-! the fewest watchers -/
theorem or_bits (P : Nat → Bool) : ∀ d, d < 64 → tbL (itF (fun c a => a ||| (if P c then lshl 1 (nI c) else 0)) 0 64 0) d = P d := by
  have key := itF_inv (N := 64) (fun m (v : Int64) => ∀ d, d < 64 → tbL v d = (decide (d < m) && P d)) (fun c a => a ||| (if P c then lshl 1 (nI c) else 0)) (fun m v hm hI => ?_) 64 0 0 rfl (fun d hd => by rw [tbL_0]; simp)
  · intro d hd
    rw [key d hd, decide_eq_true hd, Bool.true_and]
  · intro d hd
    rw [tbL_or, hI d hd]
    by_cases e : d = m
    · subst e
      rw [decide_eq_false (Nat.lt_irrefl d), decide_eq_true (Nat.lt_succ_self d)]
      cases P d
      · rw [if_neg (by decide), tbL_0]; rfl
      · rw [if_pos rfl, tbL_bit hm, decide_eq_true rfl]; rfl
    · have : decide (d < m) = decide (d < m + 1) := by
        by_cases l : d < m
        · rw [decide_eq_true l, decide_eq_true (by omega)]
        · rw [decide_eq_false l, decide_eq_false (by omega)]
      rw [this]
      cases P m
      · rw [if_neg (by decide), tbL_0, Bool.or_false]
      · rw [if_pos rfl, tbL_bit hm, decide_eq_false e, Bool.or_false]
theorem all_eq {C S : MS} {cnt k : Nat} {sh : Nat → Nat} (h : Bo C S cnt sh k) : allS S = C.2 1 0 := by
  refine tbL_ext (fun d hd => ?_)
  have e : allS S = itF (fun c a => a ||| (if frC C c then lshl 1 (nI c) else 0)) 0 64 0 := by
    unfold allS
    refine itF_cong (N := 64) (fun c a hc => ?_) 64 0 0 rfl
    have f := free10 h hc
    cases w : frC C c
    · rw [if_pos (f.mpr w), if_neg (by decide)]
    · rw [if_neg (fun z => by rw [f.mp z] at w; cases w), if_pos rfl]
  rw [e, or_bits (frC C) d hd]; rfl
theorem vw_eq {C S : MS} {cnt k c : Nat} {sh : Nat → Nat} (h : Bo C S cnt sh k) (hc : c < 64) : vwS S c = vwC C c := by
  have f := free10 h hc
  unfold vwS vwC
  cases w : frC C c
  · rw [if_pos (f.mpr w), if_neg (by decide)]
  · rw [if_neg (fun z => by rw [f.mp z] at w; cases w), if_pos rfl]
    refine tbL_ext (fun d hd => ?_)
    have e : itF (fun d a => a ||| vwBit S c d) 0 64 0 = itF (fun d a => a ||| (if tbL (vwF (frC C) c) d then lshl 1 (nI d) else 0)) 0 64 0 := by
      refine itF_cong (N := 64) (fun d a hd => ?_) 64 0 0 rfl
      have g := free10 h hd
      have e1 := vwF_tb (fr := frC C) hc hd
      have e2 := steps_m1 (fr := frC C) hc hd
      unfold vwBit f_X8_stepsTo
      rw [nI_clamp (show c < 2 ^ 31 by omega), nI_clamp (show d < 2 ^ 31 by omega), fr_b h]
      by_cases z : seenN (frC C) c d
      · rw [if_neg (fun q => by rw [seen_free hc z w] at g; exact absurd (g.mp q) (by decide)), if_neg (fun q => e2.mp q z), if_pos (e1.mpr z)]
      · rw [if_pos (e2.mpr z), if_neg (fun q => z (e1.mp q))]
        by_cases q : S.1 10 d = 0
        · rw [if_pos q]
        · rw [if_neg q]
    rw [e, or_bits _ d hd]
theorem srch_none {P : Nat → Bool} : ∀ (k i : Nat), srch P k i = none → ∀ j, i ≤ j → j < i + k → P j = false
  | 0, i, _, j, a, b => by omega
  | k + 1, i, h, j, a, b => by
    unfold srch at h
    cases e : P i
    · rw [e, if_neg (by decide)] at h
      rcases Nat.lt_or_ge i j with l | l
      · exact srch_none k (i + 1) h j (by omega) (by omega)
      · rw [show j = i by omega]; exact e
    · rw [e, if_pos rfl] at h; cases h
theorem pairs_eq {g : Nat → Int32} {vw : Nat → Int64} {all : Int64} (h1 : ∀ c, c < 64 → ¬ vw c = all) (h0 : ∀ c, c < 64 → g c = 0 → vw c = 0) : ∀ (k c : Nat), c + k ≤ 64 → pairs g vw all k c = pairsC vw all k c
  | 0, _, _ => rfl
  | k + 1, c, hk => by
    have e : ∀ d, d < 64 → two1 g vw all c d = two2 vw all c d := fun d hd => by
      unfold two1 two2
      by_cases z : g c = 0
      · rw [decide_eq_false (fun q => q z), h0 c (by omega) z, Int64.zero_or, decide_eq_false (h1 d hd)]; rfl
      · rw [decide_eq_true z]
        by_cases y : g d = 0
        · rw [decide_eq_false (fun q => q y), h0 d hd y, Int64.or_zero, decide_eq_false (h1 c (by omega))]; rfl
        · rw [decide_eq_true y]; rfl
    unfold pairs pairsC
    rw [srch_congr (64 - (c + 1)) (c + 1) (fun j a b => e j (by omega)), pairs_eq h1 h0 k (c + 1) (by omega)]
    cases srch (two2 vw all c) (64 - (c + 1)) (c + 1) <;> rfl
theorem v_watchers {C S : MS} {cnt k : Nat} {sh : Nat → Nat} (h : Bo C S cnt sh k) (x : Int32) : f_X7_watchers C x = f_X8_watchers S x := by
  unfold f_X7_watchers f_X8_watchers
  rw [frm_b]
  by_cases q : f_X8_in x.toInt64 0 2 = true
  · rw [if_pos q, if_pos q]
    unfold f_X8_watchersOf
    rw [watA_congr (fun c hc => vw_eq h hc), all_eq h]
    unfold watA wtC
    by_cases a0 : C.2 1 0 = 0
    · rw [if_pos a0, if_pos a0]
      by_cases x0 : x = 0
      · rw [if_pos x0, if_pos x0]
      · rw [if_neg x0, if_neg x0]
        by_cases x1 : x = 1
        · rw [if_pos x1]
        · rw [if_neg x1]
    · rw [if_neg a0, if_neg a0]
      cases e : srch (one1 (vwC C) (C.2 1 0)) 64 0 with
      | some c => rfl
      | none =>
        have n1 : ∀ c, c < 64 → ¬ vwC C c = C.2 1 0 := fun c hc w => by
          have := srch_none 64 0 e c (Nat.zero_le c) (by omega)
          unfold one1 at this
          rw [decide_eq_true w] at this
          cases this
        have n0 : ∀ c, c < 64 → S.1 10 c = 0 → vwC C c = 0 := fun c hc w => by
          unfold vwC
          rw [(free10 h hc).mp w, if_neg (by decide)]
        dsimp only
        rw [pairs_eq n1 n0 64 0 (by decide)]
        cases pairsC (vwC C) (C.2 1 0) 64 0 with
        | some p => rfl
        | none =>
          dsimp only
          by_cases x0 : x = 0
          · rw [if_pos x0]
          · rw [if_neg x0]
            by_cases x1 : x = 1
            · rw [if_pos x1]
            · rw [if_neg x1]
  · rw [if_neg q, if_neg q]
/-! echoes -/
def optE (b : Int32) : Option Nat → Int32
  | some c => nI c
  | none => b
theorem ecC_go (hit : Nat → Bool) : ∀ (k i m : Nat) (b : Int32), m + k < 2 ^ 31 → itF (fun c (p : Int32 × Int32) => if hit c then (p.1 + 1, if p.1 = 0 then nI c else p.2) else p) i k (nI m, b) = (nI (m + sumB hit k i), if m = 0 then optE b (srch hit k i) else b)
  | 0, i, m, b, _ => by
    show (nI m, b) = _
    unfold sumB srch optE
    rw [ite_self]
    rfl
  | k + 1, i, m, b, h => by
    show itF _ (i + 1) k (if hit i then (nI m + 1, if nI m = 0 then nI i else b) else (nI m, b)) = _
    unfold sumB srch
    cases e : hit i
    · rw [if_neg Bool.false_ne_true, if_neg Bool.false_ne_true, ecC_go hit k (i + 1) m b (by omega)]
      rw [show false.toNat = 0 from rfl, Nat.zero_add]
    · rw [if_pos rfl, if_pos rfl, nI_1, ecC_go hit k (i + 1) (m + 1) _ (by omega), if_neg (by omega)]
      rw [show true.toNat = 1 from rfl, Nat.add_assoc]
      by_cases z : m = 0
      · subst z
        rw [if_pos (show nI 0 = 0 from rfl), if_pos rfl]; rfl
      · rw [if_neg (nI_ne0 (by omega) (by omega)), if_neg z]
theorem ecM_go (hit : Nat → Bool) : itF (fun i (p : Int32 × Int32) => if hit (63 - i) then (p.1 + 1, nI (63 - i)) else p) 0 64 (0, -1) = (nI (sumB hit 64 0), optE (-1) (srch hit 64 0)) := by
  have key := itF_inv (N := 64) (fun i (p : Int32 × Int32) => p = (nI (sumB hit i (64 - i)), optE (-1) (srch hit i (64 - i)))) (fun i (p : Int32 × Int32) => if hit (63 - i) then (p.1 + 1, nI (63 - i)) else p) (fun i p hi hI => ?_) 64 0 ((0 : Int32), (-1 : Int32)) rfl rfl
  · exact key
  · show (if hit (63 - i) then (p.1 + 1, nI (63 - i)) else p) = (nI (sumB hit (i + 1) (64 - (i + 1))), optE (-1) (srch hit (i + 1) (64 - (i + 1))))
    rw [show 64 - (i + 1) = 63 - i by omega]
    unfold sumB srch
    rw [show 63 - i + 1 = 64 - i by omega, hI]
    cases e : hit (63 - i)
    · rw [if_neg (by decide), if_neg (by decide), show false.toNat = 0 from rfl, Nat.zero_add]
    · rw [if_pos rfl, if_pos rfl, show true.toNat = 1 from rfl]
      show (nI (sumB hit i (64 - i)) + 1, nI (63 - i)) = (nI (1 + sumB hit i (64 - i)), nI (63 - i))
      rw [nI_1, Nat.add_comm]
theorem told_b (x : Int32) : f_X7_isEcho x = f_X8_isTold x := by
  unfold f_X7_isEcho f_X8_isTold
  by_cases q : x = -1
  · subst q; rw [if_pos rfl]; decide
  · rw [if_neg q, show f_X7_within x 8 = f_X8_in x.toInt64 0 7 from in_b (m := 7) (by decide)]
    unfold f_X8_in
    have e : x.toInt64 < -1 ↔ x.toInt64 < 0 := by
      rw [Int64.lt_iff_toInt_lt, Int64.lt_iff_toInt_lt, Int32.toInt_toInt64, show (-1 : Int64).toInt = -1 from by decide, show (0 : Int64).toInt = 0 from by decide]
      have : x.toInt ≠ -1 := fun z => q (Int32.toInt_inj.mp (by rw [z]; decide))
      omega
    by_cases w : x.toInt64 < 0
    · rw [if_pos w, if_pos (e.mpr w)]; rfl
    · rw [if_neg w, if_neg (fun z => w (e.mp z))]
      by_cases v : (7 : Int64) < x.toInt64 <;> simp [v]
theorem ech_b {C S : MS} {cnt k : Nat} {sh : Nat → Nat} (h : Bo C S cnt sh k) (c w : Nat) (x : Int32) : f_X1_echoesWell C (nI c) (nI w) x = f_X8_isEcho S (nI c) (nI w) x := by
  unfold f_X1_echoesWell f_X8_isEcho f_X1_freeAhead f_X8_echo
  rw [fr_b h]
  by_cases q : x = -1
  · rw [if_pos q, if_pos q]
  · rw [if_neg q, if_neg q]
    by_cases e : x = nI (echoN (frC C) (nI c).toNatClampNeg (nI w).toNatClampNeg)
    · rw [if_pos e, if_pos e.symm]
    · rw [if_neg e, if_neg (fun z => e z.symm)]
theorem hit_b {C S : MS} {cnt k c : Nat} {sh : Nat → Nat} (h : Bo C S cnt sh k) (hc : c < 64) (u r d l : Int32) : hitC C u r d l c = hitE S u r d l c := by
  unfold hitC hitE
  rw [show f_X1_echoesWell C (nI c) 0 u = f_X8_isEcho S (nI c) 0 u from ech_b h c 0 u, show f_X1_echoesWell C (nI c) 1 r = f_X8_isEcho S (nI c) 1 r from ech_b h c 1 r, show f_X1_echoesWell C (nI c) 2 d = f_X8_isEcho S (nI c) 2 d from ech_b h c 2 d, show f_X1_echoesWell C (nI c) 3 l = f_X8_isEcho S (nI c) 3 l from ech_b h c 3 l]
  congr 1
  unfold f_X1_isFree
  rw [has_eq hc]
  have f := free10 h hc
  show frC C c = _
  cases w : frC C c
  · rw [decide_eq_false (fun z => z (f.mpr w))]
  · rw [decide_eq_true (show ¬ S.1 10 c = 0 from fun z => by rw [f.mp z] at w; cases w)]
theorem ecP_eq {C S : MS} {cnt k : Nat} {sh : Nat → Nat} (h : Bo C S cnt sh k) (u r d l : Int32) : ecPC C u r d l = ecP S u r d l := by
  have e1 : ecPC C u r d l = (nI (sumB (hitC C u r d l) 64 0), optE (-1) (srch (hitC C u r d l) 64 0)) := by
    have := ecC_go (hitC C u r d l) 64 0 0 (-1) (by decide)
    rw [Nat.zero_add, if_pos rfl] at this
    exact this
  have e2 : ecP S u r d l = (nI (sumB (hitE S u r d l) 64 0), optE (-1) (srch (hitE S u r d l) 64 0)) := ecM_go (hitE S u r d l)
  rw [e1, e2, sumB_cong 64 0 (fun j _ hj => hit_b h (by omega) u r d l), srch_congr 64 0 (fun j _ hj => hit_b h (by omega) u r d l)]
theorem v_echoes {C S : MS} {cnt k : Nat} {sh : Nat → Nat} (h : Bo C S cnt sh k) (u r d l w : Int32) : f_X7_echoes C u r d l w = f_X8_echoes S u r d l w := by
  unfold f_X7_echoes f_X8_echoes f_X8_echoesOf echOK
  rw [told_b, told_b, told_b, told_b, two_b, ecP_eq h]
  cases f_X8_isTold u <;> cases f_X8_isTold r <;> cases f_X8_isTold d <;> cases f_X8_isTold l <;> cases f_X8_isTwo w <;> rfl
/-! fog -/
theorem sb_dst : ∀ c, c < 64 → ∀ d, d < 64 → f_X1_stepsBetween (nI c) (nI d) = nI (dst c d) := by decide +kernel
theorem seen_7 {fr : Nat → Bool} {c d : Nat} (hc : c < 64) (h : seenN fr c d) : dst c d ≤ 7 := by
  obtain ⟨way, hw, k, hk, e⟩ := h
  rw [onR_dst hc hk e]
  exact Nat.le_trans hk (Nat.le_trans (echo_room hc) (roomW_le hc))
theorem fog_v {C S : MS} {cnt k c d z : Nat} {sh : Nat → Nat} (h : Bo C S cnt sh k) (hc : c < 64) (hd : d < 64) (hz : z ≤ 16) (w : Int32) : fogC C c d z w = f_X8_fogOf S (nI c) (nI d) (nI z) w := by
  unfold fogC f_X8_fogOf f_X8_stepsTo
  rw [nI_clamp (show c < 2 ^ 31 by omega), nI_clamp (show d < 2 ^ 31 by omega), fr_b h, sb_dst c hc d hd]
  have e1 := vwF_tb (fr := frC C) hc hd
  obtain ⟨s1, s2⟩ := steps_val (fr := frC C) (d := d) hc
  by_cases q : seenN (frC C) c d
  · have l7 := seen_7 hc q
    rw [if_pos (e1.mpr q), s1 q, nI_clamp (by omega)]
    rcases fog_nums hz (st := nI (dst c d)) (Or.inr ⟨dst c d, by omega, rfl⟩) with ⟨e, _⟩ | ⟨s, hs, e, a, b⟩
    · exact absurd e.symm (nI_m1 (by omega))
    · rw [a, b, (nI_eq (by omega) (by omega)).mp e]
  · rw [if_neg (fun t => q (e1.mp t)), s2 q]
    rcases fog_nums hz (st := -1) (Or.inl rfl) with ⟨_, a, b⟩ | ⟨s, hs, e, _⟩
    · rw [a, b]
      unfold f_X8_part
      by_cases w0 : w = 0
      · rw [if_pos w0, if_pos w0]; decide
      · rw [if_neg w0, if_neg w0]; decide
    · exact absurd e (nI_m1 (by omega))
theorem fog_c {C S : MS} {cnt k : Nat} {sh : Nat → Nat} (h : Bo C S cnt sh k) (ad : Nat → Nat) (x y z w : Int32) (l : Launch) (D : va_G) (E : Nat → ClassId) (a1 a2 : Nat) : Fn l D E a1 a2 yX7_fog wsX7_fog 3 75 [.ref (ad 0), .int x, .int y, .int z, .int w] (cW E ad C) (some (.long (f_X8_fog S x y z w))) (cW E ad C) := by
  have b3 : f_X7_within z 17 = f_X8_in z.toInt64 0 16 := in_b (m := 16) (by decide)
  unfold f_X8_fog
  rw [← free_b h, ← free_b h, ← b3, ← two_b]
  by_cases q1 : f_X1_isFree C x = true
  · by_cases q2 : f_X1_isFree C y = true
    · by_cases q3 : f_X7_within z 17 = true
      · by_cases q4 : f_X7_within w 2 = true
        · rw [if_pos q1, if_pos q2, if_pos q3, if_pos q4]
          obtain ⟨c, hc, rfl, f1⟩ := (cfree_iff x).mp q1
          obtain ⟨d, hd, rfl, f2⟩ := (cfree_iff y).mp q2
          obtain ⟨i, hi, rfl⟩ := (within_iff (n := 17) (by decide)).mp q3
          rw [← fog_v h hc hd (show i ≤ 16 by omega)]
          exact c_X7_fog l D E a1 a2 ad C hc hd (by omega) f1 f2 w q4 (fun t => ⟨dst c d, seen_7 hc ((vwF_tb hc hd).mp t), sb_dst c hc d hd⟩)
        · rw [if_pos q1, if_pos q2, if_pos q3, if_neg q4]
          exact c_X7_fogB l D E a1 a2 ad C x y z w (Or.inr (Or.inr (Or.inr (by cases e : f_X7_within w 2 <;> first | rfl | exact absurd e q4))))
      · rw [if_pos q1, if_pos q2, if_neg q3]
        exact c_X7_fogB l D E a1 a2 ad C x y z w (Or.inr (Or.inr (Or.inl (by cases e : f_X7_within z 17 <;> first | rfl | exact absurd e q3))))
    · rw [if_pos q1, if_neg q2]
      exact c_X7_fogB l D E a1 a2 ad C x y z w (Or.inr (Or.inl (by cases e : f_X1_isFree C y <;> first | rfl | exact absurd e q2)))
  · rw [if_neg q1]
    exact c_X7_fogB l D E a1 a2 ad C x y z w (Or.inl (by cases e : f_X1_isFree C x <;> first | rfl | exact absurd e q1))
end
