section
theorem pr_lose (x1 : Int32) : Pr Value.int yX7_lose wsX7_lose 2 42 yX8_lose wsX8_lose 2 45 [.int x1] := by
  intro C M h ad ad'
  rcases shq_cases x1 with ⟨s, hs, rfl⟩ | ⟨n1, n2, n3⟩
  · have b1 := sh_y hs
    have cs : (nI s).toNatClampNeg = s := nI_clamp (by omega)
    have v4 : vp_in (nI s) 4 := vp_in_nI hs (by decide)
    have hp : p_X8_lose M (nI s) := fun _ => ⟨v4, fun _ => ⟨v4, v4⟩⟩
    obtain ⟨z, hz, e1, e2, e3, e4⟩ := h.P s hs
    rcases e4 with ⟨l1, f1⟩ | ⟨l0, f, hf, f0, cf⟩
    · refine ⟨(f_X7_found C 1), s_X7_found C 1, s_X8_met M 1, h.found 1, fun l D E a1 a2 => ?_, fun l D E a1 a2 => ?_⟩
      · show Fn l D E a1 a2 yX7_lose wsX7_lose 2 42 [.ref (ad 0), .int (nI s)] (cW E ad C) (some (.int (f_X7_found C 1))) (cW E ad (s_X7_found C 1))
        refine Fn.of (cc := cX7_lose) (maxL := 3) (ret := (some .int)) (own := RX7) (by decide) rfl rfl (sameC _ _ _ _) (Nat.le_of_ble_eq_true rfl) (fun X q1 q2 q3 q4 q5 K hE => ?_)
        subst q1 q2 q3 q4 q5
        refine r_X7_lose_0 K ad C (nI s) ⟨fun k hk e => ?_, fun q => absurd q (sh_b hs)⟩
        obtain rfl := sh_inj hs hk e
        exact ⟨fun q => absurd (l1.symm.trans q) (by decide), fun _ => hE⟩
      · refine (c_X8_lose l D E a1 a2 ad' M (nI s) hp).im ?_ ?_
        · rw [f_X8_lose, if_pos b1, cs, if_neg (by rw [f1]; decide)]; rfl
        · rw [s_X8_lose, if_pos b1, cs, if_neg (by rw [f1]; decide)]
    · have g0 : 0 ≤ M.1 0 s := by rw [f0]; exact nI_pos' (by omega)
      refine ⟨(nI z), pg C (32 + s) 0 1, pg M 0 s (-1), ?_, fun l D E a1 a2 => ?_, fun l D E a1 a2 => ?_⟩
      · refine h.sheets (fun k hk => pg_r (by omega)) rfl (fun k hk => pg_r (by omega)) (fun s' hs' => ?_) ?_
        · by_cases e : s' = s
          · subst e
            exact ⟨z, hz, by rw [pg_o (by omega)]; exact e1, by rw [pg_o (by decide)]; exact e2, fun i hi => by rw [pg_o (by decide), pg_o (by omega)]; exact e3 i hi, Or.inl ⟨pg_s, pg_s⟩⟩
          · exact (h.P s' hs').of (pg_r (by omega)) (pg_r (by omega)) (pg_r (by omega)) (pg_r (by omega)) (pg_n e) (pg_o (by decide)) (fun i _ => pg_o (by decide))
        · rw [pg_o (by omega), pg_o (by decide)]; exact h.L
      · show Fn l D E a1 a2 yX7_lose wsX7_lose 2 42 [.ref (ad 0), .int (nI s)] (cW E ad C) (some (.int (nI z))) (cW E ad (pg C (32 + s) 0 1))
        refine Fn.of (cc := cX7_lose) (maxL := 3) (ret := (some .int)) (own := RX7) (by decide) rfl rfl (sameC _ _ _ _) (Nat.le_of_ble_eq_true rfl) (fun X q1 q2 q3 q4 q5 K hE => ?_)
        subst q1 q2 q3 q4 q5
        refine r_X7_lose_0 K ad C (nI s) ⟨fun k hk e => ?_, fun q => absurd q (sh_b hs)⟩
        obtain rfl := sh_inj hs hk e
        refine ⟨fun _ => ?_, fun q => absurd l0 q⟩
        rw [pg_o (by omega), e1]; exact hE
      · refine (c_X8_lose l D E a1 a2 ad' M (nI s) hp).im ?_ ?_
        · rw [f_X8_lose, if_pos b1, cs, if_pos g0, e2]
        · rw [s_X8_lose, if_pos b1, cs, if_pos g0]
  · have b1 : ¬ f_X8_isSheet x1 = true := by rw [n1]; decide
    refine ⟨(-2), C, M, h, fun l D E a1 a2 => ?_, fun l D E a1 a2 => ?_⟩
    · show Fn l D E a1 a2 yX7_lose wsX7_lose 2 42 [.ref (ad 0), .int x1] (cW E ad C) (some (.int (-2))) (cW E ad C)
      refine Fn.of (cc := cX7_lose) (maxL := 3) (ret := (some .int)) (own := RX7) (by decide) rfl rfl (sameC _ _ _ _) (Nat.le_of_ble_eq_true rfl) (fun X q1 q2 q3 q4 q5 K hE => ?_)
      subst q1 q2 q3 q4 q5
      exact r_X7_lose_0 K ad C x1 ⟨fun k hk e => absurd ⟨k, hk, e⟩ n3, fun _ => hE⟩
    · refine (c_X8_lose l D E a1 a2 ad' M x1 (fun q => absurd q b1)).im ?_ ?_
      · rw [f_X8_lose, if_neg b1]
      · rw [s_X8_lose, if_neg b1]
theorem sz_b {z : Nat} (hz : z ≤ 64) (x : Int32) : f_X8_in x.toInt64 0 ((nI z - 1).toInt64) = f_X7_within x (nI z) := by
  cases z with
  | zero =>
    rw [show ((nI 0 - 1 : Int32)).toInt64 = -1 from by decide, within_no (n := 0) (by decide) (fun ⟨k, hk, _⟩ => absurd hk (Nat.not_lt_zero k))]
    unfold f_X8_in
    by_cases q : x.toInt64 < 0
    · rw [if_pos q]
    · rw [if_neg q, if_pos (Int64.lt_of_lt_of_le (by decide : (-1 : Int64) < 0) (Int64.not_lt.mp q))]
  | succ z =>
    rw [nI_pred, nI_l (by omega)]
    exact (in_b (by omega)).symm
def lkGood (C M : MS) (s : Nat) (x2 x3 : Int32) : Prop := ∃ i z, i < z ∧ z ≤ 64 ∧ x3 = nI i ∧ C.1 (28 + s) 0 = nI z ∧ x2 = C.1 (24 + s) 0 ∧ M.1 2 (64 * s + i) = C.1 (20 + s) i ∧ f_X4_hindrance C s x2 x3 = 0 ∧ f_X8_lacks M (nI s) x2 x3 = 0 ∧ s_X8_lacks M (nI s) x2 x3 = M
def lkBad (C M : MS) (s : Nat) (x2 x3 : Int32) : Prop := ∃ n, ¬ n = 0 ∧ ¬ f_X8_met M n = 0 ∧ f_X4_hindrance C s x2 x3 = n ∧ f_X8_lacks M (nI s) x2 x3 = f_X8_met M n ∧ s_X8_lacks M (nI s) x2 x3 = s_X8_met M n
theorem lk_cases {C M : MS} {s : Nat} (hs : s < 4) (h : RelP1 C M s) (x2 x3 : Int32) : lkGood C M s x2 x3 ∨ lkBad C M s x2 x3 := by
  have cs : (nI s).toNatClampNeg = s := nI_clamp (by omega)
  obtain ⟨z, hz, e1, e2, e3, e4⟩ := h
  rcases e4 with ⟨l1, f1⟩ | ⟨l0, f, hf, f0, cf⟩
  · refine Or.inr ⟨1, by decide, (by decide : ¬ ((-10 : Int32) - 1 = 0)), ?_, ?_, ?_⟩
    · rw [f_X4_hindrance, if_neg (by rw [l1]; decide)]
    · rw [f_X8_lacks, cs, if_neg (by rw [f1]; decide)]
    · rw [s_X8_lacks, cs, if_neg (by rw [f1]; decide)]
  · have g0 : 0 ≤ M.1 0 s := by rw [f0]; exact nI_pos' (by omega)
    by_cases q : x2 = nI f
    · have qc : x2 = C.1 (24 + s) 0 := q.trans cf.symm
      have qm : M.1 0 s = x2 := f0.trans q.symm
      by_cases w : f_X7_within x3 (nI z) = true
      · obtain ⟨i, hi, rfl⟩ := (within_iff (by omega)).mp w
        refine Or.inl ⟨i, z, hi, hz, rfl, e1, qc, e3 i hi, ?_, ?_, ?_⟩
        · rw [f_X4_hindrance, if_pos l0, if_pos qc, e1, if_pos w]
        · rw [f_X8_lacks, cs, if_pos g0, if_pos qm, e2, sz_b hz, if_pos w]
        · rw [s_X8_lacks, cs, if_pos g0, if_pos qm, e2, sz_b hz, if_pos w]
      · refine Or.inr ⟨2, by decide, (by decide : ¬ ((-10 : Int32) - 2 = 0)), ?_, ?_, ?_⟩
        · rw [f_X4_hindrance, if_pos l0, if_pos qc, e1, if_neg w]
        · rw [f_X8_lacks, cs, if_pos g0, if_pos qm, e2, sz_b hz, if_neg w]
        · rw [s_X8_lacks, cs, if_pos g0, if_pos qm, e2, sz_b hz, if_neg w]
    · have qc : ¬ x2 = C.1 (24 + s) 0 := fun t => q (t.trans cf)
      have qm : ¬ M.1 0 s = x2 := fun t => q (t.symm.trans f0)
      refine Or.inr ⟨3, by decide, (by decide : ¬ ((-10 : Int32) - 3 = 0)), ?_, ?_, ?_⟩
      · rw [f_X4_hindrance, if_pos l0, if_neg qc]
      · rw [f_X8_lacks, cs, if_pos g0, if_neg qm]
      · rw [s_X8_lacks, cs, if_pos g0, if_neg qm]
theorem put_eq {C : MS} {s i z : Nat} {v : Int32} (hi : i < z) (hz : z ≤ 64) (e : C.1 (28 + s) 0 = nI z) : s_X4_put C s (nI i) v = pg C (20 + s) i (f_X8_cut (C.1 (24 + s) 0) v) := by
  unfold s_X4_put f_X8_cut
  rw [e, if_pos (within_y (by omega) hi), if_pos (show nI i < 64 from (nI_lt (show i < 64 by omega) (by decide) : nI i < nI 64)), nI_clamp (by omega)]
  by_cases q : C.1 (24 + s) 0 = 0
  · rw [if_pos q, if_pos q]
  · rw [if_neg q, if_neg q]
    by_cases q1 : C.1 (24 + s) 0 = 1
    · rw [if_pos q1, if_pos q1]
    · rw [if_neg q1, if_neg q1]
theorem Rel.put {C M : MS} (h : Rel C M) {s i : Nat} (hs : s < 4) (hi : i < 64) (v : Int32) : Rel (pg C (20 + s) i v) (pg M 2 (64 * s + i) v) := by
  refine h.sheets (fun k hk => pg_r (by omega)) rfl (fun k hk => pg_r (by omega)) (fun s' hs' => ?_) ?_
  · by_cases e : s' = s
    · subst e
      obtain ⟨z, hz, e1, e2, e3, e4⟩ := h.P s' hs'
      refine ⟨z, hz, by rw [pg_o (by omega)]; exact e1, by rw [pg_o (by decide)]; exact e2, fun j hj => ?_, ?_⟩
      · by_cases q : j = i
        · subst q; rw [pg_s, pg_s]
        · rw [pg_n (by omega), pg_n q]; exact e3 j hj
      · rw [pg_o (by omega), pg_o (by decide), pg_o (by omega)]; exact e4
    · exact (h.P s' hs').of (pg_r (by omega)) (pg_r (by omega)) (pg_r (by omega)) (pg_r (by omega)) (pg_o (by decide)) (pg_o (by decide)) (fun j hj => pg_n (by omega))
  · rw [pg_o (by omega), pg_o (by decide)]; exact h.L
theorem ix64 (s i : Nat) : 64 * nI s + nI i = nI (64 * s + i) := by rw [show (64 : Int32) = nI 64 from rfl, pk_mul, nI_add]
theorem p_lay {C M : MS} {s : Nat} (hs : s < 4) (h : RelP1 C M s) (x2 x3 : Int32) : p_X8_lacks M (nI s) x2 x3 ∧ (f_X8_lacks M (nI s) x2 x3 = 0 → vp_in (64 * nI s + x3) 256) := by
  have v4 : vp_in (nI s) 4 := vp_in_nI hs (by decide)
  refine ⟨⟨v4, fun _ => ⟨v4, fun _ => v4⟩⟩, fun q => ?_⟩
  rcases lk_cases hs h x2 x3 with ⟨i, z, hi, hz, rfl, _⟩ | ⟨n, n0, m0, _, e, _⟩
  · rw [ix64]; exact vp_in_nI (by omega) (by decide)
  · exact absurd (e.symm.trans q) m0
theorem pr_lay (x1 x2 x3 x4 : Int32) : Pr Value.int yX7_lay wsX7_lay 2 43 yX8_lay wsX8_lay 2 48 [.int x1, .int x2, .int x3, .int x4] := by
  intro C M h ad ad'
  rcases shq_cases x1 with ⟨s, hs, rfl⟩ | ⟨n1, n2, n3⟩
  · have b1 := sh_y hs
    have hp : p_X8_lay M (nI s) x2 x3 x4 := fun _ _ => p_lay hs (h.P s hs) x2 x3
    by_cases h2 : f_X7_within x2 3 = true
    · have b2 : f_X8_in x2.toInt64 0 2 = true := by rw [← frm_b]; exact h2
      rcases lk_cases hs (h.P s hs) x2 x3 with ⟨i, z, hi, hz, e3, e28, e24, eit, hh, hl, hl2⟩ | ⟨n, n0, m0, hh, hl, hl2⟩
      · subst e3
        refine ⟨1, pg C (20 + s) i (f_X8_cut x2 x4), pg M 2 (64 * s + i) (f_X8_cut x2 x4), h.put hs (by omega) _, fun l D E a1 a2 => ?_, fun l D E a1 a2 => ?_⟩
        · show Fn l D E a1 a2 yX7_lay wsX7_lay 2 43 [.ref (ad 0), .int (nI s), .int x2, .int (nI i), .int x4] (cW E ad C) (some (.int 1)) (cW E ad (pg C (20 + s) i (f_X8_cut x2 x4)))
          refine Fn.of (cc := cX7_lay) (maxL := 7) (ret := (some .int)) (own := RX7) (by decide) rfl rfl (sameC _ _ _ _) (Nat.le_of_ble_eq_true rfl) (fun X q1 q2 q3 q4 q5 K hE => ?_)
          subst q1 q2 q3 q4 q5
          refine r_X7_lay_0 K ad C (nI s) x2 (nI i) x4 ⟨fun k hk e => ?_, fun q => absurd q (sh_b hs)⟩
          obtain rfl := sh_inj hs hk e
          refine ⟨fun _ => ⟨fun _ => ?_, fun q => absurd hh q⟩, fun q => by rw [h2] at q; cases q⟩
          rw [put_eq hi hz e28, ← e24]; exact hE
        · refine (c_X8_lay l D E a1 a2 ad' M (nI s) x2 (nI i) x4 hp).im ?_ ?_
          · rw [f_X8_lay, if_pos b1, if_pos b2, if_pos hl]
          · rw [s_X8_lay, if_pos b1, if_pos b2, if_pos hl, hl2, ix64, nI_clamp (by omega)]
      · refine ⟨(f_X7_found C n), s_X7_found C n, s_X8_met M n, h.found n, fun l D E a1 a2 => ?_, fun l D E a1 a2 => ?_⟩
        · show Fn l D E a1 a2 yX7_lay wsX7_lay 2 43 [.ref (ad 0), .int (nI s), .int x2, .int x3, .int x4] (cW E ad C) (some (.int (f_X7_found C n))) (cW E ad (s_X7_found C n))
          refine Fn.of (cc := cX7_lay) (maxL := 7) (ret := (some .int)) (own := RX7) (by decide) rfl rfl (sameC _ _ _ _) (Nat.le_of_ble_eq_true rfl) (fun X q1 q2 q3 q4 q5 K hE => ?_)
          subst q1 q2 q3 q4 q5
          refine r_X7_lay_0 K ad C (nI s) x2 x3 x4 ⟨fun k hk e => ?_, fun q => absurd q (sh_b hs)⟩
          obtain rfl := sh_inj hs hk e
          rw [hh]
          exact ⟨fun _ => ⟨fun q => absurd q n0, fun _ => hE⟩, fun q => by rw [h2] at q; cases q⟩
        · refine (c_X8_lay l D E a1 a2 ad' M (nI s) x2 x3 x4 hp).im ?_ ?_
          · rw [f_X8_lay, if_pos b1, if_pos b2, hl, if_neg m0]; rfl
          · rw [s_X8_lay, if_pos b1, if_pos b2, hl, if_neg m0, hl2]
    · have b2 : ¬ f_X8_in x2.toInt64 0 2 = true := by rw [← frm_b]; exact h2
      refine ⟨(-2), C, M, h, fun l D E a1 a2 => ?_, fun l D E a1 a2 => ?_⟩
      · show Fn l D E a1 a2 yX7_lay wsX7_lay 2 43 [.ref (ad 0), .int (nI s), .int x2, .int x3, .int x4] (cW E ad C) (some (.int (-2))) (cW E ad C)
        refine Fn.of (cc := cX7_lay) (maxL := 7) (ret := (some .int)) (own := RX7) (by decide) rfl rfl (sameC _ _ _ _) (Nat.le_of_ble_eq_true rfl) (fun X q1 q2 q3 q4 q5 K hE => ?_)
        subst q1 q2 q3 q4 q5
        refine r_X7_lay_0 K ad C (nI s) x2 x3 x4 ⟨fun k hk e => ?_, fun q => absurd q (sh_b hs)⟩
        exact ⟨fun q => absurd q h2, fun _ => hE⟩
      · refine (c_X8_lay l D E a1 a2 ad' M (nI s) x2 x3 x4 hp).im ?_ ?_
        · rw [f_X8_lay, if_pos b1, if_neg b2]
        · rw [s_X8_lay, if_pos b1, if_neg b2]
  · have b1 : ¬ f_X8_isSheet x1 = true := by rw [n1]; decide
    refine ⟨(-2), C, M, h, fun l D E a1 a2 => ?_, fun l D E a1 a2 => ?_⟩
    · show Fn l D E a1 a2 yX7_lay wsX7_lay 2 43 [.ref (ad 0), .int x1, .int x2, .int x3, .int x4] (cW E ad C) (some (.int (-2))) (cW E ad C)
      refine Fn.of (cc := cX7_lay) (maxL := 7) (ret := (some .int)) (own := RX7) (by decide) rfl rfl (sameC _ _ _ _) (Nat.le_of_ble_eq_true rfl) (fun X q1 q2 q3 q4 q5 K hE => ?_)
      subst q1 q2 q3 q4 q5
      exact r_X7_lay_0 K ad C x1 x2 x3 x4 ⟨fun k hk e => absurd ⟨k, hk, e⟩ n3, fun _ => hE⟩
    · refine (c_X8_lay l D E a1 a2 ad' M x1 x2 x3 x4 (fun q => absurd q b1)).im ?_ ?_
      · rw [f_X8_lay, if_neg b1]
      · rw [s_X8_lay, if_neg b1]
theorem item_eq {C : MS} {s i z : Nat} (hi : i < z) (hz : z ≤ 64) (e : C.1 (28 + s) 0 = nI z) : f_X4_item C s (nI i) = C.1 (20 + s) i := by
  unfold f_X4_item
  rw [e, if_pos (within_y (by omega) hi), if_neg (show ¬ (64 : Int32) ≤ nI i from fun q => nlt_no (Q := False) (b := 64) (a := i) (by decide) (by omega) q), nI_clamp (by omega)]
theorem pr_get (x1 x2 x3 : Int32) : Pr Value.int yX7_get wsX7_get 2 43 yX8_get wsX8_get 2 48 [.int x1, .int x2, .int x3] := by
  intro C M h ad ad'
  rcases shq_cases x1 with ⟨s, hs, rfl⟩ | ⟨n1, n2, n3⟩
  · have b1 := sh_y hs
    have hp : p_X8_get M (nI s) x2 x3 := fun _ _ => p_lay hs (h.P s hs) x2 x3
    by_cases h2 : f_X7_within x2 3 = true
    · have b2 : f_X8_in x2.toInt64 0 2 = true := by rw [← frm_b]; exact h2
      rcases lk_cases hs (h.P s hs) x2 x3 with ⟨i, z, hi, hz, e3, e28, e24, eit, hh, hl, hl2⟩ | ⟨n, n0, m0, hh, hl, hl2⟩
      · subst e3
        refine ⟨(C.1 (20 + s) i), C, M, h, fun l D E a1 a2 => ?_, fun l D E a1 a2 => ?_⟩
        · show Fn l D E a1 a2 yX7_get wsX7_get 2 43 [.ref (ad 0), .int (nI s), .int x2, .int (nI i)] (cW E ad C) (some (.int (C.1 (20 + s) i))) (cW E ad C)
          refine Fn.of (cc := cX7_get) (maxL := 6) (ret := (some .int)) (own := RX7) (by decide) rfl rfl (sameC _ _ _ _) (Nat.le_of_ble_eq_true rfl) (fun X q1 q2 q3 q4 q5 K hE => ?_)
          subst q1 q2 q3 q4 q5
          refine r_X7_get_0 K ad C (nI s) x2 (nI i) ⟨fun k hk e => ?_, fun q => absurd q (sh_b hs)⟩
          obtain rfl := sh_inj hs hk e
          refine ⟨fun _ => ⟨fun _ => ?_, fun q => absurd hh q⟩, fun q => by rw [h2] at q; cases q⟩
          rw [item_eq hi hz e28]; exact hE
        · refine (c_X8_get l D E a1 a2 ad' M (nI s) x2 (nI i) hp).im ?_ ?_
          · rw [f_X8_get, if_pos b1, if_pos b2, if_pos hl, hl2, ix64, nI_clamp (by omega), eit]
          · rw [s_X8_get, if_pos b1, if_pos b2, if_pos hl, hl2]
      · refine ⟨(-2147483648), s_X7_found C n, s_X8_met M n, h.found n, fun l D E a1 a2 => ?_, fun l D E a1 a2 => ?_⟩
        · show Fn l D E a1 a2 yX7_get wsX7_get 2 43 [.ref (ad 0), .int (nI s), .int x2, .int x3] (cW E ad C) (some (.int (-2147483648))) (cW E ad (s_X7_found C n))
          refine Fn.of (cc := cX7_get) (maxL := 6) (ret := (some .int)) (own := RX7) (by decide) rfl rfl (sameC _ _ _ _) (Nat.le_of_ble_eq_true rfl) (fun X q1 q2 q3 q4 q5 K hE => ?_)
          subst q1 q2 q3 q4 q5
          refine r_X7_get_0 K ad C (nI s) x2 x3 ⟨fun k hk e => ?_, fun q => absurd q (sh_b hs)⟩
          obtain rfl := sh_inj hs hk e
          rw [hh]
          exact ⟨fun _ => ⟨fun q => absurd q n0, fun _ => hE⟩, fun q => by rw [h2] at q; cases q⟩
        · refine (c_X8_get l D E a1 a2 ad' M (nI s) x2 x3 hp).im ?_ ?_
          · rw [f_X8_get, if_pos b1, if_pos b2, hl, if_neg m0]
          · rw [s_X8_get, if_pos b1, if_pos b2, hl, if_neg m0, hl2]
    · have b2 : ¬ f_X8_in x2.toInt64 0 2 = true := by rw [← frm_b]; exact h2
      refine ⟨(-2147483648), C, M, h, fun l D E a1 a2 => ?_, fun l D E a1 a2 => ?_⟩
      · show Fn l D E a1 a2 yX7_get wsX7_get 2 43 [.ref (ad 0), .int (nI s), .int x2, .int x3] (cW E ad C) (some (.int (-2147483648))) (cW E ad C)
        refine Fn.of (cc := cX7_get) (maxL := 6) (ret := (some .int)) (own := RX7) (by decide) rfl rfl (sameC _ _ _ _) (Nat.le_of_ble_eq_true rfl) (fun X q1 q2 q3 q4 q5 K hE => ?_)
        subst q1 q2 q3 q4 q5
        refine r_X7_get_0 K ad C (nI s) x2 x3 ⟨fun k hk e => ?_, fun q => absurd q (sh_b hs)⟩
        exact ⟨fun q => absurd q h2, fun _ => hE⟩
      · refine (c_X8_get l D E a1 a2 ad' M (nI s) x2 x3 hp).im ?_ ?_
        · rw [f_X8_get, if_pos b1, if_neg b2]
        · rw [s_X8_get, if_pos b1, if_neg b2]
  · have b1 : ¬ f_X8_isSheet x1 = true := by rw [n1]; decide
    refine ⟨(-2147483648), C, M, h, fun l D E a1 a2 => ?_, fun l D E a1 a2 => ?_⟩
    · show Fn l D E a1 a2 yX7_get wsX7_get 2 43 [.ref (ad 0), .int x1, .int x2, .int x3] (cW E ad C) (some (.int (-2147483648))) (cW E ad C)
      refine Fn.of (cc := cX7_get) (maxL := 6) (ret := (some .int)) (own := RX7) (by decide) rfl rfl (sameC _ _ _ _) (Nat.le_of_ble_eq_true rfl) (fun X q1 q2 q3 q4 q5 K hE => ?_)
      subst q1 q2 q3 q4 q5
      exact r_X7_get_0 K ad C x1 x2 x3 ⟨fun k hk e => absurd ⟨k, hk, e⟩ n3, fun _ => hE⟩
    · refine (c_X8_get l D E a1 a2 ad' M x1 x2 x3 (fun q => absurd q b1)).im ?_ ?_
      · rw [f_X8_get, if_neg b1]
      · rw [s_X8_get, if_neg b1]
end
