section
/-! copy, write, read -/
theorem nn_nI {x : Int32} (h : ¬ x < 0) : ∃ i, i < 2 ^ 31 ∧ x = nI i := by
  have a0 : (0 : Int) ≤ x.toInt := by simpa using Int32.le_iff_toInt_le.mp (Int32.not_lt.mp h)
  have a1 : x.toInt < 2 ^ 31 := Int32.toInt_lt x
  refine ⟨x.toInt.toNat, by omega, Int32.toInt_inj.mp ?_⟩
  show x.toInt = (Int32.ofNat x.toInt.toNat).toInt
  rw [Int32.toInt_ofNat_of_lt (by omega)]
  omega
theorem holds_iff {C : MS} {s z : Nat} (e : C.1 (28 + s) 0 = nI z) (hz : z ≤ 64) (x y : Int32) : f_X4_holds C s x y = true ↔ ∃ i n, x = nI i ∧ y = nI n ∧ i + n ≤ z := by
  unfold f_X4_holds
  rw [e]
  constructor
  · intro h
    by_cases q1 : x < 0
    · rw [if_pos q1] at h; cases h
    · rw [if_neg q1] at h
      by_cases q2 : y < 0
      · rw [if_pos q2] at h; cases h
      · rw [if_neg q2] at h
        obtain ⟨i, hi, rfl⟩ := nn_nI q1
        obtain ⟨n, hn, rfl⟩ := nn_nI q2
        by_cases q3 : nI z < nI i
        · rw [if_pos q3] at h; cases h
        · rw [if_neg q3] at h
          have l : i ≤ z := by
            rcases Nat.lt_or_ge z i with w | w
            · exact absurd ((nlt (by omega) hi).mpr w) q3
            · exact w
          by_cases q4 : nI z - nI i < nI n
          · rw [if_pos q4] at h; cases h
          · refine ⟨i, n, rfl, rfl, ?_⟩
            have es : nI z - nI i = nI (z - i) := by
              have : nI z = nI (z - i) + nI i := by rw [nI_add]; exact congrArg nI (by omega)
              rw [this, Int32.add_sub_cancel]
            rcases Nat.lt_or_ge (z - i) n with w | w
            · exact absurd (by rw [es]; exact (nlt (by omega) hn).mpr w) q4
            · omega
  · rintro ⟨i, n, rfl, rfl, h⟩
    have es : nI z - nI i = nI (z - i) := by
      have : nI z = nI (z - i) + nI i := by rw [nI_add]; exact congrArg nI (by omega)
      rw [this, Int32.add_sub_cancel]
    rw [if_neg (nI_pos (by omega)), if_neg (nI_pos (by omega)), if_neg (nI_nlt (by omega) (by omega)), es, if_neg (nI_nlt (by omega) (by omega))]
def cpI (z z' : Nat) (x2 x4 x5 : Int32) : Int32 := if x2 < 0 then 2 else (if x4 < 0 then 2 else (if x5 < 0 then 2 else (if (nI z).toInt64 < x2.toInt64 + x5.toInt64 then 2 else (if (nI z').toInt64 < x4.toInt64 + x5.toInt64 then 2 else 0))))
theorem cpI_y {z z' i j n : Nat} (hz : z ≤ 64) (hz' : z' ≤ 64) (h : i + n ≤ z) (h' : j + n ≤ z') : cpI z z' (nI i) (nI j) (nI n) = 0 := by
  unfold cpI
  rw [if_neg (nI_pos (by omega)), if_neg (nI_pos (by omega)), if_neg (nI_pos (by omega)), if_neg (fun q => absurd ((sum_nI (by omega) (by omega) (by omega)).mp q) (by omega)), if_neg (fun q => absurd ((sum_nI (by omega) (by omega) (by omega)).mp q) (by omega))]
theorem cpI_n {z z' : Nat} {x2 x4 x5 : Int32} (hz : z ≤ 64) (hz' : z' ≤ 64) (h : ¬ ((∃ i n, x2 = nI i ∧ x5 = nI n ∧ i + n ≤ z) ∧ ∃ i n, x4 = nI i ∧ x5 = nI n ∧ i + n ≤ z')) : cpI z z' x2 x4 x5 = 2 := by
  unfold cpI
  by_cases q1 : x2 < 0
  · rw [if_pos q1]
  · rw [if_neg q1]
    by_cases q2 : x4 < 0
    · rw [if_pos q2]
    · rw [if_neg q2]
      by_cases q3 : x5 < 0
      · rw [if_pos q3]
      · rw [if_neg q3]
        obtain ⟨i, hi, rfl⟩ := nn_nI q1
        obtain ⟨j, hj, rfl⟩ := nn_nI q2
        obtain ⟨n, hn, rfl⟩ := nn_nI q3
        by_cases q4 : (nI z).toInt64 < (nI i).toInt64 + (nI n).toInt64
        · rw [if_pos q4]
        · rw [if_neg q4]
          by_cases q5 : (nI z').toInt64 < (nI j).toInt64 + (nI n).toInt64
          · rw [if_pos q5]
          · refine absurd ⟨⟨i, n, rfl, rfl, ?_⟩, ⟨j, n, rfl, rfl, ?_⟩⟩ h
            · rcases Nat.lt_or_ge z (i + n) with w | w
              · exact absurd ((sum_nI hi hn (by omega)).mpr w) q4
              · exact w
            · rcases Nat.lt_or_ge z' (j + n) with w | w
              · exact absurd ((sum_nI hj hn (by omega)).mpr w) q5
              · exact w
theorem cpA_spec (p n : Nat) (M : MS) : upR 3 0 0 n (fun a => M.1 2 (p + a)) M (cpA p n M) := by
  have e : cpA p n M = itF (fun a S => pg S 3 (0 + a) (S.1 2 (p + a))) 0 n M := by
    unfold cpA
    congr 1
    funext i S
    rw [Nat.zero_add]
  rw [e]
  exact itF_up (K := 3) (K' := 2) (p := 0) (h := fun g a => g (p + a)) (by decide) n 0 M
theorem cpB_spec (p n : Nat) (M : MS) : upR 2 p 0 n (M.1 3) M (cpB p n M) := itF_up (K := 2) (K' := 3) (p := p) (h := fun g a => g a) (by decide) n 0 M
theorem Rel.copy {C M : MS} (h : Rel C M) {s t i j n z z' : Nat} (hs : s < 4) (ht : t < 4) (e : C.1 (28 + s) 0 = nI z) (e' : C.1 (28 + t) 0 = nI z') (hz : z ≤ 64) (hz' : z' ≤ 64) (h1 : i + n ≤ z) (h2 : j + n ≤ z') : Rel (setF C (20 + t) (va_cpy (C.1 (20 + s)) (C.1 (20 + t)) i j n)) (cpB (64 * t + j) n (cpA (64 * s + i) n M)) := by
  obtain ⟨a1, a2, a3⟩ := cpA_spec (64 * s + i) n M
  obtain ⟨b1, b2, b3⟩ := cpB_spec (64 * t + j) n (cpA (64 * s + i) n M)
  refine h.sheets (fun k hk => setF_o (by omega)) rfl (fun k hk => by rw [b2 k (by omega), a2 k (by omega)]) (fun s' hs' => ?_) ?_
  · by_cases q : s' = t
    · subst q
      obtain ⟨w, hw, p1, p2, p3, p4⟩ := h.P s' hs'
      obtain ⟨w', hw', q1, q2, q3, q4⟩ := h.P s hs
      obtain rfl : w = z' := (nI_eq (by omega) (by omega)).mp (p1.symm.trans e')
      obtain rfl : w' = z := (nI_eq (by omega) (by omega)).mp (q1.symm.trans e)
      refine ⟨w, hw, by rw [setF_o (by omega)]; exact p1, by rw [b2 1 (by decide), a2 1 (by decide)]; exact p2, fun a ha => ?_, ?_⟩
      · rw [b3, setF_k]
        unfold va_cpy
        by_cases r : j ≤ a ∧ a < j + n
        · rw [if_pos (by omega), if_pos r, a3, if_pos (by omega), show 64 * s' + a - (64 * s' + j) - 0 = a - j by omega]
          show M.1 2 (64 * s + i + (a - j)) = C.1 (20 + s) (i + (a - j))
          rw [Nat.add_assoc]
          exact q3 (i + (a - j)) (by omega)
        · rw [if_neg (by omega), if_neg r, a2 2 (by decide)]
          exact p3 a ha
      · rw [setF_o (by omega), setF_o (by omega), b2 0 (by decide), a2 0 (by decide)]; exact p4
    · exact (h.P s' hs').of (setF_o (by omega)) (setF_o (by omega)) (setF_o (by omega)) (setF_o (by omega)) (by rw [b2 0 (by decide), a2 0 (by decide)]) (by rw [b2 1 (by decide), a2 1 (by decide)]) (fun a ha => by rw [b3, if_neg (by omega), a2 2 (by decide)])
  · rw [setF_o (by omega), b2 4 (by decide), a2 4 (by decide)]; exact h.L
theorem pr_copy (x1 x2 x3 x4 x5 : Int32) : Pr Value.int yX7_copy wsX7_copy 2 42 yX8_copy wsX8_copy 2 45 [.int x1, .int x2, .int x3, .int x4, .int x5] := by
  intro C M h ad ad'
  have hsz : okSz M := fun s hs => by
    obtain ⟨z, hz, _, e2, _⟩ := h.P s hs
    exact ⟨z, hz, e2⟩
  rcases shq_cases x1 with ⟨s, hs, rfl⟩ | ⟨n1, n2, n3⟩
  · have b1 := sh_y hs
    rcases shq_cases x3 with ⟨t, ht, rfl⟩ | ⟨n1, n2, n3⟩
    · have b3 := sh_y ht
      have cs : (nI s).toNatClampNeg = s := nI_clamp (by omega)
      have ct : (nI t).toNatClampNeg = t := nI_clamp (by omega)
      obtain ⟨z, hz, s1, s2, s3, s4⟩ := h.P s hs
      obtain ⟨z', hz', t1, t2, t3, t4⟩ := h.P t ht
      have refN : ∀ n, ¬ n = 0 → cpNo M (nI s) x2 (nI t) x4 x5 = n → ∀ (l : Launch) (D : va_G) (E : Nat → ClassId) (a1 a2 : Nat), Fn l D E a1 a2 yX8_copy wsX8_copy 2 45 [.ref (ad' 0), .int (nI s), .int x2, .int (nI t), .int x4, .int x5] (mW E ad' M) (some (.int (f_X7_found C n))) (mW E ad' (s_X8_met M n)) := by
        intro n n0 e l D E a1 a2
        refine (c_X8_copy l D E a1 a2 ad' M (nI s) x2 (nI t) x4 x5 hsz).im ?_ ?_
        · rw [f_X8_copy, if_pos b1, if_pos b3, e, if_neg n0]; rfl
        · rw [s_X8_copy, if_pos b1, if_pos b3, e, if_neg n0]
      rcases s4 with ⟨l1, f1⟩ | ⟨l0, f, hf, f0, cf⟩
      · refine ⟨(f_X7_found C 1), s_X7_found C 1, s_X8_met M 1, h.found 1, fun l D E a1 a2 => ?_, refN 1 (by decide) ?_⟩
        · show Fn l D E a1 a2 yX7_copy wsX7_copy 2 42 [.ref (ad 0), .int (nI s), .int x2, .int (nI t), .int x4, .int x5] (cW E ad C) (some (.int (f_X7_found C 1))) (cW E ad (s_X7_found C 1))
          refine Fn.of (cc := cX7_copy) (maxL := 8) (ret := (some .int)) (own := RX7) (by decide) rfl rfl (sameC _ _ _ _) (Nat.le_of_ble_eq_true rfl) (fun X q1 q2 q3 q4 q5 K hE => ?_)
          subst q1 q2 q3 q4 q5
          refine r_X7_copy_0 K ad C (nI s) x2 (nI t) x4 x5 ⟨fun k hk e => ?_, fun q => absurd q (sh_b hs)⟩
          obtain rfl := sh_inj hs hk e
          refine ⟨fun k2 hk2 e2 => ?_, fun q => absurd q (sh_b ht)⟩
          exact ⟨fun q => absurd (l1.symm.trans q) (by decide), fun _ => hE⟩
        · rw [cpNo, cs, if_pos (by rw [f1]; decide)]
      · have g0 : 0 ≤ M.1 0 s := by rw [f0]; exact nI_pos' (by omega)
        have g0' : ¬ M.1 0 s < 0 := Int32.not_lt.mpr g0
        rcases t4 with ⟨l1, f1⟩ | ⟨l0', f', hf', f0', cf'⟩
        · refine ⟨(f_X7_found C 1), s_X7_found C 1, s_X8_met M 1, h.found 1, fun l D E a1 a2 => ?_, refN 1 (by decide) ?_⟩
          · show Fn l D E a1 a2 yX7_copy wsX7_copy 2 42 [.ref (ad 0), .int (nI s), .int x2, .int (nI t), .int x4, .int x5] (cW E ad C) (some (.int (f_X7_found C 1))) (cW E ad (s_X7_found C 1))
            refine Fn.of (cc := cX7_copy) (maxL := 8) (ret := (some .int)) (own := RX7) (by decide) rfl rfl (sameC _ _ _ _) (Nat.le_of_ble_eq_true rfl) (fun X q1 q2 q3 q4 q5 K hE => ?_)
            subst q1 q2 q3 q4 q5
            refine r_X7_copy_0 K ad C (nI s) x2 (nI t) x4 x5 ⟨fun k hk e => ?_, fun q => absurd q (sh_b hs)⟩
            obtain rfl := sh_inj hs hk e
            refine ⟨fun k2 hk2 e2 => ?_, fun q => absurd q (sh_b ht)⟩
            obtain rfl := sh_inj ht hk2 e2
            exact ⟨fun _ => ⟨fun q => absurd (l1.symm.trans q) (by decide), fun _ => hE⟩, fun q => absurd l0 q⟩
          · rw [cpNo, cs, ct, if_neg g0', if_neg (by rw [f1]; decide)]
        · have k0 : 0 ≤ M.1 0 t := by rw [f0']; exact nI_pos' (by omega)
          by_cases ff : C.1 (24 + s) 0 = C.1 (24 + t) 0
          · have mm : M.1 0 s = M.1 0 t := by rw [f0, f0', ← cf, ← cf', ff]
            have no : cpNo M (nI s) x2 (nI t) x4 x5 = cpI z z' x2 x4 x5 := by
              rw [cpNo, cs, ct, if_neg g0', if_pos k0, if_pos mm, s2, t2]; rfl
            by_cases hh : f_X4_holds C s x2 x5 = true ∧ f_X4_holds C t x4 x5 = true
            · obtain ⟨i, n, rfl, rfl, h1⟩ := (holds_iff s1 hz x2 x5).mp hh.1
              obtain ⟨j, n', rfl, en, h2⟩ := (holds_iff t1 hz' x4 (nI n)).mp hh.2
              have lim : n' < 2 ^ 31 := by omega
              obtain rfl : n = n' := (nI_eq (by omega) lim).mp en
              have ci : (nI i).toNatClampNeg = i := nI_clamp (by omega)
              have cj : (nI j).toNatClampNeg = j := nI_clamp (by omega)
              have cn : (nI n).toNatClampNeg = n := nI_clamp (by omega)
              have n0 := cpI_y hz hz' h1 h2
              refine ⟨1, _, _, h.copy hs ht s1 t1 hz hz' h1 h2, fun l D E a1 a2 => ?_, fun l D E a1 a2 => ?_⟩
              · show Fn l D E a1 a2 yX7_copy wsX7_copy 2 42 [.ref (ad 0), .int (nI s), .int (nI i), .int (nI t), .int (nI j), .int (nI n)] (cW E ad C) (some (.int 1)) (cW E ad (setF C (20 + t) (va_cpy (C.1 (20 + s)) (C.1 (20 + t)) i j n)))
                refine Fn.of (cc := cX7_copy) (maxL := 8) (ret := (some .int)) (own := RX7) (by decide) rfl rfl (sameC _ _ _ _) (Nat.le_of_ble_eq_true rfl) (fun X q1 q2 q3 q4 q5 K hE => ?_)
                subst q1 q2 q3 q4 q5
                refine r_X7_copy_0 K ad C (nI s) (nI i) (nI t) (nI j) (nI n) ⟨fun k hk e => ?_, fun q => absurd q (sh_b hs)⟩
                obtain rfl := sh_inj hs hk e
                refine ⟨fun k2 hk2 e2 => ?_, fun q => absurd q (sh_b ht)⟩
                obtain rfl := sh_inj ht hk2 e2
                refine ⟨fun _ => ⟨fun _ => ⟨fun _ => ⟨fun _ => ⟨fun _ => ⟨⟨nI_pos (by omega), nI_pos (by omega), nI_pos (by omega), by rw [ci, cn]; omega, by rw [cj, cn]; omega⟩, ?_⟩, fun q => by rw [hh.2] at q; cases q⟩, fun q => by rw [hh.1] at q; cases q⟩, fun q => absurd ff q⟩, fun q => absurd l0' q⟩, fun q => absurd l0 q⟩
                rw [ci, cj, cn]; exact hE
              · refine (c_X8_copy l D E a1 a2 ad' M (nI s) (nI i) (nI t) (nI j) (nI n) hsz).im ?_ ?_
                · rw [f_X8_copy, if_pos b1, if_pos b3, no, if_pos n0]
                · rw [s_X8_copy, if_pos b1, if_pos b3, no, if_pos n0, cs, ct, ci, cj, cn]
            · have n2 : cpI z z' x2 x4 x5 = 2 := cpI_n hz hz' (fun q => hh ⟨(holds_iff s1 hz x2 x5).mpr q.1, (holds_iff t1 hz' x4 x5).mpr q.2⟩)
              refine ⟨(f_X7_found C 2), s_X7_found C 2, s_X8_met M 2, h.found 2, fun l D E a1 a2 => ?_, refN 2 (by decide) (no.trans n2)⟩
              show Fn l D E a1 a2 yX7_copy wsX7_copy 2 42 [.ref (ad 0), .int (nI s), .int x2, .int (nI t), .int x4, .int x5] (cW E ad C) (some (.int (f_X7_found C 2))) (cW E ad (s_X7_found C 2))
              refine Fn.of (cc := cX7_copy) (maxL := 8) (ret := (some .int)) (own := RX7) (by decide) rfl rfl (sameC _ _ _ _) (Nat.le_of_ble_eq_true rfl) (fun X q1 q2 q3 q4 q5 K hE => ?_)
              subst q1 q2 q3 q4 q5
              refine r_X7_copy_0 K ad C (nI s) x2 (nI t) x4 x5 ⟨fun k hk e => ?_, fun q => absurd q (sh_b hs)⟩
              obtain rfl := sh_inj hs hk e
              refine ⟨fun k2 hk2 e2 => ?_, fun q => absurd q (sh_b ht)⟩
              obtain rfl := sh_inj ht hk2 e2
              exact ⟨fun _ => ⟨fun _ => ⟨fun _ => ⟨fun a => ⟨fun b => absurd ⟨a, b⟩ hh, fun _ => hE⟩, fun _ => hE⟩, fun q => absurd ff q⟩, fun q => absurd l0' q⟩, fun q => absurd l0 q⟩
          · have mm : ¬ M.1 0 s = M.1 0 t := fun w => ff (by rw [cf, cf', ← f0, ← f0', w])
            refine ⟨(f_X7_found C 4), s_X7_found C 4, s_X8_met M 4, h.found 4, fun l D E a1 a2 => ?_, refN 4 (by decide) ?_⟩
            · show Fn l D E a1 a2 yX7_copy wsX7_copy 2 42 [.ref (ad 0), .int (nI s), .int x2, .int (nI t), .int x4, .int x5] (cW E ad C) (some (.int (f_X7_found C 4))) (cW E ad (s_X7_found C 4))
              refine Fn.of (cc := cX7_copy) (maxL := 8) (ret := (some .int)) (own := RX7) (by decide) rfl rfl (sameC _ _ _ _) (Nat.le_of_ble_eq_true rfl) (fun X q1 q2 q3 q4 q5 K hE => ?_)
              subst q1 q2 q3 q4 q5
              refine r_X7_copy_0 K ad C (nI s) x2 (nI t) x4 x5 ⟨fun k hk e => ?_, fun q => absurd q (sh_b hs)⟩
              obtain rfl := sh_inj hs hk e
              refine ⟨fun k2 hk2 e2 => ?_, fun q => absurd q (sh_b ht)⟩
              obtain rfl := sh_inj ht hk2 e2
              exact ⟨fun _ => ⟨fun _ => ⟨fun q => absurd q ff, fun _ => hE⟩, fun q => absurd l0' q⟩, fun q => absurd l0 q⟩
            · rw [cpNo, cs, ct, if_neg g0', if_pos k0, if_neg mm]
    · have b3 : ¬ f_X8_isSheet x3 = true := by rw [n1]; decide
      refine ⟨(-2), C, M, h, fun l D E a1 a2 => ?_, fun l D E a1 a2 => ?_⟩
      · show Fn l D E a1 a2 yX7_copy wsX7_copy 2 42 [.ref (ad 0), .int (nI s), .int x2, .int x3, .int x4, .int x5] (cW E ad C) (some (.int (-2))) (cW E ad C)
        refine Fn.of (cc := cX7_copy) (maxL := 8) (ret := (some .int)) (own := RX7) (by decide) rfl rfl (sameC _ _ _ _) (Nat.le_of_ble_eq_true rfl) (fun X q1 q2 q3 q4 q5 K hE => ?_)
        subst q1 q2 q3 q4 q5
        exact r_X7_copy_0 K ad C (nI s) x2 x3 x4 x5 ⟨fun k hk e => ⟨fun k2 hk2 e2 => absurd ⟨k2, hk2, e2⟩ n3, fun _ => hE⟩, fun q => absurd q (sh_b hs)⟩
      · refine (c_X8_copy l D E a1 a2 ad' M (nI s) x2 x3 x4 x5 hsz).im ?_ ?_
        · rw [f_X8_copy, if_pos b1, if_neg b3]
        · rw [s_X8_copy, if_pos b1, if_neg b3]
  · have b1 : ¬ f_X8_isSheet x1 = true := by rw [n1]; decide
    refine ⟨(-2), C, M, h, fun l D E a1 a2 => ?_, fun l D E a1 a2 => ?_⟩
    · show Fn l D E a1 a2 yX7_copy wsX7_copy 2 42 [.ref (ad 0), .int x1, .int x2, .int x3, .int x4, .int x5] (cW E ad C) (some (.int (-2))) (cW E ad C)
      refine Fn.of (cc := cX7_copy) (maxL := 8) (ret := (some .int)) (own := RX7) (by decide) rfl rfl (sameC _ _ _ _) (Nat.le_of_ble_eq_true rfl) (fun X q1 q2 q3 q4 q5 K hE => ?_)
      subst q1 q2 q3 q4 q5
      exact r_X7_copy_0 K ad C x1 x2 x3 x4 x5 ⟨fun k hk e => absurd ⟨k, hk, e⟩ n3, fun _ => ⟨fun _ _ _ => hE, fun _ => hE⟩⟩
    · refine (c_X8_copy l D E a1 a2 ad' M x1 x2 x3 x4 x5 hsz).im ?_ ?_
      · rw [f_X8_copy, if_neg b1]
      · rw [s_X8_copy, if_neg b1]
end
