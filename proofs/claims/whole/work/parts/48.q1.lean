section
/-! sheets: both beside each other -/
def upR (K p i n : Nat) (g : Nat → Int32) (S T : MS) : Prop := T.2 = S.2 ∧ (∀ k, k ≠ K → T.1 k = S.1 k) ∧ ∀ j, T.1 K j = if p + i ≤ j ∧ j < p + (i + n) then g (j - p) else S.1 K j
theorem itF_up {K K' p : Nat} {h : (Nat → Int32) → Nat → Int32} (hK : K' ≠ K) : ∀ (n i : Nat) (S : MS), upR K p i n (h (S.1 K')) S (itF (fun i S => pg S K (p + i) (h (S.1 K') i)) i n S)
  | 0, i, S => ⟨rfl, fun _ _ => rfl, fun j => by rw [if_neg (by omega)]; rfl⟩
  | n + 1, i, S => by
    obtain ⟨h1, h2, h3⟩ := itF_up (K := K) (p := p) (h := h) hK n (i + 1) (pg S K (p + i) (h (S.1 K') i))
    rw [show (pg S K (p + i) (h (S.1 K') i)).1 K' = S.1 K' from pg_r hK] at h3
    refine ⟨h1, fun k hk => (h2 k hk).trans (pg_r hk), fun j => (h3 j).trans ?_⟩
    by_cases q : j = p + i
    · subst q
      rw [if_neg (by omega), pg_s, if_pos (by omega), Nat.add_sub_cancel_left]
    · rw [pg_n q]
      by_cases r : p + (i + 1) ≤ j ∧ j < p + (i + 1 + n)
      · rw [if_pos r, if_pos (by omega)]
      · rw [if_neg r, if_neg (by omega)]
theorem Rel.sheets {C C' M M' : MS} (h : Rel C M) (hc : ∀ k, k < 16 → C'.1 k = C.1 k) (hc2 : C'.2 1 = C.2 1) (hm : ∀ k, k = 5 ∨ k = 6 ∨ k = 14 ∨ k = 15 → M'.1 k = M.1 k) (hp : RelP C' M') (h16 : C'.1 16 0 = M'.1 4 0) : Rel C' M' := by
  obtain ⟨n0, n1, k, hT, hS, hH, hK, hP, hL⟩ := h
  refine ⟨n0, n1, k, ?_, ?_, ?_, ?_, hp, h16⟩
  · unfold RelT at hT ⊢
    rw [hc 2 (by decide), hc 0 (by decide), hc 3 (by decide), hc 1 (by decide), hm 6 (by decide), hm 5 (by decide)]; exact hT
  · unfold RelS at hS ⊢
    rw [hc 7 (by decide), hc 0 (by decide), hc 6 (by decide), hc 4 (by decide), hc 5 (by decide)]; exact hS
  · unfold RelH at hH ⊢
    rw [hc 8 (by decide), hc 1 (by decide), hc2]; exact hH
  · unfold RelK at hK ⊢
    rw [hc 15 (by decide), hc 12 (by decide), hc 13 (by decide), hm 14 (by decide), hm 15 (by decide)]; exact hK
theorem Rel.P {C M : MS} (h : Rel C M) : RelP C M := by
  obtain ⟨_, _, _, _, _, _, _, hP, _⟩ := h
  exact hP
theorem Rel.L {C M : MS} (h : Rel C M) : C.1 16 0 = M.1 4 0 := by
  obtain ⟨_, _, _, _, _, _, _, _, hL⟩ := h
  exact hL
theorem RelP1.of {C C' M M' : MS} {s : Nat} (h : RelP1 C M s) (e1 : C'.1 (28 + s) = C.1 (28 + s)) (e2 : C'.1 (20 + s) = C.1 (20 + s)) (e3 : C'.1 (32 + s) = C.1 (32 + s)) (e4 : C'.1 (24 + s) = C.1 (24 + s)) (m0 : M'.1 0 s = M.1 0 s) (m1 : M'.1 1 s = M.1 1 s) (m2 : ∀ i, i < 64 → M'.1 2 (64 * s + i) = M.1 2 (64 * s + i)) : RelP1 C' M' s := by
  obtain ⟨z, hz, a1, a2, a3, a4⟩ := h
  refine ⟨z, hz, by rw [e1]; exact a1, by rw [m1]; exact a2, fun i hi => by rw [m2 i (by omega), e2]; exact a3 i hi, ?_⟩
  rw [e3, e4, m0]; exact a4
theorem Rel.found {C M : MS} (h : Rel C M) (n : Int32) : Rel (s_X7_found C n) (s_X8_met M n) := by
  show Rel (pg C 16 0 n) (pg M 4 0 n)
  refine h.sheets (fun k hk => pg_r (by omega)) rfl (fun k hk => pg_r (by omega)) (fun s hs => ?_) ?_
  · exact (h.P s hs).of (pg_r (by omega)) (pg_r (by omega)) (pg_r (by omega)) (pg_r (by omega)) (pg_o (by decide)) (pg_o (by decide)) (fun i _ => pg_o (by decide))
  · exact (pg_s).trans pg_s.symm
theorem within_of {x : Int32} {n : Nat} (h0 : 0 ≤ x) (h1 : x < nI n) : f_X7_within x (nI n) = true := by
  unfold f_X7_within
  rw [if_neg (Int32.not_lt.mpr h0), if_neg (Int32.not_le.mpr h1)]
theorem shq_cases (x : Int32) : (∃ s, s < 4 ∧ x = nI s) ∨ (f_X8_isSheet x = false ∧ ¬ (0 ≤ x ∧ x < 4) ∧ ¬ ∃ s, s < 4 ∧ x = nI s) := by
  by_cases h : ∃ s, s < 4 ∧ x = nI s
  · exact Or.inl h
  · refine Or.inr ⟨?_, fun q => h ?_, h⟩
    · cases e : f_X8_isSheet x
      · rfl
      · exact absurd (isSheet_nI e) h
    · exact (within_iff (n := 4) (by decide)).mp (within_of q.1 q.2)
theorem sh_y {s : Nat} (hs : s < 4) : f_X8_isSheet (nI s) = true := (in_nI (m := 3) (by decide)).mpr ⟨s, by omega, rfl⟩
theorem sh_b {s : Nat} (hs : s < 4) : ¬ ¬ (0 ≤ nI s ∧ nI s < 4) := fun q => q ⟨nI_pos' (by omega), (nI_lt hs (by decide) : nI s < nI 4)⟩
theorem sh_inj {s k : Nat} (hs : s < 4) (hk : k < 4) (e : nI s = Int32.ofNat k) : k = s := ((nI_eq (by omega) (by omega)).mp e).symm
theorem frm_b (x : Int32) : f_X7_within x 3 = f_X8_in x.toInt64 0 2 := in_b (m := 2) (by decide)
theorem Fn.im {l : Launch} {D : va_G} {E : Nat → ClassId} {a1 a2 : Nat} {y : MethodName} {ws : List Cond} {fr lo : Nat} {As : List Value} {w0 : va_W} {v v' : Int32} {ad : Nat → Nat} {S S' : MS} (f : Fn l D E a1 a2 y ws fr lo As w0 (some (.int v)) (mW E ad S)) (e1 : v = v') (e2 : S = S') : Fn l D E a1 a2 y ws fr lo As w0 (some (.int v')) (mW E ad S') := by subst e1 e2; exact f
theorem Fn.ic {l : Launch} {D : va_G} {E : Nat → ClassId} {a1 a2 : Nat} {y : MethodName} {ws : List Cond} {fr lo : Nat} {As : List Value} {w0 : va_W} {v v' : Int32} {ad : Nat → Nat} {S S' : MS} (f : Fn l D E a1 a2 y ws fr lo As w0 (some (.int v)) (cW E ad S)) (e1 : v = v') (e2 : S = S') : Fn l D E a1 a2 y ws fr lo As w0 (some (.int v')) (cW E ad S') := by subst e1 e2; exact f
theorem min64 : ∀ z, z < 65 → imin (imax (nI z) 0) 64 = nI z := by decide
def rnw (C : MS) (s z : Nat) (x : Int32) (T : MS) : Prop := T.2 = C.2 ∧ (∀ j, j ≠ 20 + s → j ≠ 24 + s → j ≠ 28 + s → j ≠ 32 + s → T.1 j = C.1 j) ∧ (∀ i, i < 64 → T.1 (20 + s) i = 0) ∧ T.1 (24 + s) 0 = x ∧ T.1 (28 + s) 0 = nI z ∧ T.1 (32 + s) 0 = 0
theorem renew_spec {C : MS} {s z : Nat} {x : Int32} (hz : z ≤ 64) : rnw C s z x (s_X4_renew C s x (nI z)) := by
  obtain ⟨h1, h2, h3⟩ := itF_up (K := 20 + s) (K' := 0) (p := 0) (h := fun _ _ => 0) (by omega) 64 0 (pg (pg (pg C (24 + s) 0 x) (28 + s) 0 (imin (imax (nI z) 0) 64)) (32 + s) 0 0)
  have e : s_X4_renew C s x (nI z) = itF (fun i S => pg S (20 + s) (0 + i) 0) 0 64 (pg (pg (pg C (24 + s) 0 x) (28 + s) 0 (imin (imax (nI z) 0) 64)) (32 + s) 0 0) := by
    unfold s_X4_renew
    congr 1
    funext i S
    rw [Nat.zero_add]
  rw [e]
  refine ⟨h1, fun j a b c d => ?_, fun i hi => ?_, ?_, ?_, ?_⟩
  · rw [h2 j a, pg_r d, pg_r c, pg_r b]
  · rw [h3 i, if_pos (by omega)]
  · rw [h2 _ (by omega), pg_o (by omega), pg_o (by omega), pg_s]
  · rw [h2 _ (by omega), pg_o (by omega), pg_s]; exact min64 z (by omega)
  · rw [h2 _ (by omega), pg_s]
theorem shClr_spec (M : MS) (s z : Nat) : upR 2 (64 * s) 0 z (fun _ => 0) M (shClr s z M) := itF_up (K := 2) (K' := 0) (p := 64 * s) (h := fun _ _ => 0) (by decide) z 0 M
theorem pr_sheet (x1 x2 x3 : Int32) : Pr Value.int yX7_sheet wsX7_sheet 2 63 yX8_sheet wsX8_sheet 2 45 [.int x1, .int x2, .int x3] := by
  intro C M h ad ad'
  rcases shq_cases x1 with ⟨s, hs, rfl⟩ | ⟨n1, n2, n3⟩
  · have b1 := sh_y hs
    have cs : (nI s).toNatClampNeg = s := nI_clamp (by omega)
    by_cases h2 : f_X7_within x2 3 = true
    · have b2 : f_X8_in x2.toInt64 0 2 = true := by rw [← frm_b]; exact h2
      by_cases h3 : x3 ≤ 64
      · by_cases h4 : 0 ≤ x3
        · obtain ⟨z, hz, rfl⟩ : ∃ z, z < 65 ∧ x3 = nI z := (within_iff (n := 65) (by decide)).mp (within_of h4 (Int32.lt_of_le_of_lt h3 (by decide)))
          obtain ⟨f, hf, rfl⟩ := (within_iff (n := 3) (by decide)).mp h2
          have cz : (nI z).toNatClampNeg = z := nI_clamp (by omega)
          refine ⟨(nI z), s_X4_renew C s (nI f) (nI z), shClr s z (pg (pg M 0 s (nI f)) 1 s (nI z)), ?_, fun l D E a1 a2 => ?_, fun l D E a1 a2 => ?_⟩
          · obtain ⟨c1, c2, c3, c4, c5, c6⟩ := renew_spec (C := C) (s := s) (x := nI f) (show z ≤ 64 by omega)
            obtain ⟨m1, m2, m3⟩ := shClr_spec (pg (pg M 0 s (nI f)) 1 s (nI z)) s z
            refine h.sheets (fun k hk => c2 k (by omega) (by omega) (by omega) (by omega)) (by rw [c1]) (fun k hk => by rw [m2 k (by omega), pg_r (by omega), pg_r (by omega)]) (fun s' hs' => ?_) ?_
            · by_cases e : s' = s
              · subst e
                refine ⟨z, by omega, c5, ?_, fun i hi => ?_, Or.inr ⟨c6, f, hf, ?_, c4⟩⟩
                · rw [m2 1 (by decide), pg_s]
                · rw [m3, if_pos (by omega), c3 i (by omega)]
                · rw [m2 0 (by decide), pg_o (by decide), pg_s]
              · refine (h.P s' hs').of (c2 _ (by omega) (by omega) (by omega) (by omega)) (c2 _ (by omega) (by omega) (by omega) (by omega)) (c2 _ (by omega) (by omega) (by omega) (by omega)) (c2 _ (by omega) (by omega) (by omega) (by omega)) ?_ ?_ (fun i hi => ?_)
                · rw [m2 0 (by decide), pg_o (by decide), pg_n e]
                · rw [m2 1 (by decide), pg_n e, pg_o (by decide)]
                · rw [m3, if_neg (by omega), pg_o (by decide), pg_o (by decide)]
            · rw [c2 16 (by omega) (by omega) (by omega) (by omega), m2 4 (by decide), pg_o (by decide), pg_o (by decide)]; exact h.L
          · show Fn l D E a1 a2 yX7_sheet wsX7_sheet 2 63 [.ref (ad 0), .int (nI s), .int (nI f), .int (nI z)] (cW E ad C) (some (.int (nI z))) (cW E ad (s_X4_renew C s (nI f) (nI z)))
            refine Fn.of (cc := cX7_sheet) (maxL := 5) (ret := (some .int)) (own := RX7) (by decide) rfl rfl (sameC _ _ _ _) (Nat.le_of_ble_eq_true rfl) (fun X q1 q2 q3 q4 q5 K hE => ?_)
            subst q1 q2 q3 q4 q5
            refine r_X7_sheet_0 K ad C (nI s) (nI f) (nI z) ⟨fun k hk e => ?_, fun q => absurd q (sh_b hs)⟩
            obtain rfl := sh_inj hs hk e
            exact ⟨fun _ => ⟨fun _ => ⟨fun _ => hE, fun q => absurd h4 q⟩, fun q => absurd h3 q⟩, fun q => by rw [h2] at q; cases q⟩
          · refine (c_X8_sheet l D E a1 a2 ad' M (nI s) (nI f) (nI z)).im ?_ ?_
            · rw [f_X8_sheet, if_pos b1, if_pos b2, if_pos h3, if_pos h4]
            · rw [s_X8_sheet, if_pos b1, if_pos b2, if_pos h3, if_pos h4, cs, cz]
        · refine ⟨(f_X7_found C 5), s_X7_found C 5, s_X8_met M 5, h.found 5, fun l D E a1 a2 => ?_, fun l D E a1 a2 => ?_⟩
          · show Fn l D E a1 a2 yX7_sheet wsX7_sheet 2 63 [.ref (ad 0), .int (nI s), .int x2, .int x3] (cW E ad C) (some (.int (f_X7_found C 5))) (cW E ad (s_X7_found C 5))
            refine Fn.of (cc := cX7_sheet) (maxL := 5) (ret := (some .int)) (own := RX7) (by decide) rfl rfl (sameC _ _ _ _) (Nat.le_of_ble_eq_true rfl) (fun X q1 q2 q3 q4 q5 K hE => ?_)
            subst q1 q2 q3 q4 q5
            refine r_X7_sheet_0 K ad C (nI s) x2 x3 ⟨fun k hk e => ?_, fun q => absurd q (sh_b hs)⟩
            exact ⟨fun _ => ⟨fun _ => ⟨fun q => absurd q h4, fun _ => hE⟩, fun q => absurd h3 q⟩, fun q => by rw [h2] at q; cases q⟩
          · refine (c_X8_sheet l D E a1 a2 ad' M (nI s) x2 x3).im ?_ ?_
            · rw [f_X8_sheet, if_pos b1, if_pos b2, if_pos h3, if_neg h4]; rfl
            · rw [s_X8_sheet, if_pos b1, if_pos b2, if_pos h3, if_neg h4]
      · refine ⟨(-2), C, M, h, fun l D E a1 a2 => ?_, fun l D E a1 a2 => ?_⟩
        · show Fn l D E a1 a2 yX7_sheet wsX7_sheet 2 63 [.ref (ad 0), .int (nI s), .int x2, .int x3] (cW E ad C) (some (.int (-2))) (cW E ad C)
          refine Fn.of (cc := cX7_sheet) (maxL := 5) (ret := (some .int)) (own := RX7) (by decide) rfl rfl (sameC _ _ _ _) (Nat.le_of_ble_eq_true rfl) (fun X q1 q2 q3 q4 q5 K hE => ?_)
          subst q1 q2 q3 q4 q5
          refine r_X7_sheet_0 K ad C (nI s) x2 x3 ⟨fun k hk e => ?_, fun q => absurd q (sh_b hs)⟩
          exact ⟨fun _ => ⟨fun q => absurd q h3, fun _ => hE⟩, fun q => by rw [h2] at q; cases q⟩
        · refine (c_X8_sheet l D E a1 a2 ad' M (nI s) x2 x3).im ?_ ?_
          · rw [f_X8_sheet, if_pos b1, if_pos b2, if_neg h3]
          · rw [s_X8_sheet, if_pos b1, if_pos b2, if_neg h3]
    · have b2 : ¬ f_X8_in x2.toInt64 0 2 = true := by rw [← frm_b]; exact h2
      refine ⟨(-2), C, M, h, fun l D E a1 a2 => ?_, fun l D E a1 a2 => ?_⟩
      · show Fn l D E a1 a2 yX7_sheet wsX7_sheet 2 63 [.ref (ad 0), .int (nI s), .int x2, .int x3] (cW E ad C) (some (.int (-2))) (cW E ad C)
        refine Fn.of (cc := cX7_sheet) (maxL := 5) (ret := (some .int)) (own := RX7) (by decide) rfl rfl (sameC _ _ _ _) (Nat.le_of_ble_eq_true rfl) (fun X q1 q2 q3 q4 q5 K hE => ?_)
        subst q1 q2 q3 q4 q5
        refine r_X7_sheet_0 K ad C (nI s) x2 x3 ⟨fun k hk e => ?_, fun q => absurd q (sh_b hs)⟩
        exact ⟨fun q => absurd q h2, fun _ => hE⟩
      · refine (c_X8_sheet l D E a1 a2 ad' M (nI s) x2 x3).im ?_ ?_
        · rw [f_X8_sheet, if_pos b1, if_neg b2]
        · rw [s_X8_sheet, if_pos b1, if_neg b2]
  · have b1 : ¬ f_X8_isSheet x1 = true := by rw [n1]; decide
    refine ⟨(-2), C, M, h, fun l D E a1 a2 => ?_, fun l D E a1 a2 => ?_⟩
    · show Fn l D E a1 a2 yX7_sheet wsX7_sheet 2 63 [.ref (ad 0), .int x1, .int x2, .int x3] (cW E ad C) (some (.int (-2))) (cW E ad C)
      refine Fn.of (cc := cX7_sheet) (maxL := 5) (ret := (some .int)) (own := RX7) (by decide) rfl rfl (sameC _ _ _ _) (Nat.le_of_ble_eq_true rfl) (fun X q1 q2 q3 q4 q5 K hE => ?_)
      subst q1 q2 q3 q4 q5
      exact r_X7_sheet_0 K ad C x1 x2 x3 ⟨fun k hk e => absurd ⟨k, hk, e⟩ n3, fun _ => hE⟩
    · refine (c_X8_sheet l D E a1 a2 ad' M x1 x2 x3).im ?_ ?_
      · rw [f_X8_sheet, if_neg b1]
      · rw [s_X8_sheet, if_neg b1]
end
