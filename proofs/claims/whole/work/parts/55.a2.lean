section
/-! texts, clues -/
theorem pr_fault (x1 : Int32) : Pr Value.int yX7_fault wsX7_fault 0 0 yX8_fault wsX8_fault 3 70 [.int x1] := by
  intro C M h ad ad'
  obtain ⟨n0, n1, k, hT, hS, hH, hK, hP, hL⟩ := id h
  obtain ⟨S', hq, hF⟩ := c_X8_fault ad' M (n0 := n0) (n1 := n1) ⟨⟨hT.1.2.2.1, hT.1.1⟩, hT.2.2.2.1, hT.2.1⟩ x1
  refine ⟨(f_X7_fault C x1), C, S', h.keep (keepC.rf C) hq, fun l D E a1 a2 => c_X7_fault l D E a1 a2 ad C x1, fun l D E a1 a2 => ?_⟩
  have e : f_X7_fault C x1 = fltM M n0 n1 x1 := by
    unfold f_X7_fault fltM
    rw [hx_eq0 hT, hx_eq1 hT, hS.1, hH.1]
  rw [e]
  exact hF l D E a1 a2
theorem Rel.text0 {C M C1 C' M' : MS} {m : Nat} (h : Rel C M) (hm : m ≤ 40) (e2 : C1.1 2 0 = nI m) (o1 : ∀ i, i ≠ 0 → i ≠ 2 → C1.1 i = C.1 i) (o2 : C1.2 = C.2) (hl : ldS (hxv (C1.1 0) 0 m) m C1 C') (m6 : M'.1 6 0 = nI m) (m61 : M'.1 6 1 = M.1 6 1) (m5 : ∀ j, j < m → M'.1 5 j = C1.1 0 j) (m54 : ∀ j, j < 71 → M'.1 5 (40 + j) = M.1 5 (40 + j)) (om : ∀ i, i ≠ 5 → i ≠ 6 → M'.1 i = M.1 i) : Rel C' M' := by
  obtain ⟨n0, n1, k, hT, hS, hH, hK, hP, hL⟩ := h
  obtain ⟨l1, l2, l3, l4, l5⟩ := hl
  have e : ∀ i, i ≠ 0 ∧ i ≠ 2 ∧ i ≠ 4 ∧ i ≠ 5 ∧ i ≠ 6 ∧ i ≠ 7 → C'.1 i = C.1 i := fun i q => (l4 i q.2.2.1 q.2.2.2.1 q.2.2.2.2.1 q.2.2.2.2.2).trans (o1 i q.1 q.2.1)
  have e0 : C'.1 0 = C1.1 0 := l4 0 (by decide) (by decide) (by decide) (by decide)
  have e2' : C'.1 2 = C1.1 2 := l4 2 (by decide) (by decide) (by decide) (by decide)
  refine ⟨m, n1, k, ⟨⟨hm, by rw [e2']; exact e2, m6, fun j hj => by rw [e0]; exact m5 j hj⟩, hT.2.1, by rw [e 3 (by decide)]; exact hT.2.2.1, by rw [m61]; exact hT.2.2.2.1, fun j hj => by rw [e 1 (by decide), m54 j (by have := hT.2.1; omega)]; exact hT.2.2.2.2 j hj⟩, ?_, ?_, ?_, fun s hs => ?_, ?_⟩
  · unfold RelS
    rw [e0]
    exact ⟨l1, l2, l3⟩
  · unfold RelH at hH ⊢
    rw [e 8 (by decide), e 1 (by decide), l5, o2]; exact hH
  · unfold RelK at hK ⊢
    rw [e 15 (by decide), e 12 (by decide), e 13 (by decide), om 14 (by decide) (by decide), om 15 (by decide) (by decide)]; exact hK
  · refine (hP s hs).of (e _ (by omega)) (e _ (by omega)) (e _ (by omega)) (e _ (by omega)) (by rw [om 0 (by decide) (by decide)]) (by rw [om 1 (by decide) (by decide)]) (fun i _ => by rw [om 2 (by decide) (by decide)])
  · rw [e 16 (by decide), om 4 (by decide) (by decide)]; exact hL
theorem Rel.text1 {C M C1 C' M' : MS} {m : Nat} (h : Rel C M) (hm : m ≤ 71) (e2 : C1.1 3 0 = nI m) (o1 : ∀ i, i ≠ 1 → i ≠ 3 → C1.1 i = C.1 i) (o2 : C1.2 = C.2) (hl : ldH (hxv (C1.1 1) 0 m) m C1 C') (m6 : M'.1 6 1 = nI m) (m61 : M'.1 6 0 = M.1 6 0) (m5 : ∀ j, j < m → M'.1 5 (40 + j) = C1.1 1 j) (m54 : ∀ j, j < 40 → M'.1 5 j = M.1 5 j) (om : ∀ i, i ≠ 5 → i ≠ 6 → M'.1 i = M.1 i) : Rel C' M' := by
  obtain ⟨n0, n1, k, hT, hS, hH, hK, hP, hL⟩ := h
  obtain ⟨l1, l2, l3, l4⟩ := hl
  have e : ∀ i, i ≠ 1 ∧ i ≠ 3 ∧ i ≠ 8 → C'.1 i = C.1 i := fun i q => (l3 i q.2.2).trans (o1 i q.1 q.2.1)
  have e1 : C'.1 1 = C1.1 1 := l3 1 (by decide)
  have e3 : C'.1 3 = C1.1 3 := l3 3 (by decide)
  refine ⟨n0, m, k, ⟨⟨hT.1.1, by rw [e 2 (by decide)]; exact hT.1.2.1, by rw [m61]; exact hT.1.2.2.1, fun j hj => by rw [e 0 (by decide), m54 j (by have := hT.1.1; omega)]; exact hT.1.2.2.2 j hj⟩, hm, by rw [e3]; exact e2, m6, fun j hj => by rw [e1]; exact m5 j hj⟩, ?_, ?_, ?_, fun s hs => ?_, ?_⟩
  · unfold RelS at hS ⊢
    rw [e 7 (by decide), e 0 (by decide), e 6 (by decide), e 4 (by decide), e 5 (by decide)]; exact hS
  · unfold RelH
    rw [e1]
    exact ⟨l1, l2⟩
  · unfold RelK at hK ⊢
    rw [e 15 (by decide), e 12 (by decide), e 13 (by decide), om 14 (by decide) (by decide), om 15 (by decide) (by decide)]; exact hK
  · refine (hP s hs).of (e _ (by omega)) (e _ (by omega)) (e _ (by omega)) (e _ (by omega)) (by rw [om 0 (by decide) (by decide)]) (by rw [om 1 (by decide) (by decide)]) (fun i _ => by rw [om 2 (by decide) (by decide)])
  · rw [e 16 (by decide), om 4 (by decide) (by decide)]; exact hL
theorem pg_w {S : MS} {k i : Nat} {x : Int32} : (pg S k i x).1 k = upd (S.1 k) i x := by simp [pg, up]
theorem two_y0 : f_X8_isTwo 0 = true := by decide
theorem two_y1 : f_X8_isTwo 1 = true := by decide
theorem byte_b (x : Int32) : f_X7_within x 256 = f_X8_in x.toInt64 0 255 := in_b (m := 255) (by decide)
theorem pr_type (x1 x2 : Int32) : Pr Value.int yX7_type wsX7_type 6 141 yX8_type wsX8_type 2 45 [.int x1, .int x2] := by
  intro C M h ad ad'
  obtain ⟨n0, n1, k, hT, hS, hH, hK, hP, hL⟩ := id h
  obtain ⟨⟨h40, t2, t60, t5⟩, h71, t3, t61, t54⟩ := hT
  by_cases hb : f_X7_within x2 256 = true
  · have b2 : f_X8_in x2.toInt64 0 255 = true := by rw [← byte_b]; exact hb
    by_cases q0 : x1 = 0
    · subst q0
      have v2 : vp_in (0 : Int32) 2 := vp_in_nI (n := 0) (by decide) (by decide)
      rcases Nat.lt_or_ge n0 40 with l | l
      · have ne : ¬ M.1 6 0 = 40 := fun z => by
          rw [t60] at z
          have := (nI_eq (a := n0) (b := 40) (by omega) (by decide)).mp z
          omega
        have ix : (40 * (0 : Int32) + M.1 6 0) = nI n0 := by rw [t60, show (40 * (0 : Int32)) = nI 0 from by decide, nI_add, Nat.zero_add]
        have hp : p_X8_type M 0 x2 := fun _ _ => ⟨v2, fun _ => ⟨v2, by rw [show (0 : Int32).toNatClampNeg = 0 from rfl, ix]; exact vp_in_nI (by omega) (by decide), v2, v2, v2⟩⟩
        obtain ⟨C', hl, hF⟩ := c_X7_type0 ad C l t2 x2 hb
        refine ⟨(nI (n0 + 1)), C', pg (pg M 5 n0 x2) 6 0 (nI (n0 + 1)), ?_, hF, fun l D E a1 a2 => ?_⟩
        · refine h.text0 (C1 := pg (pg C 0 n0 x2) 2 0 (nI (n0 + 1))) (m := n0 + 1) (by omega) pg_s (fun i a b => by rw [pg_r b, pg_r a]) rfl ?_ pg_s ?_ (fun j hj => ?_) (fun j hj => ?_) (fun i a b => by rw [pg_r b, pg_r a])
          · rw [show (pg (pg C 0 n0 x2) 2 0 (nI (n0 + 1))).1 0 = upd (C.1 0) n0 x2 from by rw [pg_r (by decide), pg_w]]
            exact hl
          · rw [pg_n (by decide), pg_o (by decide)]
          · rw [pg_o (k := 6) (by decide), pg_o (k := 2) (by decide)]
            by_cases e : j = n0
            · subst e; rw [pg_s, pg_s]
            · rw [pg_n e, pg_n e]; exact t5 j (by omega)
          · rw [pg_o (by decide), pg_n (by omega)]
        · refine (c_X8_type l D E a1 a2 ad' M 0 x2 hp).im ?_ ?_
          · rw [f_X8_type, if_pos two_y0, if_pos b2, show (0 : Int32).toNatClampNeg = 0 from rfl, if_pos rfl, if_neg ne, pg_s, t60, nI_1]
          · rw [s_X8_type, if_pos two_y0, if_pos b2, show (0 : Int32).toNatClampNeg = 0 from rfl, if_pos rfl, if_neg ne, ix, t60, nI_1, nI_clamp (by omega)]
      · have e40 : n0 = 40 := by omega
        subst e40
        refine ⟨(-4), C, M, h, fun l D E a1 a2 => c_X7_typeF ad C (k := 0) (by decide) x2 hb t2 l D E a1 a2, fun l D E a1 a2 => ?_⟩
        refine (c_X8_type l D E a1 a2 ad' M 0 x2 (fun _ _ => ⟨v2, fun z => absurd t60 z⟩)).im ?_ ?_
        · rw [f_X8_type, if_pos two_y0, if_pos b2, show (0 : Int32).toNatClampNeg = 0 from rfl, if_pos rfl, if_pos (show M.1 6 0 = 40 from t60)]
        · rw [s_X8_type, if_pos two_y0, if_pos b2, show (0 : Int32).toNatClampNeg = 0 from rfl, if_pos rfl, if_pos (show M.1 6 0 = 40 from t60)]
    · by_cases q1 : x1 = 1
      · subst q1
        have v2 : vp_in (1 : Int32) 2 := vp_in_nI (n := 1) (by decide) (by decide)
        have n10 : ¬ (1 : Int32) = 0 := by decide
        rcases Nat.lt_or_ge n1 71 with l | l
        · have ne : ¬ M.1 6 1 = 71 := fun z => by
            rw [t61] at z
            have := (nI_eq (a := n1) (b := 71) (by omega) (by decide)).mp z
            omega
          have ix : (40 * (1 : Int32) + M.1 6 1) = nI (40 + n1) := by rw [t61, show (40 * (1 : Int32)) = nI 40 from by decide, nI_add]
          have hp : p_X8_type M 1 x2 := fun _ _ => ⟨v2, fun _ => ⟨v2, by rw [show (1 : Int32).toNatClampNeg = 1 from rfl, ix]; exact vp_in_nI (by omega) (by decide), v2, v2, v2⟩⟩
          obtain ⟨C', hl, hF⟩ := c_X7_type1 ad C l t3 x2 hb
          refine ⟨(nI (n1 + 1)), C', pg (pg M 5 (40 + n1) x2) 6 1 (nI (n1 + 1)), ?_, hF, fun l D E a1 a2 => ?_⟩
          · refine h.text1 (C1 := pg (pg C 1 n1 x2) 3 0 (nI (n1 + 1))) (m := n1 + 1) (by omega) pg_s (fun i a b => by rw [pg_r b, pg_r a]) rfl ?_ pg_s ?_ (fun j hj => ?_) (fun j hj => ?_) (fun i a b => by rw [pg_r b, pg_r a])
            · rw [show (pg (pg C 1 n1 x2) 3 0 (nI (n1 + 1))).1 1 = upd (C.1 1) n1 x2 from by rw [pg_r (by decide), pg_w]]
              exact hl
            · rw [pg_n (by decide), pg_o (by decide)]
            · rw [pg_o (k := 6) (by decide), pg_o (k := 3) (by decide)]
              by_cases e : j = n1
              · subst e; rw [pg_s, pg_s]
              · rw [pg_n (by omega), pg_n e]; exact t54 j (by omega)
            · rw [pg_o (by decide), pg_n (by omega)]
          · refine (c_X8_type l D E a1 a2 ad' M 1 x2 hp).im ?_ ?_
            · rw [f_X8_type, if_pos two_y1, if_pos b2, show (1 : Int32).toNatClampNeg = 1 from rfl, if_neg n10, if_neg ne, pg_s, t61, nI_1]
            · rw [s_X8_type, if_pos two_y1, if_pos b2, show (1 : Int32).toNatClampNeg = 1 from rfl, if_neg n10, if_neg ne, ix, t61, nI_1, nI_clamp (by omega)]
        · have e71 : n1 = 71 := by omega
          subst e71
          refine ⟨(-4), C, M, h, fun l D E a1 a2 => c_X7_typeF ad C (k := 1) (by decide) x2 hb t3 l D E a1 a2, fun l D E a1 a2 => ?_⟩
          refine (c_X8_type l D E a1 a2 ad' M 1 x2 (fun _ _ => ⟨v2, fun z => absurd t61 z⟩)).im ?_ ?_
          · rw [f_X8_type, if_pos two_y1, if_pos b2, show (1 : Int32).toNatClampNeg = 1 from rfl, if_neg n10, if_pos (show M.1 6 1 = 71 from t61)]
          · rw [s_X8_type, if_pos two_y1, if_pos b2, show (1 : Int32).toNatClampNeg = 1 from rfl, if_neg n10, if_pos (show M.1 6 1 = 71 from t61)]
      · have b1 : ¬ f_X8_isTwo x1 = true := fun z => by
          rcases (isTwo_iff x1).mp z with e | e
          · exact q0 e
          · exact q1 e
        refine ⟨(-2), C, M, h, fun l D E a1 a2 => c_X7_typeB ad C x1 x2 (Or.inl ⟨q0, q1⟩) l D E a1 a2, fun l D E a1 a2 => ?_⟩
        refine (c_X8_type l D E a1 a2 ad' M x1 x2 (fun z => absurd z b1)).im ?_ ?_
        · rw [f_X8_type, if_neg b1]
        · rw [s_X8_type, if_neg b1]
  · have b2 : ¬ f_X8_in x2.toInt64 0 255 = true := by rw [← byte_b]; exact hb
    refine ⟨(-2), C, M, h, fun l D E a1 a2 => c_X7_typeB ad C x1 x2 (Or.inr (by cases e : f_X7_within x2 256 <;> first | rfl | exact absurd e hb)) l D E a1 a2, fun l D E a1 a2 => ?_⟩
    refine (c_X8_type l D E a1 a2 ad' M x1 x2 (fun _ z => absurd z b2)).im ?_ ?_
    · rw [f_X8_type]
      by_cases z : f_X8_isTwo x1 = true
      · rw [if_pos z, if_neg b2]
      · rw [if_neg z]
    · rw [s_X8_type]
      by_cases z : f_X8_isTwo x1 = true
      · rw [if_pos z, if_neg b2]
      · rw [if_neg z]
theorem pr_wipe (x1 : Int32) : Pr Value.int yX7_wipe wsX7_wipe 6 141 yX8_wipe wsX8_wipe 2 45 [.int x1] := by
  intro C M h ad ad'
  obtain ⟨n0, n1, k, hT, hS, hH, hK, hP, hL⟩ := id h
  obtain ⟨⟨h40, t2, t60, t5⟩, h71, t3, t61, t54⟩ := hT
  by_cases q0 : x1 = 0
  · subst q0
    have v2 : vp_in (0 : Int32) 2 := vp_in_nI (n := 0) (by decide) (by decide)
    obtain ⟨C', hl, hF⟩ := c_X7_wipe0 ad C
    refine ⟨(C.1 2 0), C', pg M 6 0 0, ?_, hF, fun l D E a1 a2 => ?_⟩
    · refine h.text0 (C1 := pg C 2 0 0) (m := 0) (by decide) pg_s (fun i a b => by rw [pg_r b]) rfl ?_ pg_s (pg_n (by decide)) (fun j hj => absurd hj (Nat.not_lt_zero j)) (fun j hj => pg_o (by decide)) (fun i a b => by rw [pg_r b])
      rw [show (pg C 2 0 0).1 0 = C.1 0 from pg_r (by decide)]
      exact hl
    · refine (c_X8_wipe l D E a1 a2 ad' M 0 (fun _ => ⟨v2, v2⟩)).im ?_ ?_
      · rw [f_X8_wipe, if_pos two_y0, t2]; exact t60
      · rw [s_X8_wipe, if_pos two_y0]; rfl
  · by_cases q1 : x1 = 1
    · subst q1
      have v2 : vp_in (1 : Int32) 2 := vp_in_nI (n := 1) (by decide) (by decide)
      obtain ⟨C', hl, hF⟩ := c_X7_wipe1 ad C
      refine ⟨(C.1 3 0), C', pg M 6 1 0, ?_, hF, fun l D E a1 a2 => ?_⟩
      · refine h.text1 (C1 := pg C 3 0 0) (m := 0) (by decide) pg_s (fun i a b => by rw [pg_r b]) rfl ?_ pg_s (pg_n (by decide)) (fun j hj => absurd hj (Nat.not_lt_zero j)) (fun j hj => pg_o (by decide)) (fun i a b => by rw [pg_r b])
        rw [show (pg C 3 0 0).1 1 = C.1 1 from pg_r (by decide)]
        exact hl
      · refine (c_X8_wipe l D E a1 a2 ad' M 1 (fun _ => ⟨v2, v2⟩)).im ?_ ?_
        · rw [f_X8_wipe, if_pos two_y1, t3]; exact t61
        · rw [s_X8_wipe, if_pos two_y1]; rfl
    · have b1 : ¬ f_X8_isTwo x1 = true := fun z => by
        rcases (isTwo_iff x1).mp z with e | e
        · exact q0 e
        · exact q1 e
      refine ⟨(-2), C, M, h, fun l D E a1 a2 => c_X7_wipeB ad C x1 q0 q1 l D E a1 a2, fun l D E a1 a2 => ?_⟩
      refine (c_X8_wipe l D E a1 a2 ad' M x1 (fun z => absurd z b1)).im ?_ ?_
      · rw [f_X8_wipe, if_neg b1]
      · rw [s_X8_wipe, if_neg b1]
theorem pr_undo (x1 : Int32) : Pr Value.int yX7_undo wsX7_undo 6 141 yX8_undo wsX8_undo 2 45 [.int x1] := by
  intro C M h ad ad'
  obtain ⟨n0, n1, k, hT, hS, hH, hK, hP, hL⟩ := id h
  obtain ⟨⟨h40, t2, t60, t5⟩, h71, t3, t61, t54⟩ := hT
  by_cases q0 : x1 = 0
  · subst q0
    have v2 : vp_in (0 : Int32) 2 := vp_in_nI (n := 0) (by decide) (by decide)
    cases n0 with
    | zero =>
      refine ⟨(-3), C, M, h, fun l D E a1 a2 => c_X7_undoN ad C (k := 0) (by decide) t2 l D E a1 a2, fun l D E a1 a2 => ?_⟩
      refine (c_X8_undo l D E a1 a2 ad' M 0 (fun _ => ⟨v2, fun _ => ⟨v2, v2, v2⟩⟩)).im ?_ ?_
      · rw [f_X8_undo, if_pos two_y0, if_pos (show M.1 6 (0 : Int32).toNatClampNeg = 0 from t60)]
      · rw [s_X8_undo, if_pos two_y0, if_pos (show M.1 6 (0 : Int32).toNatClampNeg = 0 from t60)]
    | succ n =>
      obtain ⟨C', hl, hF⟩ := c_X7_undo0 ad C (n := n) (by omega) t2
      have ne : ¬ M.1 6 (0 : Int32).toNatClampNeg = 0 := fun z => nI_ne0 (n := n + 1) (by omega) (by omega) (t60.symm.trans z)
      refine ⟨(nI n), C', pg M 6 0 (nI n), ?_, hF, fun l D E a1 a2 => ?_⟩
      · refine h.text0 (C1 := pg C 2 0 (nI n)) (m := n) (by omega) pg_s (fun i a b => by rw [pg_r b]) rfl ?_ pg_s (pg_n (by decide)) (fun j hj => ?_) (fun j hj => pg_o (by decide)) (fun i a b => by rw [pg_r b])
        · rw [show (pg C 2 0 (nI n)).1 0 = C.1 0 from pg_r (by decide)]
          exact hl
        · rw [pg_o (by decide), pg_o (by decide)]; exact t5 j (by omega)
      · refine (c_X8_undo l D E a1 a2 ad' M 0 (fun _ => ⟨v2, fun _ => ⟨v2, v2, v2⟩⟩)).im ?_ ?_
        · rw [f_X8_undo, if_pos two_y0, if_neg ne, pg_s, show (0 : Int32).toNatClampNeg = 0 from rfl, t60, nI_pred]
        · rw [s_X8_undo, if_pos two_y0, if_neg ne, show (0 : Int32).toNatClampNeg = 0 from rfl, t60, nI_pred]
  · by_cases q1 : x1 = 1
    · subst q1
      have v2 : vp_in (1 : Int32) 2 := vp_in_nI (n := 1) (by decide) (by decide)
      cases n1 with
      | zero =>
        refine ⟨(-3), C, M, h, fun l D E a1 a2 => c_X7_undoN ad C (k := 1) (by decide) t3 l D E a1 a2, fun l D E a1 a2 => ?_⟩
        refine (c_X8_undo l D E a1 a2 ad' M 1 (fun _ => ⟨v2, fun _ => ⟨v2, v2, v2⟩⟩)).im ?_ ?_
        · rw [f_X8_undo, if_pos two_y1, if_pos (show M.1 6 (1 : Int32).toNatClampNeg = 0 from t61)]
        · rw [s_X8_undo, if_pos two_y1, if_pos (show M.1 6 (1 : Int32).toNatClampNeg = 0 from t61)]
      | succ n =>
        obtain ⟨C', hl, hF⟩ := c_X7_undo1 ad C (n := n) (by omega) t3
        have ne : ¬ M.1 6 (1 : Int32).toNatClampNeg = 0 := fun z => nI_ne0 (n := n + 1) (by omega) (by omega) (t61.symm.trans z)
        refine ⟨(nI n), C', pg M 6 1 (nI n), ?_, hF, fun l D E a1 a2 => ?_⟩
        · refine h.text1 (C1 := pg C 3 0 (nI n)) (m := n) (by omega) pg_s (fun i a b => by rw [pg_r b]) rfl ?_ pg_s (pg_n (by decide)) (fun j hj => ?_) (fun j hj => pg_o (by decide)) (fun i a b => by rw [pg_r b])
          · rw [show (pg C 3 0 (nI n)).1 1 = C.1 1 from pg_r (by decide)]
            exact hl
          · rw [pg_o (by decide), pg_o (by decide)]; exact t54 j (by omega)
        · refine (c_X8_undo l D E a1 a2 ad' M 1 (fun _ => ⟨v2, fun _ => ⟨v2, v2, v2⟩⟩)).im ?_ ?_
          · rw [f_X8_undo, if_pos two_y1, if_neg ne, pg_s, show (1 : Int32).toNatClampNeg = 1 from rfl, t61, nI_pred]
          · rw [s_X8_undo, if_pos two_y1, if_neg ne, show (1 : Int32).toNatClampNeg = 1 from rfl, t61, nI_pred]
    · have b1 : ¬ f_X8_isTwo x1 = true := fun z => by
        rcases (isTwo_iff x1).mp z with e | e
        · exact q0 e
        · exact q1 e
      refine ⟨(-2), C, M, h, fun l D E a1 a2 => c_X7_undoB ad C x1 q0 q1 l D E a1 a2, fun l D E a1 a2 => ?_⟩
      refine (c_X8_undo l D E a1 a2 ad' M x1 (fun z => absurd z b1)).im ?_ ?_
      · rw [f_X8_undo, if_neg b1]
      · rw [s_X8_undo, if_neg b1]
theorem Rel.clues {C M C' M' : MS} {k' : Nat} (h : Rel C M) (oc : ∀ i, i ≠ 12 → i ≠ 13 → i ≠ 15 → C'.1 i = C.1 i) (oc2 : C'.2 = C.2) (om : ∀ i, i ≠ 14 → i ≠ 15 → M'.1 i = M.1 i) (hK : RelK C' M' k') : Rel C' M' := by
  obtain ⟨n0, n1, k, hT, hS, hH, _, hP, hL⟩ := h
  have e : ∀ i, i ≠ 12 ∧ i ≠ 13 ∧ i ≠ 15 → C'.1 i = C.1 i := fun i q => oc i q.1 q.2.1 q.2.2
  refine ⟨n0, n1, k', ?_, ?_, ?_, hK, fun s hs => ?_, ?_⟩
  · unfold RelT at hT ⊢
    rw [e 2 (by decide), e 0 (by decide), e 3 (by decide), e 1 (by decide), om 6 (by decide) (by decide), om 5 (by decide) (by decide)]; exact hT
  · unfold RelS at hS ⊢
    rw [e 7 (by decide), e 0 (by decide), e 6 (by decide), e 4 (by decide), e 5 (by decide)]; exact hS
  · unfold RelH at hH ⊢
    rw [e 8 (by decide), e 1 (by decide), oc2]; exact hH
  · refine (hP s hs).of (e _ (by omega)) (e _ (by omega)) (e _ (by omega)) (e _ (by omega)) (by rw [om 0 (by decide) (by decide)]) (by rw [om 1 (by decide) (by decide)]) (fun i _ => by rw [om 2 (by decide) (by decide)])
  · rw [e 16 (by decide), om 4 (by decide) (by decide)]; exact hL
def seenOk (C M : MS) (x y : Int32) : Prop := f_X7_seen C x y = f_X8_seen M x y ∧ Rel (s_X7_seen C x y) (s_X8_seen M x y) ∧ p_X8_seen M x y ∧ ((f_X8_seen M x y ≤ 0 ∧ f_X8_seen M x y < 0) ∨ (¬ f_X8_seen M x y ≤ 0 ∧ ¬ f_X8_seen M x y < 0))
theorem seen_pair {C M : MS} (h : Rel C M) (x y : Int32) : seenOk C M x y := by
  obtain ⟨n0, n1, k, hT, hS, hH, hK, hP, hL⟩ := id h
  obtain ⟨k8, e15, e14, hk⟩ := id hK
  have b1 : f_X7_within x 4 = f_X8_in x.toInt64 0 3 := in_b (m := 3) (by decide)
  have b2 : f_X7_within y 625 = f_X8_in y.toInt64 0 624 := in_b (m := 624) (by decide)
  have ck : (nI k).toNatClampNeg = k := nI_clamp (by omega)
  have d2 : 2 * nI k = nI (2 * k) := by rw [show (2 : Int32) = nI 2 from rfl, pk_mul]
  have hp : p_X8_seen M x y := fun _ _ z => by
    have : k < 8 := by
      rcases Nat.lt_or_ge k 8 with l | l
      · exact l
      · exact absurd (by rw [e14, show k = 8 by omega]; rfl) z
    rw [e14, d2, nI_1]
    exact ⟨vp_in_nI (by omega) (by decide), vp_in_nI (by omega) (by decide)⟩
  unfold seenOk f_X7_seen s_X7_seen f_X0_mayBe f_X0_add s_X0_add f_X8_seen s_X8_seen
  rw [b1, b2]
  by_cases q1 : f_X8_in x.toInt64 0 3 = true
  · rw [if_pos q1, if_pos q1, if_pos q1]
    by_cases q2 : f_X8_in y.toInt64 0 624 = true
    · rw [if_pos q2, if_pos q2, if_pos q2]
      rcases Nat.lt_or_ge k 8 with l | l
      · have w : f_X7_within (C.1 15 0) 8 = true := by rw [e15]; exact within_y (n := 8) (by decide) l
        have ne : ¬ M.1 14 0 = 8 := fun z => by
          rw [e14] at z
          have := (nI_eq (a := k) (b := 8) (by omega) (by decide)).mp z
          omega
        rw [if_pos w, if_pos w, if_neg ne, if_neg ne]
        repeat rw [if_pos rfl]
        rw [e15, e14, ck, d2, nI_1, nI_1, nI_clamp (show 2 * k < 2 ^ 31 by omega), nI_clamp (show 2 * k + 1 < 2 ^ 31 by omega), pg_s]
        refine ⟨rfl, ?_, hp, Or.inr ⟨nI_nle (by omega) (by omega), nI_pos (by omega)⟩⟩
        obtain ⟨i, hi, rfl⟩ := (in_nI (m := 3) (by decide)).mp q1
        refine h.clues (k' := k + 1) (fun i a b c => by rw [pg_r c, pg_r b, pg_r a]) rfl (fun i a b => by rw [pg_r a, pg_r b, pg_r b]) ⟨by omega, pg_s, pg_s, fun j hj => ?_⟩
        by_cases e : j = k
        · subst e
          refine ⟨⟨i, by omega, ?_, ?_⟩, ?_⟩
          · rw [pg_o (by decide), pg_o (by decide), pg_s]
          · rw [pg_o (by decide), pg_n (by omega), pg_s]
          · rw [pg_o (by decide), pg_s, pg_o (by decide), pg_s]
        · obtain ⟨⟨s, hs, c12, m15⟩, c13⟩ := hk j (by omega)
          refine ⟨⟨s, hs, ?_, ?_⟩, ?_⟩
          · rw [pg_o (by decide), pg_o (by decide), pg_n e]; exact c12
          · rw [pg_o (by decide), pg_n (by omega), pg_n (by omega)]; exact m15
          · rw [pg_o (by decide), pg_n e, pg_o (by decide), pg_o (by decide), pg_n (by omega), pg_n (by omega)]; exact c13
      · have e8 : k = 8 := by omega
        subst e8
        have w : ¬ f_X7_within (C.1 15 0) 8 = true := by rw [e15]; decide
        rw [if_neg w, if_neg w, if_pos (show M.1 14 0 = 8 from e14), if_pos (show M.1 14 0 = 8 from e14), if_pos rfl, if_neg (by decide), if_pos rfl]
        exact ⟨rfl, h, hp, Or.inl ⟨by decide, by decide⟩⟩
    · rw [if_neg q2, if_neg q2, if_neg q2, if_neg (by decide), if_neg (by decide)]
      exact ⟨rfl, h, hp, Or.inl ⟨by decide, by decide⟩⟩
  · rw [if_neg q1, if_neg q1, if_neg q1, if_neg (by decide), if_neg (by decide)]
    exact ⟨rfl, h, hp, Or.inl ⟨by decide, by decide⟩⟩
theorem pr_seen (x1 x2 : Int32) : Pr Value.int yX7_seen wsX7_seen 2 43 yX8_seen wsX8_seen 1 25 [.int x1, .int x2] := by
  intro C M h ad ad'
  obtain ⟨e, hR, hp, _⟩ := seen_pair h x1 x2
  refine ⟨(f_X7_seen C x1 x2), s_X7_seen C x1 x2, s_X8_seen M x1 x2, hR, fun l D E a1 a2 => c_X7_seen l D E a1 a2 ad C x1 x2, fun l D E a1 a2 => ?_⟩
  rw [e]
  exact c_X8_seen l D E a1 a2 ad' M x1 x2 hp
theorem pr_forget : Pr Value.int yX7_forget wsX7_forget 0 0 yX8_forget wsX8_forget 0 0 [] := by
  intro C M h ad ad'
  obtain ⟨n0, n1, k, hT, hS, hH, hK, hP, hL⟩ := id h
  refine ⟨(f_X7_forget C), s_X7_forget C, s_X8_forget M, ?_, fun l D E a1 a2 => c_X7_forget l D E a1 a2 ad C, fun l D E a1 a2 => ?_⟩
  · show Rel (pg C 15 0 0) (pg M 14 0 0)
    exact h.clues (k' := 0) (fun i a b c => pg_r c) rfl (fun i a b => pg_r a) ⟨by decide, pg_s, pg_s, fun j hj => absurd hj (Nat.not_lt_zero j)⟩
  · refine (c_X8_forget l D E a1 a2 ad' M).im ?_ rfl
    show M.1 14 0 = C.1 15 0
    rw [hK.2.1, hK.2.2.1]
end
