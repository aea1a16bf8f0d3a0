section
/-! one question at a time -/
theorem Bo.okC {C S : MS} {cnt k : Nat} {sh : Nat → Nat} (h : Bo C S cnt sh k) : okC C := ⟨cnt, h.1, h.2.1⟩
theorem Bo.okK {C S : MS} {cnt k : Nat} {sh : Nat → Nat} (h : Bo C S cnt sh k) : okK C := ⟨k, h.2.2.2.2.2.1, h.2.2.2.2.2.2.1⟩
theorem Bo.fit {C S : MS} {cnt k : Nat} {sh : Nat → Nat} (h : Bo C S cnt sh k) : p_X8_fitsOf S := ⟨⟨cnt, h.1, h.2.2.1⟩, ⟨k, h.2.2.2.2.2.1, h.2.2.2.2.2.2.2.1⟩⟩
theorem Bo.okSh {C S : MS} {cnt k : Nat} {sh : Nat → Nat} (h : Bo C S cnt sh k) : okSh S := ⟨cnt, h.1, h.2.2.1, fun j hj => by rw [(h.sh hj).2]; exact sh16_p (h.sh hj).1⟩
theorem Bo.ref {C S S' : MS} {cnt k : Nat} {sh : Nat → Nat} (h : Bo C S cnt sh k) (e8 : S'.1 8 = S.1 8) (e9 : S'.1 9 = S.1 9) (e10 : S'.1 10 = S.1 10) (e14 : S'.1 14 = S.1 14) (e15 : S'.1 15 = S.1 15) : Bo C S' cnt sh k := by
  unfold Bo RelK at h ⊢
  rw [e8, e9, e10, e14, e15]
  exact h
theorem pS {C S : MS} {cnt k : Nat} {sh : Nat → Nat} (h : Bo C S cnt sh k) {x : Int32} (q : f_X8_isShape S x = true) : vp_in x 8 ∧ p_X8_movedUp (S.1 9 x.toNatClampNeg) := by
  obtain ⟨s, hs, rfl⟩ := (isShape_iff h.1 h.2.2.1 x).mp q
  have h8 := h.1
  rw [nI_clamp (show s < 2 ^ 31 by omega), (h.sh hs).2]
  exact ⟨vp_in_nI (by omega) (by decide), sh16_p (h.sh hs).1⟩
theorem pT {C S : MS} {cnt k : Nat} {sh : Nat → Nat} (h : Bo C S cnt sh k) {x y z : Int32} (q : f_X8_isStand S x y z = true) : vp_in x 8 ∧ p_X8_canStand z := by
  obtain ⟨s, t, c, ⟨hs, ht, hc⟩, rfl, rfl, rfl⟩ := (isStand_iff h.1 h.2.2.1 x y z).mp q
  have h8 := h.1
  exact ⟨vp_in_nI (by omega) (by decide), c, hc, rfl⟩
theorem pV {C S : MS} {cnt k : Nat} {sh : Nat → Nat} (h : Bo C S cnt sh k) {x : Int32} (q : f_X8_isFree S x = true) : p_X8_viewOf S x := by
  obtain ⟨c, hc, rfl, _⟩ := (mfree_iff h x).mp q
  exact ⟨⟨c, 0, hc, by decide, rfl, rfl⟩, ⟨c, 1, hc, by decide, rfl, rfl⟩, ⟨c, 2, hc, by decide, rfl, rfl⟩, ⟨c, 3, hc, by decide, rfl, rfl⟩⟩
theorem pZ {C S : MS} {cnt k : Nat} {sh : Nat → Nat} (h : Bo C S cnt sh k) {x y : Int32} (q : f_X8_isFree S x = true) (q' : f_X8_isFree S y = true) : p_X8_stepsTo x y := by
  obtain ⟨c, hc, rfl, _⟩ := (mfree_iff h x).mp q
  obtain ⟨d, hd, rfl, _⟩ := (mfree_iff h y).mp q'
  exact ⟨c, d, hc, hd, rfl, rfl⟩
theorem pVC {C : MS} {x : Int32} (q : f_X1_isFree C x = true) : p_X1_viewFrom x := by
  obtain ⟨c, hc, e, _⟩ := (cfree_iff x).mp q
  exact ⟨c, hc, e⟩
def f_X7_fog (C : MS) (x y z w : Int32) : Int64 := if f_X1_isFree C x then (if f_X1_isFree C y then (if f_X7_within z 17 then (if f_X7_within w 2 then fogC C x.toNatClampNeg y.toNatClampNeg z.toNatClampNeg w else f_X8_no (-2)) else f_X8_no (-2)) else f_X8_no (-2)) else f_X8_no (-2)
theorem v_fog {C S : MS} {cnt k : Nat} {sh : Nat → Nat} (h : Bo C S cnt sh k) (x y z w : Int32) : f_X7_fog C x y z w = f_X8_fog S x y z w := by
  have b3 : f_X7_within z 17 = f_X8_in z.toInt64 0 16 := in_b (m := 16) (by decide)
  unfold f_X8_fog f_X7_fog
  rw [← free_b h, ← free_b h, ← b3, ← two_b]
  by_cases q1 : f_X1_isFree C x = true
  · rw [if_pos q1, if_pos q1]
    by_cases q2 : f_X1_isFree C y = true
    · rw [if_pos q2, if_pos q2]
      by_cases q3 : f_X7_within z 17 = true
      · rw [if_pos q3, if_pos q3]
        by_cases q4 : f_X7_within w 2 = true
        · rw [if_pos q4, if_pos q4]
          obtain ⟨c, hc, rfl, f1⟩ := (cfree_iff x).mp q1
          obtain ⟨d, hd, rfl, f2⟩ := (cfree_iff y).mp q2
          obtain ⟨i, hi, rfl⟩ := (within_iff (n := 17) (by decide)).mp q3
          rw [nI_clamp (show c < 2 ^ 31 by omega), nI_clamp (show d < 2 ^ 31 by omega), nI_clamp (show i < 2 ^ 31 by omega)]
          exact fog_v h hc hd (by omega) w
        · rw [if_neg q4, if_neg q4]
      · rw [if_neg q3, if_neg q3]
    · rw [if_neg q2, if_neg q2]
  · rw [if_neg q1, if_neg q1]
theorem c_X7_fog1 {C S : MS} {cnt k : Nat} {sh : Nat → Nat} (h : Bo C S cnt sh k) (ad : Nat → Nat) (x y z w : Int32) (l : Launch) (D : va_G) (E : Nat → ClassId) (a1 a2 : Nat) : Fn l D E a1 a2 yX7_fog wsX7_fog 3 75 [.ref (ad 0), .int x, .int y, .int z, .int w] (cW E ad C) (some (.long (f_X7_fog C x y z w))) (cW E ad C) := by
  rw [v_fog h]
  exact fog_c h ad x y z w l D E a1 a2
theorem qC_shape {C S : MS} (h : JM C S) (x1 x2 : Int32) : AnC C yX7_shape wsX7_shape 3 64 [.int x1, .int x2] (.int (f_X7_shape C x1 x2)) := by
  intro ad C' hk
  obtain ⟨_, cnt, sh, k, hB⟩ := h
  have e := v_shape hB x1 x2
  replace hB := hB.keep hk
  refine ⟨C', hk, fun l D E a1 a2 => ?_⟩
  rw [e, ← v_shape hB x1 x2]
  exact c_X7_shape l D E a1 a2 ad C' x1 x2
theorem qM_shape (C : MS) (x1 x2 : Int32) : AnM C yX8_shape wsX8_shape 4 90 [.int x1, .int x2] (.int (f_X7_shape C x1 x2)) := by
  refine AnM.of (fun ad M S1 cnt k sh hB hR hr => ⟨S1, keepQ.rf S1, hB, fun l D E a1 a2 => ?_⟩)
  rw [v_shape hB x1 x2]
  exact c_X8_shape ad M S1 hr x1 x2 (fun q _ => (pS hB q).1) l D E a1 a2
theorem pr_shape (x1 x2 : Int32) : Pr Value.int yX7_shape wsX7_shape 3 64 yX8_shape wsX8_shape 4 90 [.int x1, .int x2] := Pr.of (fun C S h => ⟨_, qC_shape h x1 x2, qM_shape C x1 x2⟩)
theorem qC_sight {C S : MS} (h : JM C S) (x1 x2 x3 : Int32) : AnC C yX7_sight wsX7_sight 3 64 [.int x1, .int x2, .int x3] (.int (f_X7_sight C x1 x2 x3)) := by
  intro ad C' hk
  obtain ⟨_, cnt, sh, k, hB⟩ := h
  have e := v_sight hB x1 x2 x3
  replace hB := hB.keep hk
  refine ⟨C', hk, fun l D E a1 a2 => ?_⟩
  rw [e, ← v_sight hB x1 x2 x3]
  exact c_X7_sight l D E a1 a2 ad C' x1 x2 x3
theorem qM_sight (C : MS) (x1 x2 x3 : Int32) : AnM C yX8_sight wsX8_sight 4 90 [.int x1, .int x2, .int x3] (.int (f_X7_sight C x1 x2 x3)) := by
  refine AnM.of (fun ad M S1 cnt k sh hB hR hr => ⟨S1, keepQ.rf S1, hB, fun l D E a1 a2 => ?_⟩)
  rw [v_sight hB x1 x2 x3]
  exact c_X8_sight ad M S1 hr x1 x2 x3 (fun q _ _ => (pS hB q).1) l D E a1 a2
theorem pr_sight (x1 x2 x3 : Int32) : Pr Value.int yX7_sight wsX7_sight 3 64 yX8_sight wsX8_sight 4 90 [.int x1, .int x2, .int x3] := Pr.of (fun C S h => ⟨_, qC_sight h x1 x2 x3, qM_sight C x1 x2 x3⟩)
theorem qC_form {C S : MS} (h : JM C S) (x1 x2 : Int32) : AnC C yX7_form wsX7_form 2 42 [.int x1, .int x2] (.int (f_X7_form C x1 x2)) := by
  intro ad C' hk
  obtain ⟨_, cnt, sh, k, hB⟩ := h
  have e := v_form hB x1 x2
  replace hB := hB.keep hk
  refine ⟨C', hk, fun l D E a1 a2 => ?_⟩
  rw [e, ← v_form hB x1 x2]
  exact c_X7_form l D E a1 a2 ad C' x1 x2
theorem qM_form (C : MS) (x1 x2 : Int32) : AnM C yX8_form wsX8_form 4 94 [.int x1, .int x2] (.int (f_X7_form C x1 x2)) := by
  refine AnM.of (fun ad M S1 cnt k sh hB hR hr => ⟨S1, keepQ.rf S1, hB, fun l D E a1 a2 => ?_⟩)
  rw [v_form hB x1 x2]
  exact c_X8_form ad M S1 hr x1 x2 (fun q _ => ⟨fun _ => pS hB q, fun _ => ⟨fun _ => (pS hB q).1, fun _ => (pS hB q).1⟩⟩) l D E a1 a2
theorem pr_form (x1 x2 : Int32) : Pr Value.int yX7_form wsX7_form 2 42 yX8_form wsX8_form 4 94 [.int x1, .int x2] := Pr.of (fun C S h => ⟨_, qC_form h x1 x2, qM_form C x1 x2⟩)
theorem qC_kin {C S : MS} (h : JM C S) (x1 x2 : Int32) : AnC C yX7_kin wsX7_kin 4 91 [.int x1, .int x2] (.int (f_X7_kin C x1 x2)) := by
  intro ad C' hk
  obtain ⟨_, cnt, sh, k, hB⟩ := h
  have e := v_kin hB x1 x2
  replace hB := hB.keep hk
  refine ⟨C', hk, fun l D E a1 a2 => ?_⟩
  rw [e, ← v_kin hB x1 x2]
  exact c_X7_kin l D E a1 a2 ad C' x1 x2 (fun _ _ => hB.okC)
theorem qM_kin (C : MS) (x1 x2 : Int32) : AnM C yX8_kin wsX8_kin 5 115 [.int x1, .int x2] (.int (f_X7_kin C x1 x2)) := by
  refine AnM.of (fun ad M S1 cnt k sh hB hR hr => ⟨S1, keepQ.rf S1, hB, fun l D E a1 a2 => ?_⟩)
  rw [v_kin hB x1 x2]
  exact c_X8_kin ad M S1 hr x1 x2 (fun q _ => ⟨hB.okSh, pS hB q⟩) l D E a1 a2
theorem pr_kin (x1 x2 : Int32) : Pr Value.int yX7_kin wsX7_kin 4 91 yX8_kin wsX8_kin 5 115 [.int x1, .int x2] := Pr.of (fun C S h => ⟨_, qC_kin h x1 x2, qM_kin C x1 x2⟩)
theorem qC_self {C S : MS} (h : JM C S) (x1 : Int32) : AnC C yX7_self wsX7_self 3 67 [.int x1] (.int (f_X7_self C x1)) := by
  intro ad C' hk
  obtain ⟨_, cnt, sh, k, hB⟩ := h
  have e := v_self hB x1
  replace hB := hB.keep hk
  refine ⟨C', hk, fun l D E a1 a2 => ?_⟩
  rw [e, ← v_self hB x1]
  exact c_X7_self l D E a1 a2 ad C' x1
theorem qM_self (C : MS) (x1 : Int32) : AnM C yX8_self wsX8_self 4 90 [.int x1] (.int (f_X7_self C x1)) := by
  refine AnM.of (fun ad M S1 cnt k sh hB hR hr => ⟨S1, keepQ.rf S1, hB, fun l D E a1 a2 => ?_⟩)
  rw [v_self hB x1]
  exact c_X8_self ad M S1 hr x1 (fun q => pS hB q) l D E a1 a2
theorem pr_self (x1 : Int32) : Pr Value.int yX7_self wsX7_self 3 67 yX8_self wsX8_self 4 90 [.int x1] := Pr.of (fun C S h => ⟨_, qC_self h x1, qM_self C x1⟩)
theorem qC_stands {C S : MS} (h : JM C S) (x1 x2 x3 : Int32) : AnC C yX7_stands wsX7_stands 4 87 [.int x1, .int x2, .int x3] (.int (f_X7_stands C x1 x2 x3)) := by
  intro ad C' hk
  obtain ⟨_, cnt, sh, k, hB⟩ := h
  have e := v_stands hB x1 x2 x3
  replace hB := hB.keep hk
  refine ⟨C', hk, fun l D E a1 a2 => ?_⟩
  rw [e, ← v_stands hB x1 x2 x3]
  exact c_X7_stands l D E a1 a2 ad C' x1 x2 x3
theorem qM_stands (C : MS) (x1 x2 x3 : Int32) : AnM C yX8_stands wsX8_stands 4 90 [.int x1, .int x2, .int x3] (.int (f_X7_stands C x1 x2 x3)) := by
  refine AnM.of (fun ad M S1 cnt k sh hB hR hr => ⟨S1, keepQ.rf S1, hB, fun l D E a1 a2 => ?_⟩)
  rw [v_stands hB x1 x2 x3]
  exact c_X8_stands ad M S1 hr x1 x2 x3 (fun q => pT hB q) l D E a1 a2
theorem pr_stands (x1 x2 x3 : Int32) : Pr Value.int yX7_stands wsX7_stands 4 87 yX8_stands wsX8_stands 4 90 [.int x1, .int x2, .int x3] := Pr.of (fun C S h => ⟨_, qC_stands h x1 x2 x3, qM_stands C x1 x2 x3⟩)
theorem qC_meet {C S : MS} (h : JM C S) (x1 x2 x3 x4 x5 x6 : Int32) : AnC C yX7_meet wsX7_meet 4 87 [.int x1, .int x2, .int x3, .int x4, .int x5, .int x6] (.int (f_X7_meet C x1 x2 x3 x4 x5 x6)) := by
  intro ad C' hk
  obtain ⟨_, cnt, sh, k, hB⟩ := h
  have e := v_meet hB x1 x2 x3 x4 x5 x6
  replace hB := hB.keep hk
  refine ⟨C', hk, fun l D E a1 a2 => ?_⟩
  rw [e, ← v_meet hB x1 x2 x3 x4 x5 x6]
  exact c_X7_meet l D E a1 a2 ad C' x1 x2 x3 x4 x5 x6
theorem qM_meet (C : MS) (x1 x2 x3 x4 x5 x6 : Int32) : AnM C yX8_meet wsX8_meet 4 99 [.int x1, .int x2, .int x3, .int x4, .int x5, .int x6] (.int (f_X7_meet C x1 x2 x3 x4 x5 x6)) := by
  refine AnM.of (fun ad M S1 cnt k sh hB hR hr => ⟨S1, keepQ.rf S1, hB, fun l D E a1 a2 => ?_⟩)
  rw [v_meet hB x1 x2 x3 x4 x5 x6]
  exact c_X8_meet ad M S1 hr x1 x2 x3 x4 x5 x6 (fun q q' => ⟨(pT hB q).1, (pT hB q').1, (pT hB q).2, (pT hB q').2⟩) l D E a1 a2
theorem pr_meet (x1 x2 x3 x4 x5 x6 : Int32) : Pr Value.int yX7_meet wsX7_meet 4 87 yX8_meet wsX8_meet 4 99 [.int x1, .int x2, .int x3, .int x4, .int x5, .int x6] := Pr.of (fun C S h => ⟨_, qC_meet h x1 x2 x3 x4 x5 x6, qM_meet C x1 x2 x3 x4 x5 x6⟩)
theorem qC_fits {C S : MS} (h : JM C S) (x1 : Int32) : AnC C yX7_fits wsX7_fits 3 72 [.int x1] (.int (f_X7_fits C x1)) := by
  intro ad C' hk
  obtain ⟨_, cnt, sh, k, hB⟩ := h
  have e := v_fits hB x1
  replace hB := hB.keep hk
  refine ⟨C', hk, fun l D E a1 a2 => ?_⟩
  rw [e, ← v_fits hB x1]
  exact c_X7_fits l D E a1 a2 ad C' x1 (fun _ => ⟨fun _ => ⟨hB.okC, hB.okK⟩, fun _ => ⟨hB.okC, hB.okK⟩⟩)
theorem qM_fits (C : MS) (x1 : Int32) : AnM C yX8_fits wsX8_fits 5 116 [.int x1] (.int (f_X7_fits C x1)) := by
  refine AnM.of (fun ad M S1 cnt k sh hB hR hr => ⟨S1, keepQ.rf S1, hB, fun l D E a1 a2 => ?_⟩)
  rw [v_fits hB x1]
  exact c_X8_fits ad M S1 hr x1 (fun _ => hB.fit) l D E a1 a2
theorem pr_fits (x1 : Int32) : Pr Value.int yX7_fits wsX7_fits 3 72 yX8_fits wsX8_fits 5 116 [.int x1] := Pr.of (fun C S h => ⟨_, qC_fits h x1, qM_fits C x1⟩)
theorem qC_view {C S : MS} (h : JM C S) (x1 : Int32) : AnC C yX7_view wsX7_view 3 75 [.int x1] (.int (f_X7_view C x1)) := by
  intro ad C' hk
  obtain ⟨_, cnt, sh, k, hB⟩ := h
  have e := v_view hB x1
  replace hB := hB.keep hk
  refine ⟨C', hk, fun l D E a1 a2 => ?_⟩
  rw [e, ← v_view hB x1]
  exact c_X7_view l D E a1 a2 ad C' x1 (fun q => pVC q)
theorem qM_view (C : MS) (x1 : Int32) : AnM C yX8_view wsX8_view 4 94 [.int x1] (.int (f_X7_view C x1)) := by
  refine AnM.of (fun ad M S1 cnt k sh hB hR hr => ⟨S1, keepQ.rf S1, hB, fun l D E a1 a2 => ?_⟩)
  rw [v_view hB x1]
  exact c_X8_view ad M S1 hr x1 ⟨p_free _ _, fun q => pV hB q⟩ l D E a1 a2
theorem pr_view (x1 : Int32) : Pr Value.int yX7_view wsX7_view 3 75 yX8_view wsX8_view 4 94 [.int x1] := Pr.of (fun C S h => ⟨_, qC_view h x1, qM_view C x1⟩)
theorem qC_sees {C S : MS} (h : JM C S) (x1 x2 : Int32) : AnC C yX7_sees wsX7_sees 3 75 [.int x1, .int x2] (.int (f_X7_sees C x1 x2)) := by
  intro ad C' hk
  obtain ⟨_, cnt, sh, k, hB⟩ := h
  have e := v_sees hB x1 x2
  replace hB := hB.keep hk
  refine ⟨C', hk, fun l D E a1 a2 => ?_⟩
  rw [e, ← v_sees hB x1 x2]
  exact c_X7_sees l D E a1 a2 ad C' x1 x2 (fun q _ => pVC q)
theorem qM_sees (C : MS) (x1 x2 : Int32) : AnM C yX8_sees wsX8_sees 4 90 [.int x1, .int x2] (.int (f_X7_sees C x1 x2)) := by
  refine AnM.of (fun ad M S1 cnt k sh hB hR hr => ⟨S1, keepQ.rf S1, hB, fun l D E a1 a2 => ?_⟩)
  rw [v_sees hB x1 x2]
  exact c_X8_sees ad M S1 hr x1 x2 ⟨p_free _ _, fun q => ⟨p_free _ _, fun q' => pZ hB q q'⟩⟩ l D E a1 a2
theorem pr_sees (x1 x2 : Int32) : Pr Value.int yX7_sees wsX7_sees 3 75 yX8_sees wsX8_sees 4 90 [.int x1, .int x2] := Pr.of (fun C S h => ⟨_, qC_sees h x1 x2, qM_sees C x1 x2⟩)
theorem qC_echoes {C S : MS} (h : JM C S) (x1 x2 x3 x4 x5 : Int32) : AnC C yX7_echoes wsX7_echoes 3 71 [.int x1, .int x2, .int x3, .int x4, .int x5] (.int (f_X7_echoes C x1 x2 x3 x4 x5)) := by
  intro ad C' hk
  obtain ⟨_, cnt, sh, k, hB⟩ := h
  have e := v_echoes hB x1 x2 x3 x4 x5
  replace hB := hB.keep hk
  refine ⟨C', hk, fun l D E a1 a2 => ?_⟩
  rw [e, ← v_echoes hB x1 x2 x3 x4 x5]
  exact c_X7_echoes l D E a1 a2 ad C' x1 x2 x3 x4 x5
theorem qM_echoes (C : MS) (x1 x2 x3 x4 x5 : Int32) : AnM C yX8_echoes wsX8_echoes 5 124 [.int x1, .int x2, .int x3, .int x4, .int x5] (.int (f_X7_echoes C x1 x2 x3 x4 x5)) := by
  refine AnM.of (fun ad M S1 cnt k sh hB hR hr => ⟨S1, keepQ.rf S1, hB, fun l D E a1 a2 => ?_⟩)
  rw [v_echoes hB x1 x2 x3 x4 x5]
  exact c_X8_echoes ad M S1 hr x1 x2 x3 x4 x5 l D E a1 a2
theorem pr_echoes (x1 x2 x3 x4 x5 : Int32) : Pr Value.int yX7_echoes wsX7_echoes 3 71 yX8_echoes wsX8_echoes 5 124 [.int x1, .int x2, .int x3, .int x4, .int x5] := Pr.of (fun C S h => ⟨_, qC_echoes h x1 x2 x3 x4 x5, qM_echoes C x1 x2 x3 x4 x5⟩)
theorem qC_fog {C S : MS} (h : JM C S) (x1 x2 x3 x4 : Int32) : AnC C yX7_fog wsX7_fog 3 75 [.int x1, .int x2, .int x3, .int x4] (.long (f_X7_fog C x1 x2 x3 x4)) := by
  intro ad C' hk
  obtain ⟨_, cnt, sh, k, hB⟩ := h
  have e := v_fog hB x1 x2 x3 x4
  replace hB := hB.keep hk
  refine ⟨C', hk, fun l D E a1 a2 => ?_⟩
  rw [e, ← v_fog hB x1 x2 x3 x4]
  exact c_X7_fog1 hB ad x1 x2 x3 x4 l D E a1 a2
theorem qM_fog (C : MS) (x1 x2 x3 x4 : Int32) : AnM C yX8_fog wsX8_fog 4 105 [.int x1, .int x2, .int x3, .int x4] (.long (f_X7_fog C x1 x2 x3 x4)) := by
  refine AnM.of (fun ad M S1 cnt k sh hB hR hr => ⟨S1, keepQ.rf S1, hB, fun l D E a1 a2 => ?_⟩)
  rw [v_fog hB x1 x2 x3 x4]
  exact c_X8_fog ad M S1 hr x1 x2 x3 x4 ⟨p_free _ _, fun q => ⟨p_free _ _, fun q' q3 _ => ⟨pZ hB q q', by obtain ⟨i, hi, e⟩ := (in_nI (m := 16) (by decide)).mp q3; exact ⟨i, hi, e⟩⟩⟩⟩ l D E a1 a2
theorem pr_fog (x1 x2 x3 x4 : Int32) : Pr Value.long yX7_fog wsX7_fog 3 75 yX8_fog wsX8_fog 4 105 [.int x1, .int x2, .int x3, .int x4] := Pr.of (fun C S h => ⟨_, qC_fog h x1 x2 x3 x4, qM_fog C x1 x2 x3 x4⟩)
theorem qC_count {C S : MS} (h : JM C S) (x1 : Int32) : AnC C yX7_count wsX7_count 4 91 [.int x1] (.int (f_X7_count C x1)) := by
  intro ad C' hk
  obtain ⟨hR, cnt, sh, k, hB⟩ := h
  have e := v_count hB hR x1
  replace hB := hB.keep hk
  refine ⟨C', hk, fun l D E a1 a2 => ?_⟩
  rw [e, ← v_count hB (hR.keep hk (keepQ.rf S)) x1]
  exact c_X7_count ad C' hB.okC x1 l D E a1 a2
theorem qM_count (C : MS) (x1 : Int32) : AnM C yX8_count wsX8_count 4 90 [.int x1] (.int (f_X7_count C x1)) := by
  refine AnM.of (fun ad M S1 cnt k sh hB hR hr => ⟨S1, keepQ.rf S1, hB, fun l D E a1 a2 => ?_⟩)
  rw [v_count hB hR x1]
  exact c_X8_count ad M S1 hr hB.okSh x1 l D E a1 a2
theorem pr_count (x1 : Int32) : Pr Value.int yX7_count wsX7_count 4 91 yX8_count wsX8_count 4 90 [.int x1] := Pr.of (fun C S h => ⟨_, qC_count h x1, qM_count C x1⟩)
theorem qC_look {C S : MS} (h : JM C S) (x1 : Int32) : AnC C yX7_look wsX7_look 3 74 [.int x1] (.int (f_X7_look C x1)) := by
  intro ad C' hk
  obtain ⟨_, cnt, sh, k, hB⟩ := h
  have e := v_look hB x1
  replace hB := hB.keep hk
  obtain ⟨f, hF⟩ := c_X7_look ad C' hB.okC hB.okK x1
  refine ⟨setF C' 14 f, hk.tr (keepC.set14 C' f), fun l D E a1 a2 => ?_⟩
  rw [e, ← v_look hB x1]
  exact hF l D E a1 a2
theorem qM_look (C : MS) (x1 : Int32) : AnM C yX8_look wsX8_look 6 139 [.int x1] (.int (f_X7_look C x1)) := by
  refine AnM.of (fun ad M S1 cnt k sh hB hR hr => ?_)
  obtain ⟨f, hF⟩ := c_X8_look ad M S1 hr hB.fit x1
  refine ⟨setF S1 16 f, fun k hk => setF_o (by omega), hB.ref (setF_o (by decide)) (setF_o (by decide)) (setF_o (by decide)) (setF_o (by decide)) (setF_o (by decide)), fun l D E a1 a2 => ?_⟩
  rw [v_look hB x1]
  exact hF l D E a1 a2
theorem pr_look (x1 : Int32) : Pr Value.int yX7_look wsX7_look 3 74 yX8_look wsX8_look 6 139 [.int x1] := Pr.of (fun C S h => ⟨_, qC_look h x1, qM_look C x1⟩)
theorem qC_watchers {C S : MS} (h : JM C S) (x1 : Int32) : AnC C yX7_watchers wsX7_watchers 4 96 [.int x1] (.int (f_X7_watchers C x1)) := by
  intro ad C' hk
  obtain ⟨_, cnt, sh, k, hB⟩ := h
  have e := v_watchers hB x1
  replace hB := hB.keep hk
  obtain ⟨C'', hv, hF⟩ := c_X7_watchers ad C' x1
  refine ⟨C'', hk.tr hv.c, fun l D E a1 a2 => ?_⟩
  rw [e, ← v_watchers hB x1]
  exact hF l D E a1 a2
theorem qM_watchers (C : MS) (x1 : Int32) : AnM C yX8_watchers wsX8_watchers 4 100 [.int x1] (.int (f_X7_watchers C x1)) := by
  refine AnM.of (fun ad M S1 cnt k sh hB hR hr => ?_)
  obtain ⟨f, hF⟩ := c_X8_watchers ad M S1 hr x1
  refine ⟨setG S1 0 f, fun k hk => rfl, hB.ref rfl rfl rfl rfl rfl, fun l D E a1 a2 => ?_⟩
  rw [v_watchers hB x1]
  exact hF l D E a1 a2
theorem pr_watchers (x1 : Int32) : Pr Value.int yX7_watchers wsX7_watchers 4 96 yX8_watchers wsX8_watchers 4 100 [.int x1] := Pr.of (fun C S h => ⟨_, qC_watchers h x1, qM_watchers C x1⟩)
theorem okT_keep {C C' : MS} (h : keepC C C') (s : Nat) : okT C' s = okT C s := by
  funext σ
  have e : C'.1 4 = C.1 4 := h.1 4 (by decide) (by decide) (by decide) (by decide)
  unfold okT f_X1_standsFor f_X3_rowsOf
  rw [e, h.2]
theorem stand_keep {C C' : MS} (h : keepC C C') (x y z : Int32) : f_X7_isStand C' x y z = f_X7_isStand C x y z := by
  have e : C'.1 6 = C.1 6 := h.1 6 (by decide) (by decide) (by decide) (by decide)
  unfold f_X7_isStand f_X7_isTurnedShape f_X7_isShape
  rw [e]
theorem thruC_uni {C : MS} {cnt : Nat} (hc : cnt ≤ 8) (e6 : C.1 6 0 = nI cnt) {x y z y' z' r r' : Int32} (a : thruC C x y z y' z' r) (b : thruC C x y z y' z' r') : r = r' := by
  unfold thruC at a b
  by_cases q : f_X7_isStand C x y z = true ∧ f_X7_isStand C x y' z' = true
  · rw [if_pos q] at a b
    obtain ⟨s, t, c, ⟨hs, ht, hcc⟩, rfl, rfl, rfl⟩ := (cStand_iff hc e6 x y z).mp q.1
    obtain ⟨s', t', c', ⟨hs', ht', hc'⟩, _, rfl, rfl⟩ := (cStand_iff hc e6 (nI s) y' z').mp q.2
    rw [nI_clamp (show s < 2 ^ 31 by omega), nI_clamp (show t < 2 ^ 31 by omega), nI_clamp (show c < 2 ^ 31 by omega), nI_clamp (show t' < 2 ^ 31 by omega), nI_clamp (show c' < 2 ^ 31 by omega)] at a b
    exact thr_uni (by omega) (by omega) (fun σ hσ => rfl) a b
  · rw [if_neg q] at a b
    rw [a, b]
theorem q_through {C S : MS} (h : JM C S) (x1 x2 x3 x4 x5 : Int32) : ∃ v, thruC C x1 x2 x3 x4 x5 v ∧ AnC C yX7_through wsX7_through 4 87 [.int x1, .int x2, .int x3, .int x4, .int x5] (.int v) ∧ AnM C yX8_through wsX8_through 6 146 [.int x1, .int x2, .int x3, .int x4, .int x5] (.int v) := by
  obtain ⟨_, cnt, sh, k, hB⟩ := h
  obtain ⟨v, _, hv, _, _⟩ := c_X7_through (fun _ => 0) C hB.1 hB.2.1 x1 x2 x3 x4 x5
  refine ⟨v, hv, fun ad C' hk => ?_, AnM.of (fun ad M S1 cnt' k' sh' hB' hR hr => ?_)⟩
  · have hB' := hB.keep hk
    obtain ⟨r, C'', ht, hw, hF⟩ := c_X7_through ad C' hB'.1 hB'.2.1 x1 x2 x3 x4 x5
    have : v = r := by
      refine thruC_uni hB.1 hB.2.1 hv ?_
      unfold thruC at ht ⊢
      rw [stand_keep hk, stand_keep hk, okT_keep hk] at ht
      exact ht
    subst this
    exact ⟨C'', hk.tr hw.c, hF⟩
  · obtain ⟨r, S2, hr2, hf, hF⟩ := c_X8_through ad M S1 hr hB'.1 hB'.2.2.1 x1 x2 x3 x4 x5
    have : v = r := v_through hB' hv hr2
    subst this
    exact ⟨S2, hf.q, hB'.ref (hf.1 8 (by decide) (by decide) (by decide)) (hf.1 9 (by decide) (by decide) (by decide)) (hf.1 10 (by decide) (by decide) (by decide)) (hf.1 14 (by decide) (by decide) (by decide)) (hf.1 15 (by decide) (by decide) (by decide)), hF⟩
theorem pr_through (x1 x2 x3 x4 x5 : Int32) : Pr Value.int yX7_through wsX7_through 4 87 yX8_through wsX8_through 6 146 [.int x1, .int x2, .int x3, .int x4, .int x5] := Pr.of (fun C S h => by
  obtain ⟨v, _, a, b⟩ := q_through h x1 x2 x3 x4 x5
  exact ⟨_, a, b⟩)
theorem reaC_uni {C : MS} {x y z r r' : Int32} (a : reaC C x y z r) (b : reaC C x y z r') : r = r' := by
  unfold reaC rchC at a b
  by_cases q : f_X7_isStand C x y z = true
  · rw [if_pos q] at a b
    rcases a with ⟨a0, v, hv, a⟩ | ⟨a0, a⟩ <;> rcases b with ⟨b0, v', hv', b⟩ | ⟨b0, b⟩
    · rw [a, b, tbL_ext (x := v) (y := v') (fun d hd => Bool.eq_iff_iff.mpr ((hv d hd).trans (hv' d hd).symm))]
    · exact absurd a0 b0
    · exact absurd b0 a0
    · rw [a, b]
  · rw [if_neg q] at a b
    rw [a, b]
theorem q_reach {C S : MS} (h : JM C S) (x1 x2 x3 : Int32) : ∃ v, reaC C x1 x2 x3 v ∧ AnC C yX7_reach wsX7_reach 4 87 [.int x1, .int x2, .int x3] (.int v) ∧ AnM C yX8_reach wsX8_reach 6 146 [.int x1, .int x2, .int x3] (.int v) := by
  obtain ⟨_, cnt, sh, k, hB⟩ := h
  obtain ⟨v, _, hv, _, _⟩ := c_X7_reach (fun _ => 0) C hB.1 hB.2.1 x1 x2 x3
  refine ⟨v, hv, fun ad C' hk => ?_, AnM.of (fun ad M S1 cnt' k' sh' hB' hR hr => ?_)⟩
  · have hB' := hB.keep hk
    obtain ⟨r, C'', ht, hw, hF⟩ := c_X7_reach ad C' hB'.1 hB'.2.1 x1 x2 x3
    have : v = r := by
      refine reaC_uni hv ?_
      unfold reaC at ht ⊢
      rw [stand_keep hk, okT_keep hk] at ht
      exact ht
    subst this
    exact ⟨C'', hk.tr hw.c, hF⟩
  · obtain ⟨r, S2, hr2, hf, hF⟩ := c_X8_reach ad M S1 hr hB'.1 hB'.2.2.1 x1 x2 x3
    have : v = r := v_reach hB' hv hr2
    subst this
    exact ⟨S2, hf.q, hB'.ref (hf.1 8 (by decide) (by decide) (by decide)) (hf.1 9 (by decide) (by decide) (by decide)) (hf.1 10 (by decide) (by decide) (by decide)) (hf.1 14 (by decide) (by decide) (by decide)) (hf.1 15 (by decide) (by decide) (by decide)), hF⟩
theorem pr_reach (x1 x2 x3 : Int32) : Pr Value.int yX7_reach wsX7_reach 4 87 yX8_reach wsX8_reach 6 146 [.int x1, .int x2, .int x3] := Pr.of (fun C S h => by
  obtain ⟨v, _, a, b⟩ := q_reach h x1 x2 x3
  exact ⟨_, a, b⟩)
theorem pr_made (x1 x2 : Int32) : Pr Value.int yX7_made wsX7_made 2 44 yX8_made wsX8_made 2 44 [.int x1, .int x2] := by
  intro C M h ad ad'
  refine ⟨(f_X7_made C x1 x2), C, M, h, fun l D E a1 a2 => c_X7_made l D E a1 a2 ad C x1 x2, fun l D E a1 a2 => ?_⟩
  rw [v_made C M]
  refine c_X8_made l D E a1 a2 ad' M x1 x2 (fun q _ _ _ => ?_)
  have w2 : f_X8_in x1.toInt64 0 65535 = true := by
    unfold f_X8_in at q ⊢
    by_cases a : x1.toInt64 < 1
    · rw [if_pos a] at q; cases q
    · rw [if_neg a] at q
      rw [if_neg (fun z => a (Int64.lt_trans z (by decide)))]; exact q
  obtain ⟨n, hn, rfl⟩ := (in_nI (m := 65535) (by decide)).mp w2
  refine sh16_p ⟨?_, by omega⟩
  rcases Nat.eq_zero_or_pos n with rfl | p
  · exact absurd q (by decide)
  · exact p
end
