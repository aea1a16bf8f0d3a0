section
/-! values: what the class answers at C is what the reference answers at the state S that reads() leaves -/
theorem Bo.sh {C S : MS} {cnt k s : Nat} {sh : Nat → Nat} (h : Bo C S cnt sh k) (hs : s < cnt) : sh16 (sh s) ∧ S.1 9 s = nI (sh s) := ⟨(h.2.2.2.1 s hs).1, (h.2.2.2.1 s hs).2.1⟩
theorem rows_0 {C S : MS} {cnt k s : Nat} {sh : Nat → Nat} (h : Bo C S cnt sh k) (hs : s < cnt) : f_X3_rowsOf C (nI s) 0 = nI (sh s) := rows_nI h hs (t := 0) (by decide)
theorem v_shape {C S : MS} {cnt k : Nat} {sh : Nat → Nat} (h : Bo C S cnt sh k) (x y : Int32) : f_X7_shape C x y = f_X8_shape S x y := by
  unfold f_X7_shape f_X8_shape f_X7_isTurnedShape
  rw [shape_b h, turn_b]
  by_cases q : f_X8_isShape S x = true
  · obtain ⟨s, hs, rfl⟩ := (isShape_iff h.1 h.2.2.1 x).mp q
    rw [if_pos q, if_pos q]
    by_cases r : f_X8_isTurn y = true
    · obtain ⟨t, ht, rfl⟩ := (isTurn_iff y).mp r
      rw [if_pos r, if_pos r, if_pos rfl, rows_nI h hs ht, nI_clamp (by have := h.1; omega), turn_nI h hs ht]
    · rw [if_neg r, if_neg r, if_neg (by decide)]
  · rw [if_neg q, if_neg q, if_neg (by decide)]
theorem v_sight {C S : MS} {cnt k : Nat} {sh : Nat → Nat} (h : Bo C S cnt sh k) (x y z : Int32) : f_X7_sight C x y z = f_X8_sight S x y z := by
  unfold f_X7_sight f_X8_sight f_X7_isTurnedShape
  rw [shape_b h, turn_b y, show f_X7_within z 4 = f_X8_in z.toInt64 0 3 from in_b (m := 3) (by decide)]
  by_cases q : f_X8_isShape S x = true
  · obtain ⟨s, hs, rfl⟩ := (isShape_iff h.1 h.2.2.1 x).mp q
    rw [if_pos q, if_pos q]
    by_cases r : f_X8_isTurn y = true
    · obtain ⟨t, ht, rfl⟩ := (isTurn_iff y).mp r
      rw [if_pos r, if_pos r, if_pos rfl]
      by_cases w : f_X8_in z.toInt64 0 3 = true
      · obtain ⟨i, hi, rfl⟩ := (in_nI (m := 3) (by decide)).mp w
        rw [if_pos w, if_pos w, sight_nI' h hs ht (by omega), nI_clamp (by have := h.1; omega), turn_nI h hs ht]
      · rw [if_neg w, if_neg w]
    · rw [if_neg r, if_neg r, if_neg (by decide)]
  · rw [if_neg q, if_neg q, if_neg (by decide)]
theorem v_form {C S : MS} {cnt k : Nat} {sh : Nat → Nat} (h : Bo C S cnt sh k) (x y : Int32) : f_X7_form C x y = f_X8_form S x y := by
  unfold f_X7_form f_X8_form f_X8_formOf
  rw [shape_b h]
  by_cases q : f_X8_isShape S x = true
  · obtain ⟨s, hs, rfl⟩ := (isShape_iff h.1 h.2.2.1 x).mp q
    obtain ⟨h1, h2⟩ := h.sh hs
    rw [if_pos q, if_pos q, rows_0 h hs, nI_clamp (by have := h.1; omega), h2]
    by_cases y0 : y = 0
    · subst y0
      rw [if_pos rfl, if_pos (show f_X8_in (Int32.toInt64 0) 0 2 = true by decide), if_pos rfl, whole_eq h1]
      cases f_X8_isWhole (nI (sh s)) <;> rfl
    · rw [if_neg y0, if_neg y0]
      by_cases y1 : y = 1
      · subst y1
        rw [if_pos rfl, if_pos (show f_X8_in (Int32.toInt64 1) 0 2 = true by decide), if_pos rfl, outline_eq h1.2]
      · rw [if_neg y1, if_neg y1]
        by_cases y2 : y = 2
        · subst y2
          rw [if_pos rfl, if_pos (show f_X8_in (Int32.toInt64 2) 0 2 = true by decide), ones_eq h1.2]
        · rw [if_neg y2, if_neg (fun w => ?_)]
          obtain ⟨i, hi, e⟩ := (in_nI (m := 2) (by decide)).mp w
          rcases (show i = 0 ∨ i = 1 ∨ i = 2 by omega) with rfl | rfl | rfl
          · exact y0 e
          · exact y1 e
          · exact y2 e
  · rw [if_neg q, if_neg q]
theorem those_eq {C S : MS} {cnt k m : Nat} {sh : Nat → Nat} (h : Bo C S cnt sh k) (hm : sh16 m) : f_X3_thoseOneWith C (nI m) = itF (fun k a => kinStep (S.1 9) (nI m) k a) 0 (S.1 8 0).toNatClampNeg 0 := by
  unfold f_X3_thoseOneWith
  have c8 : (nI cnt).toNatClampNeg = cnt := nI_clamp (by have := h.1; omega)
  rw [h.2.1, h.2.2.1, c8]
  refine itF_cong (N := cnt) (fun i a hi => ?_) cnt 0 0 (Nat.zero_add cnt)
  obtain ⟨h1, h2⟩ := h.sh hi
  unfold kinStep
  rw [rows_0 h hi, h2, one_eq hm h1]
  cases f_X8_isOne (nI m) (nI (sh i))
  · show a = a ||| 0
    rw [Int32.or_zero]
  · rfl
theorem v_kin {C S : MS} {cnt k : Nat} {sh : Nat → Nat} (h : Bo C S cnt sh k) (x y : Int32) : f_X7_kin C x y = f_X8_kin S x y := by
  unfold f_X7_kin f_X8_kin
  rw [shape_b h, two_b]
  by_cases q : f_X8_isShape S x = true
  · obtain ⟨s, hs, rfl⟩ := (isShape_iff h.1 h.2.2.1 x).mp q
    obtain ⟨h1, h2⟩ := h.sh hs
    rw [if_pos q, if_pos q]
    by_cases r : f_X8_isTwo y = true
    · rw [if_pos r, if_pos r]
      unfold f_X8_kinOf kinRow
      rw [rows_0 h hs, nI_clamp (by have := h.1; omega), h2]
      by_cases y0 : y = 0
      · rw [if_pos y0, if_pos y0]; exact those_eq h h1
      · rw [if_neg y0, if_neg y0, mc_nI h1.2, mr_nI h1.2]; exact those_eq h (sh16_mr h1)
    · rw [if_neg r, if_neg r]
  · rw [if_neg q, if_neg q]
theorem v_self {C S : MS} {cnt k : Nat} {sh : Nat → Nat} (h : Bo C S cnt sh k) (x : Int32) : f_X7_self C x = f_X8_self S x := by
  unfold f_X7_self f_X8_self
  rw [shape_b h]
  by_cases q : f_X8_isShape S x = true
  · obtain ⟨s, hs, rfl⟩ := (isShape_iff h.1 h.2.2.1 x).mp q
    obtain ⟨h1, h2⟩ := h.sh hs
    rw [if_pos q, if_pos q]
    unfold f_X8_selfOf
    rw [rows_0 h hs, nI_clamp (by have := h.1; omega), h2, self_eq h1]
  · rw [if_neg q, if_neg q]
theorem cs_std {C S : MS} {cnt k n c : Nat} {sh : Nat → Nat} (h : Bo C S cnt sh k) (hn : n < 65536) (hc : c < 64) : f_X8_canStand S (nI n) (nI c) = true ↔ stdN (frC C) n c := by
  unfold f_X8_canStand
  rw [nI_clamp (by omega)]
  exact cs_iff hn (fun c hc => by rw [free10 h hc]; cases frC C c <;> decide)
theorem cc_std {C S : MS} {cnt k s t c : Nat} {sh : Nat → Nat} (h : Bo C S cnt sh k) (hs : s < cnt) (ht : t < 4) (hc : c < 64) : f_X7_canStand C (nI s) (nI t) (nI c) = true ↔ stdN (frC C) (tnK t (sh s)) c := by
  unfold f_X7_canStand f_X1_standsFor
  rw [has_eq hc, rows_nI h hs ht]
  exact sf_iff (tnK_lt t (h.sh hs).1.2) hc
theorem cst_eq {C S : MS} {cnt k s t c : Nat} {sh : Nat → Nat} (h : Bo C S cnt sh k) (hs : s < cnt) (ht : t < 4) (hc : c < 64) : f_X7_canStand C (nI s) (nI t) (nI c) = f_X8_canStand S (nI (tnK t (sh s))) (nI c) := by
  rw [Bool.eq_iff_iff, cc_std h hs ht hc, cs_std h (tnK_lt t (h.sh hs).1.2) hc]
theorem v_stands {C S : MS} {cnt k : Nat} {sh : Nat → Nat} (h : Bo C S cnt sh k) (x y z : Int32) : f_X7_stands C x y z = f_X8_stands S x y z := by
  unfold f_X7_stands f_X8_stands
  rw [stand_b h]
  by_cases q : f_X8_isStand S x y z = true
  · obtain ⟨s, t, c, ⟨hs, ht, hc⟩, rfl, rfl, rfl⟩ := (isStand_iff h.1 h.2.2.1 x y z).mp q
    rw [if_pos q, if_pos q, nI_clamp (by have := h.1; omega), turn_nI h hs ht, cst_eq h hs ht hc]
    cases f_X8_canStand S (nI (tnK t (sh s))) (nI c) <;> rfl
  · rw [if_neg q, if_neg q]
theorem v_meet {C S : MS} {cnt k : Nat} {sh : Nat → Nat} (h : Bo C S cnt sh k) (x y z x' y' z' : Int32) : f_X7_meet C x y z x' y' z' = f_X8_meet S x y z x' y' z' := by
  unfold f_X7_meet f_X8_meet
  rw [stand_b h, stand_b h]
  by_cases q : f_X8_isStand S x y z = true
  · rw [if_pos q, if_pos q]
    by_cases q' : f_X8_isStand S x' y' z' = true
    · rw [if_pos q', if_pos q']
      obtain ⟨s, t, c, ⟨hs, ht, hc⟩, rfl, rfl, rfl⟩ := (isStand_iff h.1 h.2.2.1 x y z).mp q
      obtain ⟨s', t', c', ⟨hs', ht', hc'⟩, rfl, rfl, rfl⟩ := (isStand_iff h.1 h.2.2.1 x' y' z').mp q'
      have c1 : (nI s).toNatClampNeg = s := nI_clamp (by have := h.1; omega)
      have c2 : (nI s').toNatClampNeg = s' := nI_clamp (by have := h.1; omega)
      have l1 := tnK_lt t (h.sh hs).1.2
      have l2 := tnK_lt t' (h.sh hs').1.2
      unfold f_X8_meetOf
      rw [c1, c2, turn_nI h hs ht, turn_nI h hs' ht', cst_eq h hs ht hc, cst_eq h hs' ht' hc', rows_nI h hs ht, rows_nI h hs' ht']
      have mt := mt_iff (f := fun d => f_X8_covers (nI (tnK t (sh s))) (nI c) (nI d)) (g := fun d => f_X8_covers (nI (tnK t' (sh s'))) (nI c') (nI d)) 64 0
      by_cases w : f_X8_canStand S (nI (tnK t (sh s))) (nI c) = true
      · by_cases w' : f_X8_canStand S (nI (tnK t' (sh s'))) (nI c') = true
        · rw [if_pos w, if_pos w', w, w']
          congr 1
          have st1 := (cs_std h l1 hc).mp w
          have st2 := (cs_std h l2 hc').mp w'
          rw [Bool.eq_iff_iff]
          refine Iff.trans ?_ (mt true).symm
          have key : (f_X1_cellsCovered (nI (tnK t (sh s))) (nI c) &&& f_X1_cellsCovered (nI (tnK t' (sh s'))) (nI c') = 0) ↔ ∀ d, d < 64 → ¬ (f_X8_covers (nI (tnK t (sh s))) (nI c) (nI d) = true ∧ f_X8_covers (nI (tnK t' (sh s'))) (nI c') (nI d) = true) := by
            rw [and0_iff]
            constructor
            · intro a d hd
              rw [cov_iff l1 hc hd st1, cov_iff l2 hc' hd st2, ← cc_iff l1 hc hd, ← cc_iff l2 hc' hd]; exact a d hd
            · intro a d hd
              rw [cc_iff l1 hc hd, cc_iff l2 hc' hd, ← cov_iff l1 hc hd st1, ← cov_iff l2 hc' hd st2]; exact a d hd
          by_cases e : f_X1_cellsCovered (nI (tnK t (sh s))) (nI c) &&& f_X1_cellsCovered (nI (tnK t' (sh s'))) (nI c') = 0
          · rw [if_pos e]
            exact ⟨fun _ => ⟨rfl, fun d _ hd => key.mp e d (by omega)⟩, fun _ => rfl⟩
          · rw [if_neg e]
            exact ⟨fun z => (by cases z), fun z => absurd (key.mpr fun d hd => z.2 d (Nat.zero_le _) (by omega)) e⟩
        · rw [if_pos w, if_neg w']
          have : (f_X8_canStand S (nI (tnK t (sh s))) (nI c) && f_X8_canStand S (nI (tnK t' (sh s'))) (nI c')) = false := by rw [w]; cases e : f_X8_canStand S (nI (tnK t' (sh s'))) (nI c') <;> first | rfl | exact absurd e w'
          rw [this]
          cases e : itF (fun d can => mtStep (nI (tnK t (sh s))) (nI c) (nI (tnK t' (sh s'))) (nI c') d can) 0 64 false
          · rfl
          · exact absurd ((mt false).mp e).1 (by decide)
      · rw [if_neg w]
        have : (f_X8_canStand S (nI (tnK t (sh s))) (nI c) && f_X8_canStand S (nI (tnK t' (sh s'))) (nI c')) = false := by cases e : f_X8_canStand S (nI (tnK t (sh s))) (nI c) <;> first | rfl | exact absurd e w
        rw [this]
        cases e : itF (fun d can => mtStep (nI (tnK t (sh s))) (nI c) (nI (tnK t' (sh s'))) (nI c') d can) 0 64 false
        · rfl
        · exact absurd ((mt false).mp e).1 (by decide)
    · rw [if_neg q', if_neg q']
  · rw [if_neg q, if_neg q]
theorem v_made (C S : MS) (x y : Int32) : f_X7_made C x y = f_X8_made S x y := by
  unfold f_X7_made f_X8_made
  by_cases q : ∃ n, n < 65536 ∧ 0 < n ∧ x = nI n
  · obtain ⟨n, h1, h0, rfl⟩ := q
    have b : f_X8_in (nI n).toInt64 1 65535 = true := by
      unfold f_X8_in
      rw [nI_l (by omega), if_neg (show ¬ lN n < 1 from fun q => absurd ((pk_lLT (a := n) (b := 1) (by omega) (by decide)).mp q) (by omega)), if_neg (show ¬ (65535 : Int64) < lN n from fun q => absurd ((pk_lLT (a := 65535) (b := n) (by decide) (by omega)).mp q) (by omega))]
    rw [if_neg (show ¬ nI n < 1 from fun q => absurd ((nlt (a := n) (b := 1) (by omega) (by decide)).mp q) (by omega)), if_pos (show nI n ≤ 65535 from (nle (a := n) (b := 65535) (by omega) (by decide)).mpr (by omega)), if_pos b]
    by_cases y0 : y = 0
    · subst y0
      rw [if_pos rfl, if_pos (by decide), if_pos rfl, tc_nI h1, tn_nI h1]
    · rw [if_neg y0, if_neg y0]
      by_cases y1 : y = 1
      · subst y1
        rw [if_pos rfl, if_pos (by decide), if_pos rfl, mc_nI h1, mr_nI h1]
      · rw [if_neg y1, if_neg y1]
        by_cases y2 : y = 2
        · subst y2
          rw [if_pos rfl, if_pos (by decide)]; rfl
        · rw [if_neg y2, if_neg (fun w => ?_)]
          obtain ⟨i, hi, e⟩ := (in_nI (m := 2) (by decide)).mp w
          rcases (show i = 0 ∨ i = 1 ∨ i = 2 by omega) with rfl | rfl | rfl
          · exact y0 e
          · exact y1 e
          · exact y2 e
  · have b : ¬ f_X8_in x.toInt64 1 65535 = true := fun w => q (by
      have w2 : f_X8_in x.toInt64 0 65535 = true := by
        unfold f_X8_in at w ⊢
        by_cases a : x.toInt64 < 1
        · rw [if_pos a] at w; cases w
        · rw [if_neg a] at w
          rw [if_neg (fun z => a (Int64.lt_trans z (by decide)))]; exact w
      obtain ⟨n, hn, rfl⟩ := (in_nI (m := 65535) (by decide)).mp w2
      refine ⟨n, by omega, ?_, rfl⟩
      rcases Nat.eq_zero_or_pos n with rfl | p
      · exact absurd w (by decide)
      · exact p)
    rw [if_neg b]
    by_cases a : x < 1
    · rw [if_pos a]
    · rw [if_neg a]
      by_cases c : x ≤ 65535
      · exfalso
        obtain ⟨n, hn, rfl⟩ : ∃ n, n < 65536 ∧ x = nI n := (within_iff (n := 65536) (by decide)).mp (within_of (Int32.not_lt.mp (fun z => a (Int32.lt_trans z (by decide)))) (Int32.lt_of_le_of_lt c (by decide)))
        refine q ⟨n, hn, ?_, rfl⟩
        rcases Nat.eq_zero_or_pos n with rfl | p
        · exact absurd (by decide) a
        · exact p
      · rw [if_neg c]
end
