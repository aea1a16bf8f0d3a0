section
theorem pk_div2 (z : Nat) (hz : z ≤ 64) : nI z / 2 = nI (z / 2) := (by decide : ∀ z, z < 65 → nI z / 2 = nI (z / 2)) z (by omega)
theorem upd_it {p : Nat} {g : Nat → Int32} : ∀ (n i : Nat) (f : Nat → Int32) (j : Nat), itF (fun c f => upd f (p + c) (g c)) i n f j = if p + i ≤ j ∧ j < p + (i + n) then g (j - p) else f j
  | 0, i, f, j => by rw [if_neg (by omega)]; rfl
  | n + 1, i, f, j => by
    show itF (fun c f => upd f (p + c) (g c)) (i + 1) n (upd f (p + i) (g i)) j = _
    rw [upd_it n (i + 1) (upd f (p + i) (g i)) j]
    by_cases q : j = p + i
    · subst q
      rw [if_neg (by omega), if_pos (by omega), Nat.add_sub_cancel_left]
      simp [upd]
    · have : upd f (p + i) (g i) j = f j := by simp [upd, q]
      rw [this]
      by_cases r : p + (i + 1) ≤ j ∧ j < p + (i + 1 + n)
      · rw [if_pos r, if_pos (by omega)]
      · rw [if_neg r, if_neg (by omega)]
theorem wv_eq {C S T : MS} {cnt k c : Nat} {sh : Nat → Nat} (h : Bo C S cnt sh k) (hT : T.2 = C.2) (hc : c < 64) : (if f_X1_isFree T (nI c) then f_X7_view T (nI c) else (-1)) = (if S.1 10 c = 0 then (-1) else f_X8_viewOf S (nI c)) := by
  have e1 : f_X1_isFree T (nI c) = frC C c := by
    unfold f_X1_isFree
    rw [has_eq hc, hT]; rfl
  have e2 : f_X1_viewFrom T (nI c) = f_X1_viewFrom C (nI c) := by
    unfold f_X1_viewFrom frC
    rw [hT]
  have f := free10 h hc
  unfold f_X7_view
  rw [e1, e2, view_v h hc]
  cases w : frC C c
  · rw [if_pos (f.mpr w)]; rfl
  · rw [if_neg (show ¬ S.1 10 c = 0 from fun z => by rw [f.mp z] at w; cases w)]; rfl
theorem pr_write (x1 : Int32) : Pr Value.int yX7_write wsX7_write 4 96 yX8_write wsX8_write 4 94 [.int x1] := by
  intro C M h ad ad'
  rcases shq_cases x1 with ⟨s, hs, rfl⟩ | ⟨n1, n2, n3⟩
  · obtain ⟨z, hz, s1, s2, s3, s4⟩ := h.P s hs
    rcases s4 with ⟨l1, f1⟩ | ⟨l0, f, hf, f0, cf⟩
    · refine ⟨(f_X7_found C 1), s_X7_found C 1, s_X8_met M 1, h.found 1, fun l D E a1 a2 => ?_, fun l D E a1 a2 => c_X8_writeN ad' M hs (by rw [f1]; decide) l D E a1 a2⟩
      show Fn l D E a1 a2 yX7_write wsX7_write 4 96 [.ref (ad 0), .int (nI s)] (cW E ad C) (some (.int (f_X7_found C 1))) (cW E ad (s_X7_found C 1))
      refine Fn.of (cc := cX7_write) (maxL := 4) (ret := (some .int)) (own := RX7) (by decide) rfl rfl (sameC _ _ _ _) (Nat.le_of_ble_eq_true rfl) (fun X q1 q2 q3 q4 q5 K hE => ?_)
      subst q1 q2 q3 q4 q5
      refine r_X7_write_0 K ad C (nI s) ⟨fun k hk e => ?_, fun q => absurd q (sh_b hs)⟩
      obtain rfl := sh_inj hs hk e
      exact ⟨fun q => absurd (l1.symm.trans q) (by decide), fun _ => hE⟩
    · have g0 : 0 ≤ M.1 0 s := by rw [f0]; exact nI_pos' (by omega)
      obtain ⟨S1, cnt, sh, k, hB, hQ, hr⟩ := h.reads ad'
      have hR : Rel C S1 := h.keep (keepC.rf C) hQ
      obtain ⟨u1, u2, u3⟩ := itF_up (K := 20 + s) (K' := 0) (p := 0) (h := fun _ c => wrtV S1 (M.1 0 s) c) (by omega) z 0 C
      generalize hT : itF (fun i S => pg S (20 + s) (0 + i) (wrtV S1 (M.1 0 s) i)) 0 z C = T at u1 u2 u3
      refine ⟨(nI z), T, setF S1 2 (wrtF S1 (M.1 0 s) s z), ?_, fun l D E a1 a2 => ?_, fun l D E a1 a2 => c_X8_write ad' M S1 hr hs hz (by rw [hQ 1 (by decide)]; exact s2) (by rw [hQ 0 (by decide)]) g0 l D E a1 a2⟩
      · refine hR.sheets (fun k hk => u2 k (by omega)) (by rw [u1]) (fun k hk => setF_o (by omega)) (fun s' hs' => ?_) ?_
        · by_cases q : s' = s
          · subst q
            refine ⟨z, hz, by rw [u2 _ (by omega)]; exact s1, by rw [setF_o (by decide), hQ 1 (by decide)]; exact s2, fun a ha => ?_, Or.inr ⟨by rw [u2 _ (by omega)]; exact l0, f, hf, by rw [setF_o (by decide), hQ 0 (by decide)]; exact f0, by rw [u2 _ (by omega)]; exact cf⟩⟩
            rw [setF_k, u3, if_pos (by omega)]
            unfold wrtF
            rw [upd_it, if_pos (by omega), Nat.add_sub_cancel_left]
            rfl
          · refine (hR.P s' hs').of (u2 _ (by omega)) (u2 _ (by omega)) (u2 _ (by omega)) (u2 _ (by omega)) (by rw [setF_o (by decide)]) (by rw [setF_o (by decide)]) (fun a ha => ?_)
            rw [setF_k]
            unfold wrtF
            rw [upd_it, if_neg (by omega)]
        · rw [u2 16 (by omega), setF_o (by decide)]; exact hR.L
      · show Fn l D E a1 a2 yX7_write wsX7_write 4 96 [.ref (ad 0), .int (nI s)] (cW E ad C) (some (.int (nI z))) (cW E ad T)
        refine Fn.of (cc := cX7_write) (maxL := 4) (ret := (some .int)) (own := RX7) (by decide) rfl rfl (sameC _ _ _ _) (Nat.le_of_ble_eq_true rfl) (fun X q1 q2 q3 q4 q5 K hE => ?_)
        subst q1 q2 q3 q4 q5
        refine r_X7_write_0 K ad C (nI s) ⟨fun k hk e => ?_, fun q => absurd q (sh_b hs)⟩
        obtain rfl := sh_inj hs hk e
        refine ⟨fun _ => ?_, fun q => absurd l0 q⟩
        refine for_goI (P := fun c T => At X 4 (cW X.E ad T) 28 [(0, .ref (ad 0)), (2, .ref (ad (20 + 2 * k))), (3, .int (nI c))] []) (N := z) (fun _ T => T.1 (28 + k) 0 = nI z ∧ T.1 (24 + k) 0 = M.1 0 k ∧ T.2 = C.2) (fun i S => pg S (20 + k) (0 + i) (wrtV S1 (M.1 0 k) i)) (fun c T hc hI => ?_) (fun c T hc hI hA => ?_) z 0 C (Nat.zero_add z) ⟨s1, by rw [cf, f0], rfl⟩ (fun hI => ?_)
        · exact ⟨by rw [pg_o (by omega)]; exact hI.1, by rw [pg_o (by omega)]; exact hI.2.1, hI.2.2⟩
        · refine r_X7_write_28 K ad T k hs (nI c) ⟨fun q => ?_, fun _ => ⟨fun q => fun _ => pVC q, ?_⟩⟩
          · rw [hI.1] at q
            exact nlt_no (b := z) (by omega) hc q
          · rw [put_eq hc hz hI.1, wv_eq hB hI.2.2 (by omega), hI.2.1, nI_1]
            have e0 : (pg T (20 + k) (0 + c) (wrtV S1 (M.1 0 k) c)) = pg T (20 + k) c (wrtV S1 (M.1 0 k) c) := by rw [Nat.zero_add]
            rw [e0] at hA
            exact hA
        · rw [hT] at hI ⊢
          refine r_X7_write_28 K ad T k hs (nI z) ⟨fun _ => ?_, fun q => absurd (by rw [hI.1]; exact Int32.le_refl _) q⟩
          rw [hI.1]; exact hE
  · refine ⟨(-2), C, M, h, fun l D E a1 a2 => ?_, fun l D E a1 a2 => c_X8_writeB ad' M x1 n1 l D E a1 a2⟩
    show Fn l D E a1 a2 yX7_write wsX7_write 4 96 [.ref (ad 0), .int x1] (cW E ad C) (some (.int (-2))) (cW E ad C)
    refine Fn.of (cc := cX7_write) (maxL := 4) (ret := (some .int)) (own := RX7) (by decide) rfl rfl (sameC _ _ _ _) (Nat.le_of_ble_eq_true rfl) (fun X q1 q2 q3 q4 q5 K hE => ?_)
    subst q1 q2 q3 q4 q5
    exact r_X7_write_0 K ad C x1 ⟨fun k hk e => absurd ⟨k, hk, e⟩ n3, fun _ => hE⟩
theorem seen_28 (C : MS) (x y : Int32) (s : Nat) : (s_X7_seen C x y).1 (28 + s) = C.1 (28 + s) := by
  unfold s_X7_seen s_X0_add
  by_cases a : f_X0_mayBe x y = true
  · rw [if_pos a]
    by_cases b : f_X7_within (C.1 15 0) 8 = true
    · rw [if_pos b, pg_r (by omega), pg_r (by omega), pg_r (by omega)]
    · rw [if_neg b]
  · rw [if_neg a]
theorem read_go {s z : Nat} (hs : s < 4) (hz : z ≤ 64) (ad ad' : Nat → Nat) : ∀ (j t : Nat) (C M : MS), Rel C M → C.1 (28 + s) 0 = nI z → t + j = z / 2 → ∃ r C' M', Rel C' M' ∧ (∀ X : Bn, Cx X cX7_read 5 RX7 wsX7_read 3 65 → Ends X (some .int) (some (.int r)) (cW X.E ad C') → At X 5 (cW X.E ad C) 36 [(0, .ref (ad 0)), (2, .ref (ad (20 + 2 * s))), (3, .int (nI (z / 2))), (4, .int (nI t))] []) ∧ (∀ X : Bn, Cx X cX8_read 4 RX8 wsX8_read 2 47 → Ends X (some .int) (some (.int r)) (mW X.E ad' M') → At X 4 (mW X.E ad' M) 29 [(0, .ref (ad' 0)), (1, .int (nI s)), (2, .int (nI t)), (3, .int 1)] []) := by
  have cs : (nI s).toNatClampNeg = s := nI_clamp (by omega)
  have v4 : vp_in (nI s) 4 := vp_in_nI hs (by decide)
  intro j
  induction j with
  | zero =>
    intro t C M h e ht
    obtain ⟨w, hw, s1, s2, s3, s4⟩ := h.P s hs
    have m1 : M.1 1 s = nI z := s2.trans (s1.symm.trans e)
    obtain rfl : t = z / 2 := by omega
    refine ⟨nI (z / 2), C, M, h, fun X K hE => r_X7_read_36 K ad C s hs _ _ ⟨fun _ => hE, fun q => nle_no q⟩, fun X K hE => ?_⟩
    refine r_X8_read_29 K ad' M (nI s) _ 1 ⟨fun q => absurd q (by decide), fun _ => ⟨v4, fun _ => hE, fun q => absurd ?_ q⟩⟩
    rw [cs, m1, show 2 * nI (z / 2) + 2 = nI (2 * (z / 2) + 2) from by rw [show (2 : Int32) = nI 2 from rfl, pk_mul, nI_add]]
    exact (nlt (by omega) (by omega)).mpr (by omega)
  | succ j ih =>
    intro t C M h e ht
    obtain ⟨w, hw, s1, s2, s3, s4⟩ := h.P s hs
    obtain rfl : w = z := (nI_eq (by omega) (by omega)).mp (s1.symm.trans e)
    have i1 : f_X4_item C s (2 * nI t) = C.1 (20 + s) (2 * t) := by
      rw [show 2 * nI t = nI (2 * t) from by rw [show (2 : Int32) = nI 2 from rfl, pk_mul]]
      exact item_eq (by omega) hw s1
    have i2 : f_X4_item C s (2 * nI t + 1) = C.1 (20 + s) (2 * t + 1) := by
      rw [show 2 * nI t = nI (2 * t) from by rw [show (2 : Int32) = nI 2 from rfl, pk_mul], nI_1]
      exact item_eq (by omega) hw s1
    have x1 : 64 * nI s + 2 * nI t = nI (64 * s + 2 * t) := by
      rw [show 2 * nI t = nI (2 * t) from by rw [show (2 : Int32) = nI 2 from rfl, pk_mul], ix64]
    have j1 : M.1 2 (64 * nI s + 2 * nI t).toNatClampNeg = C.1 (20 + s) (2 * t) := by
      rw [x1, nI_clamp (by omega)]; exact s3 _ (by omega)
    have j2 : M.1 2 (64 * nI s + 2 * nI t + 1).toNatClampNeg = C.1 (20 + s) (2 * t + 1) := by
      rw [x1, nI_1, nI_clamp (by omega), Nat.add_assoc]; exact s3 _ (by omega)
    obtain ⟨ev, hR, hp, hsg⟩ := seen_pair h (C.1 (20 + s) (2 * t)) (C.1 (20 + s) (2 * t + 1))
    have ltz : ¬ nI (w / 2) ≤ nI t := nI_ge (by omega) (by omega)
    have big : ¬ M.1 1 (nI s).toNatClampNeg < 2 * nI t + 2 := by
      rw [cs, s2, show 2 * nI t + 2 = nI (2 * t + 2) from by rw [show (2 : Int32) = nI 2 from rfl, pk_mul, nI_add]]
      exact nI_nlt (by omega) (by omega)
    have va : vp_in (64 * nI s + 2 * nI t) 256 := by rw [x1]; exact vp_in_nI (by omega) (by decide)
    have vb : vp_in (64 * nI s + 2 * nI t + 1) 256 := by rw [x1, nI_1]; exact vp_in_nI (by omega) (by decide)
    rcases hsg with ⟨g1, g2⟩ | ⟨g1, g2⟩
    · refine ⟨nI t, _, _, hR, fun X K hE => ?_, fun X K hE => ?_⟩
      · refine r_X7_read_36 K ad C s hs _ _ ⟨fun q => absurd q ltz, fun _ => ?_⟩
        rw [i1, i2, ev]
        exact ⟨fun _ => hE, fun q => absurd g1 q⟩
      · refine r_X8_read_29 K ad' M (nI s) _ 1 ⟨fun q => absurd q (by decide), fun _ => ⟨v4, fun q => absurd q big, fun _ => ⟨va, vb, ?_⟩⟩⟩
        rw [j1, j2, if_pos g2, if_neg Bool.false_ne_true, show b2i false = 0 from rfl, Int32.add_zero]
        exact ⟨hp, r_X8_read_29 K ad' _ (nI s) (nI t) 0 ⟨fun _ => hE, fun q => absurd rfl q⟩⟩
    · obtain ⟨r, C', M', hR', hc, hm⟩ := ih (t + 1) _ _ hR (by rw [seen_28]; exact e) (by omega)
      refine ⟨r, C', M', hR', fun X K hE => ?_, fun X K hE => ?_⟩
      · refine r_X7_read_36 K ad C s hs _ _ ⟨fun q => absurd q ltz, fun _ => ?_⟩
        rw [i1, i2, ev]
        refine ⟨fun q => absurd q g1, fun _ => ?_⟩
        rw [nI_1]
        exact hc X K hE
      · refine r_X8_read_29 K ad' M (nI s) _ 1 ⟨fun q => absurd q (by decide), fun _ => ⟨v4, fun q => absurd q big, fun _ => ⟨va, vb, ?_⟩⟩⟩
        rw [j1, j2, if_neg g2, if_pos rfl, show b2i true = 1 from rfl, nI_1]
        exact ⟨hp, hm X K hE⟩
theorem pr_read (x1 : Int32) : Pr Value.int yX7_read wsX7_read 3 65 yX8_read wsX8_read 2 47 [.int x1] := by
  intro C M h ad ad'
  rcases shq_cases x1 with ⟨s, hs, rfl⟩ | ⟨n1, n2, n3⟩
  · have b1 := sh_y hs
    have cs : (nI s).toNatClampNeg = s := nI_clamp (by omega)
    have v4 : vp_in (nI s) 4 := vp_in_nI hs (by decide)
    obtain ⟨z, hz, s1, s2, s3, s4⟩ := h.P s hs
    rcases s4 with ⟨l1, f1⟩ | ⟨l0, f, hf, f0, cf⟩
    · refine ⟨(f_X7_found C 1), s_X7_found C 1, s_X8_met M 1, h.found 1, fun l D E a1 a2 => ?_, fun l D E a1 a2 => ?_⟩
      · show Fn l D E a1 a2 yX7_read wsX7_read 3 65 [.ref (ad 0), .int (nI s)] (cW E ad C) (some (.int (f_X7_found C 1))) (cW E ad (s_X7_found C 1))
        refine Fn.of (cc := cX7_read) (maxL := 5) (ret := (some .int)) (own := RX7) (by decide) rfl rfl (sameC _ _ _ _) (Nat.le_of_ble_eq_true rfl) (fun X q1 q2 q3 q4 q5 K hE => ?_)
        subst q1 q2 q3 q4 q5
        refine r_X7_read_0 K ad C (nI s) ⟨fun k hk e => ?_, fun q => absurd q (sh_b hs)⟩
        obtain rfl := sh_inj hs hk e
        exact ⟨fun q => absurd (l1.symm.trans q) (by decide), fun _ => hE⟩
      · show Fn l D E a1 a2 yX8_read wsX8_read 2 47 [.ref (ad' 0), .int (nI s)] (mW E ad' M) (some (.int (f_X8_met M 1))) (mW E ad' (s_X8_met M 1))
        refine Fn.of (cc := cX8_read) (maxL := 4) (ret := (some .int)) (own := RX8) (by decide) rfl rfl (sameM _ _ _ _) (Nat.le_of_ble_eq_true rfl) (fun X q1 q2 q3 q4 q5 K hE => ?_)
        subst q1 q2 q3 q4 q5
        exact r_X8_read_0 K ad' M (nI s) ⟨fun _ => ⟨v4, fun q => absurd (by rw [cs, f1] at q; exact q) (by decide : ¬ (0 : Int32) ≤ -1), fun _ => hE⟩, fun q => by rw [b1] at q; cases q⟩
    · have g0 : 0 ≤ M.1 0 s := by rw [f0]; exact nI_pos' (by omega)
      obtain ⟨r, C', M', hR, hc, hm⟩ := read_go hs hz ad ad' (z / 2) 0 C M h s1 (Nat.zero_add _)
      refine ⟨r, C', M', hR, fun l D E a1 a2 => ?_, fun l D E a1 a2 => ?_⟩
      · show Fn l D E a1 a2 yX7_read wsX7_read 3 65 [.ref (ad 0), .int (nI s)] (cW E ad C) (some (.int r)) (cW E ad C')
        refine Fn.of (cc := cX7_read) (maxL := 5) (ret := (some .int)) (own := RX7) (by decide) rfl rfl (sameC _ _ _ _) (Nat.le_of_ble_eq_true rfl) (fun X q1 q2 q3 q4 q5 K hE => ?_)
        subst q1 q2 q3 q4 q5
        refine r_X7_read_0 K ad C (nI s) ⟨fun k hk e => ?_, fun q => absurd q (sh_b hs)⟩
        obtain rfl := sh_inj hs hk e
        refine ⟨fun _ => ?_, fun q => absurd l0 q⟩
        have dv : C.1 (28 + k) 0 / 2 = nI (z / 2) := by rw [s1]; exact pk_div2 z hz
        rw [dv]
        exact hc X K hE
      · show Fn l D E a1 a2 yX8_read wsX8_read 2 47 [.ref (ad' 0), .int (nI s)] (mW E ad' M) (some (.int r)) (mW E ad' M')
        refine Fn.of (cc := cX8_read) (maxL := 4) (ret := (some .int)) (own := RX8) (by decide) rfl rfl (sameM _ _ _ _) (Nat.le_of_ble_eq_true rfl) (fun X q1 q2 q3 q4 q5 K hE => ?_)
        subst q1 q2 q3 q4 q5
        exact r_X8_read_0 K ad' M (nI s) ⟨fun _ => ⟨v4, fun _ => hm X K hE, fun q => absurd (by rw [cs]; exact g0) q⟩, fun q => by rw [b1] at q; cases q⟩
  · refine ⟨(-2), C, M, h, fun l D E a1 a2 => ?_, fun l D E a1 a2 => ?_⟩
    · show Fn l D E a1 a2 yX7_read wsX7_read 3 65 [.ref (ad 0), .int x1] (cW E ad C) (some (.int (-2))) (cW E ad C)
      refine Fn.of (cc := cX7_read) (maxL := 5) (ret := (some .int)) (own := RX7) (by decide) rfl rfl (sameC _ _ _ _) (Nat.le_of_ble_eq_true rfl) (fun X q1 q2 q3 q4 q5 K hE => ?_)
      subst q1 q2 q3 q4 q5
      exact r_X7_read_0 K ad C x1 ⟨fun k hk e => absurd ⟨k, hk, e⟩ n3, fun _ => hE⟩
    · show Fn l D E a1 a2 yX8_read wsX8_read 2 47 [.ref (ad' 0), .int x1] (mW E ad' M) (some (.int (-2))) (mW E ad' M)
      refine Fn.of (cc := cX8_read) (maxL := 4) (ret := (some .int)) (own := RX8) (by decide) rfl rfl (sameM _ _ _ _) (Nat.le_of_ble_eq_true rfl) (fun X q1 q2 q3 q4 q5 K hE => ?_)
      subst q1 q2 q3 q4 q5
      exact r_X8_read_0 K ad' M x1 ⟨fun q => (by rw [n1] at q; cases q), fun _ => hE⟩
end
