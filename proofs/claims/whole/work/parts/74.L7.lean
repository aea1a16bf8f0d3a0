section
theorem and31 (x : Int32) : ∃ k, k < 32 ∧ x &&& 31 = nI k := by
  refine ⟨uI x &&& 31, ?_, ?_⟩
  · exact Nat.lt_of_le_of_lt Nat.and_le_right (by decide)
  · have : x = nI (uI x) := (nI_uI x).symm
    rw [show (31 : Int32) = nI 31 from rfl]
    conv => lhs; rw [this]
    exact and_nI _ _
theorem sub7 {L t : Nat} (hL : L ≤ 448) (ht : t ≤ 448) : (nI L - 7 < nI t) ↔ L < t + 7 := by
  have e : (nI L - 7).toInt = (L : Int) - 7 := by
    rcases Nat.lt_or_ge L 7 with l | l
    · have := (by decide : ∀ L, L < 7 → (nI L - 7).toInt = (L : Int) - 7) L l
      exact this
    · have e1 : nI L - 7 = nI (L - 7) := by
        have : nI L = nI (L - 7) + nI 7 := by rw [nI_add]; exact congrArg nI (by omega)
        rw [this, show (7 : Int32) = nI 7 from rfl, Int32.add_sub_cancel]
      rw [e1, nI_toInt (by omega)]
      omega
  rw [Int32.lt_iff_toInt_lt, e, nI_toInt (by omega)]
  omega
theorem law_loop {X : Bn} {b L : Nat} {xs : Nat → Int32} {ad ad' : Nat → Nat} (K : Cx X cL_law 4 RL wsL_law 9 346) (hX : LX X b L xs) (fin : ∀ C M j, At X 4 (cW X.E ad C ++ mW X.E ad' M) 1302 (LV b ad ad' j) []) : ∀ (n t : Nat) (C M : MS), Rel C M → 7 * t + 7 ≤ 7 * n + L + 7 → L < 7 * t + 7 * n + 7 → 7 * t ≤ L → At X 4 (cW X.E ad C ++ mW X.E ad' M) 18 (LV b ad ad' (7 * t)) [] := by
  have h448 := hX.2.2.2
  intro n
  induction n with
  | zero =>
    intro t C M hR _ hn ht
    refine at_iload_n K dL_law_18 rfl (j := 3) rfl ?_
    refine at_aload_n K dL_law_19 rfl (j := 0) rfl ?_
    refine at_slen K hX dL_law_20 ?_
    refine at_bipush K dL_law_21 (v := 7) rfl ?_
    refine at_isub K dL_law_23 ?_
    exact at_icmp_gt K dL_law_24 (tgt := 1302) (by decide) (fun _ => fin C M (7 * t)) (fun q => absurd ((sub7 h448 (by omega)).mpr (by omega)) q)
  | succ n ih =>
    intro t C M hR _ hn ht
    refine at_iload_n K dL_law_18 rfl (j := 3) rfl ?_
    refine at_aload_n K dL_law_19 rfl (j := 0) rfl ?_
    refine at_slen K hX dL_law_20 ?_
    refine at_bipush K dL_law_21 (v := 7) rfl ?_
    refine at_isub K dL_law_23 ?_
    refine at_icmp_gt K dL_law_24 (tgt := 1302) (by decide) (fun _ => fin C M (7 * t)) (fun q => ?_)
    have hj : 7 * t + 7 ≤ L := by
      rcases Nat.lt_or_ge L (7 * t + 7) with l | l
      · exact absurd ((sub7 h448 (by omega)).mpr l) q
      · exact l
    have next : ∀ C' M', Rel C' M' → At X 4 (cW X.E ad C' ++ mW X.E ad' M') 1296 (LV b ad ad' (7 * t)) [] := by
      intro C' M' hR'
      have h := ih (t + 1) C' M' hR' (by omega) (by omega) (by omega)
      refine at_iinc K dL_law_1296 (j := 3) (v := nI (7 * (t + 1))) rfl ?_ (by decide) (lv' := [(3, .int (nI (7 * (t + 1)))), (0, .ref b), (1, .ref (ad 0)), (2, .ref (ad' 0))]) rfl ?_
      · show nI (7 * t) + nI 7 = nI (7 * (t + 1))
        rw [nI_add]; exact congrArg nI (by omega)
      · refine at_goto K dL_law_1299 (tgt := 18) (by decide) ?_
        intro H locs ls hP hD hS hl
        exact h H locs ls hP hD hS (lv_sub hl [1, 2, 3, 0] rfl)
    refine at_aload_n K dL_law_27 rfl (j := 0) rfl ?_
    refine at_iload_n K dL_law_28 rfl (j := 3) rfl ?_
    refine at_sld K hX (c := 7 * t) (by omega) dL_law_29 ?_
    refine at_bipush K dL_law_30 (v := 31) rfl ?_
    refine at_iand K dL_law_32 ?_
    obtain ⟨k, hk, ek⟩ := and31 (xs (7 * t))
    rw [ek]
    match k, hk with
    | 0, _ => exact at_tabIn K dL_law_33 (by decide) (by decide) (off := 143) (by decide) (tgt := 176) (by decide) (law_0 K hX hj hR next)
    | 1, _ => exact at_tabIn K dL_law_33 (by decide) (by decide) (off := 176) (by decide) (tgt := 209) (by decide) (law_1 K hX hj hR next)
    | 2, _ => exact at_tabIn K dL_law_33 (by decide) (by decide) (off := 199) (by decide) (tgt := 232) (by decide) (law_2 K hX hj hR next)
    | 3, _ => exact at_tabIn K dL_law_33 (by decide) (by decide) (off := 222) (by decide) (tgt := 255) (by decide) (law_3 K hX hj hR next)
    | 4, _ => exact at_tabIn K dL_law_33 (by decide) (by decide) (off := 245) (by decide) (tgt := 278) (by decide) (law_4 K hX hj hR next)
    | 5, _ => exact at_tabIn K dL_law_33 (by decide) (by decide) (off := 278) (by decide) (tgt := 311) (by decide) (law_5 K hX hj hR next)
    | 6, _ => exact at_tabIn K dL_law_33 (by decide) (by decide) (off := 311) (by decide) (tgt := 344) (by decide) (law_6 K hX hj hR next)
    | 7, _ => exact at_tabIn K dL_law_33 (by decide) (by decide) (off := 354) (by decide) (tgt := 387) (by decide) (law_7 K hX hj hR next)
    | 8, _ => exact at_tabIn K dL_law_33 (by decide) (by decide) (off := 387) (by decide) (tgt := 420) (by decide) (law_8 K hX hj hR next)
    | 9, _ => exact at_tabIn K dL_law_33 (by decide) (by decide) (off := 420) (by decide) (tgt := 453) (by decide) (law_9 K hX hj hR next)
    | 10, _ => exact at_tabIn K dL_law_33 (by decide) (by decide) (off := 443) (by decide) (tgt := 476) (by decide) (law_10 K hX hj hR next)
    | 11, _ => exact at_tabIn K dL_law_33 (by decide) (by decide) (off := 486) (by decide) (tgt := 519) (by decide) (law_11 K hX hj hR next)
    | 12, _ => exact at_tabIn K dL_law_33 (by decide) (by decide) (off := 549) (by decide) (tgt := 582) (by decide) (law_12 K hX hj hR next)
    | 13, _ => exact at_tabIn K dL_law_33 (by decide) (by decide) (off := 592) (by decide) (tgt := 625) (by decide) (law_13 K hX hj hR next)
    | 14, _ => exact at_tabIn K dL_law_33 (by decide) (by decide) (off := 667) (by decide) (tgt := 700) (by decide) (law_14 K hX hj hR next)
    | 15, _ => exact at_tabIn K dL_law_33 (by decide) (by decide) (off := 700) (by decide) (tgt := 733) (by decide) (law_15 K hX hj hR next)
    | 16, _ => exact at_tabIn K dL_law_33 (by decide) (by decide) (off := 713) (by decide) (tgt := 746) (by decide) (law_16 K hX hj hR next)
    | 17, _ => exact at_tabIn K dL_law_33 (by decide) (by decide) (off := 736) (by decide) (tgt := 769) (by decide) (law_17 K hX hj hR next)
    | 18, _ => exact at_tabIn K dL_law_33 (by decide) (by decide) (off := 759) (by decide) (tgt := 792) (by decide) (law_18 K hX hj hR next)
    | 19, _ => exact at_tabIn K dL_law_33 (by decide) (by decide) (off := 782) (by decide) (tgt := 815) (by decide) (law_19 K hX hj hR next)
    | 20, _ => exact at_tabIn K dL_law_33 (by decide) (by decide) (off := 815) (by decide) (tgt := 848) (by decide) (law_20 K hX hj hR next)
    | 21, _ => exact at_tabIn K dL_law_33 (by decide) (by decide) (off := 838) (by decide) (tgt := 871) (by decide) (law_21 K hX hj hR next)
    | 22, _ => exact at_tabIn K dL_law_33 (by decide) (by decide) (off := 901) (by decide) (tgt := 934) (by decide) (law_22 K hX hj hR next)
    | 23, _ => exact at_tabIn K dL_law_33 (by decide) (by decide) (off := 955) (by decide) (tgt := 988) (by decide) (law_23 K hX hj hR next)
    | 24, _ => exact at_tabIn K dL_law_33 (by decide) (by decide) (off := 998) (by decide) (tgt := 1031) (by decide) (law_24 K hX hj hR next)
    | 25, _ => exact at_tabIn K dL_law_33 (by decide) (by decide) (off := 1021) (by decide) (tgt := 1054) (by decide) (law_25 K hX hj hR next)
    | 26, _ => exact at_tabIn K dL_law_33 (by decide) (by decide) (off := 1074) (by decide) (tgt := 1107) (by decide) (law_26 K hX hj hR next)
    | 27, _ => exact at_tabIn K dL_law_33 (by decide) (by decide) (off := 1117) (by decide) (tgt := 1150) (by decide) (law_27 K hX hj hR next)
    | 28, _ => exact at_tabIn K dL_law_33 (by decide) (by decide) (off := 1180) (by decide) (tgt := 1213) (by decide) (law_28 K hX hj hR next)
    | 29, _ => exact at_tabIn K dL_law_33 (by decide) (by decide) (off := 1203) (by decide) (tgt := 1236) (by decide) (law_29 K hX hj hR next)
    | 30, _ => exact at_tabIn K dL_law_33 (by decide) (by decide) (off := 1226) (by decide) (tgt := 1259) (by decide) (law_30 K hX hj hR next)
    | 31, _ => exact at_tabIn K dL_law_33 (by decide) (by decide) (off := 1249) (by decide) (tgt := 1282) (by decide) (law_31 K hX hj hR next)
    | k + 32, h => omega
end
