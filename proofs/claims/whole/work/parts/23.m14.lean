set_option maxRecDepth 20000 in
theorem ggX8_through_X8_reads : GoodIn wsX8_through wsX8_reads := goodIn_r _ [5, 6, 7, 8, 4, 9, 10, 11, 12, 13, 14, 15, 16, 17, 18, 19, 20, 21, 22, 23, 24, 25, 26, 27, 28, 29, 30, 31, 32, 33, 34, 35, 36, 37, 38, 39, 40, 41, 42, 43, 44, 45, 46, 95, 96, 97, 98, 99, 100, 101, 102, 103, 104, 105, 106, 107, 108, 109, 110, 111, 112] (by decide +kernel) (by decide +kernel)
set_option maxRecDepth 20000 in
theorem gX8_through_X8_reads : GoodIn wsX8_through (wsV RX8 138 RX8 yX8_reads wsX8_reads) := goodIn_app (goodIn_of _ (by decide +kernel)) ggX8_through_X8_reads
set_option maxRecDepth 20000 in
theorem ggX8_through_X8_isStand : GoodIn wsX8_through wsX8_isStand := goodIn_r _ [50, 51, 52, 53, 4, 54, 11, 27, 28, 29, 55, 56, 57, 58, 59, 60, 61, 62, 95, 96, 97, 98, 99, 100, 101, 102, 103, 104, 105, 106, 107, 108, 109, 110, 111, 112] (by decide +kernel) (by decide +kernel)
set_option maxRecDepth 20000 in
theorem gX8_through_X8_isStand : GoodIn wsX8_through (wsV RX8 189 RX8 yX8_isStand wsX8_isStand) := goodIn_app (goodIn_of _ (by decide +kernel)) ggX8_through_X8_isStand
set_option maxRecDepth 20000 in
theorem ggX8_through_X8_throughOf : GoodIn wsX8_through wsX8_throughOf := goodIn_r _ [66, 21, 67, 68, 69, 4, 70, 71, 72, 73, 74, 75, 76, 77, 78, 79, 80, 42, 81, 82, 83, 84, 85, 86, 87, 88, 89, 90, 91, 92, 93, 94, 27, 28, 29, 95, 96, 97, 98, 99, 100, 101, 102, 103, 104, 105, 106, 107, 108, 109, 110, 111, 112] (by decide +kernel) (by decide +kernel)
set_option maxRecDepth 20000 in
theorem gX8_through_X8_throughOf : GoodIn wsX8_through (wsV RX8 208 RX8 yX8_throughOf wsX8_throughOf) := goodIn_app (goodIn_of _ (by decide +kernel)) ggX8_through_X8_throughOf
theorem dX8_through_0 : decode cX8_through 0 = .ok (.aload_n 0, 1) := by decide +kernel
theorem dX8_through_1 : decode cX8_through 1 = .ok (.invokevirtual 138, 3) := by decide +kernel
theorem dX8_through_4 : decode cX8_through 4 = .ok (.aload_n 0, 1) := by decide +kernel
theorem dX8_through_5 : decode cX8_through 5 = .ok (.iload_n 1, 1) := by decide +kernel
theorem dX8_through_6 : decode cX8_through 6 = .ok (.iload_n 2, 1) := by decide +kernel
theorem dX8_through_7 : decode cX8_through 7 = .ok (.iload_n 3, 1) := by decide +kernel
theorem dX8_through_8 : decode cX8_through 8 = .ok (.invokevirtual 189, 3) := by decide +kernel
theorem dX8_through_11 : decode cX8_through 11 = .ok (.ifCond .eq 29, 3) := by decide +kernel
theorem dX8_through_14 : decode cX8_through 14 = .ok (.aload_n 0, 1) := by decide +kernel
theorem dX8_through_15 : decode cX8_through 15 = .ok (.iload_n 1, 1) := by decide +kernel
theorem dX8_through_16 : decode cX8_through 16 = .ok (.iload 4, 2) := by decide +kernel
theorem dX8_through_18 : decode cX8_through 18 = .ok (.iload 5, 2) := by decide +kernel
theorem dX8_through_20 : decode cX8_through 20 = .ok (.invokevirtual 189, 3) := by decide +kernel
theorem dX8_through_23 : decode cX8_through 23 = .ok (.ifCond .eq 17, 3) := by decide +kernel
theorem dX8_through_26 : decode cX8_through 26 = .ok (.aload_n 0, 1) := by decide +kernel
theorem dX8_through_27 : decode cX8_through 27 = .ok (.iload_n 1, 1) := by decide +kernel
theorem dX8_through_28 : decode cX8_through 28 = .ok (.iload_n 2, 1) := by decide +kernel
theorem dX8_through_29 : decode cX8_through 29 = .ok (.iload_n 3, 1) := by decide +kernel
theorem dX8_through_30 : decode cX8_through 30 = .ok (.iload 4, 2) := by decide +kernel
theorem dX8_through_32 : decode cX8_through 32 = .ok (.iload 5, 2) := by decide +kernel
theorem dX8_through_34 : decode cX8_through 34 = .ok (.invokevirtual 208, 3) := by decide +kernel
theorem dX8_through_37 : decode cX8_through 37 = .ok (.goto 5, 3) := by decide +kernel
theorem dX8_through_40 : decode cX8_through 40 = .ok (.bipush (-2), 2) := by decide +kernel
theorem dX8_through_42 : decode cX8_through 42 = .ok (.ireturn, 1) := by decide +kernel
set_option maxRecDepth 100000 in
theorem r_X8_through_0 {X : Bn} (C : Cx X cX8_through 6 RX8 wsX8_through 6 146) (ad : Nat → Nat) (S : MS) (x1 : Int32) (x2 : Int32) (x3 : Int32) (x4 : Int32) (x5 : Int32) (h : ∃ (S1 : MS), (Fn X.l X.D X.E X.a1 X.a2 yX8_reads wsX8_reads 3 70 [.ref (ad 0)] (mW X.E ad S) none (mW X.E ad S1)) ∧ ((((f_X8_isStand S1 x1 x2 x3) = true) → ((((f_X8_isStand S1 x1 x4 x5) = true) → (∃ (r2 : Int32) (S2 : MS), (Fn X.l X.D X.E X.a1 X.a2 yX8_throughOf wsX8_throughOf 5 121 [.ref (ad 0), .int x1, .int x2, .int x3, .int x4, .int x5] (mW X.E ad S1) (some (.int r2)) (mW X.E ad S2)) ∧ (Ends X (some .int) (some (.int r2)) (mW X.E ad S2)))) ∧ ((f_X8_isStand S1 x1 x4 x5) = false → (Ends X (some .int) (some (.int (-2))) (mW X.E ad S1))))) ∧ ((f_X8_isStand S1 x1 x2 x3) = false → (Ends X (some .int) (some (.int (-2))) (mW X.E ad S1))))) : At X 6 (mW X.E ad S) 0 [(0, .ref (ad 0)), (1, .int x1), (2, .int x2), (3, .int x3), (4, .int x4), (5, .int x5)] [] := by
  refine at_aload_n C dX8_through_0 rfl (j := 0) rfl ?_
  obtain ⟨S1, hF1, h⟩ := h
  refine at_cV1v C 0 hF1 gX8_through_X8_reads rfl (by decide +kernel) ⟨rfl, rfl⟩ rfl rfl rfl 0 mW_c0 rfl dX8_through_1 ?_
  refine at_aload_n C dX8_through_4 rfl (j := 0) rfl ?_
  refine at_iload_n C dX8_through_5 rfl (j := 1) rfl ?_
  refine at_iload_n C dX8_through_6 rfl (j := 2) rfl ?_
  refine at_iload_n C dX8_through_7 rfl (j := 3) rfl ?_
  refine at_cV1 C 3 (c_X8_isStand X.l X.D X.E X.a1 X.a2 ad S1 x1 x2 x3) gX8_through_X8_isStand rfl (by decide +kernel) ⟨rfl, rfl⟩ rfl rfl rfl 0 mW_c0 rfl dX8_through_8 ?_
  refine at_ifB_eq C dX8_through_11 (tgt := 40) (by decide) (fun hc0 => ?_) (fun hc0 => ?_)
  · replace h := h.2 hc0
    refine at_bipush C dX8_through_40 (v := (-2)) rfl ?_
    exact at_iret C dX8_through_42 h
  · replace h := h.1 hc0
    refine at_aload_n C dX8_through_14 rfl (j := 0) rfl ?_
    refine at_iload_n C dX8_through_15 rfl (j := 1) rfl ?_
    refine at_iload C dX8_through_16 (j := 4) rfl ?_
    refine at_iload C dX8_through_18 (j := 5) rfl ?_
    refine at_cV1 C 3 (c_X8_isStand X.l X.D X.E X.a1 X.a2 ad S1 x1 x4 x5) gX8_through_X8_isStand rfl (by decide +kernel) ⟨rfl, rfl⟩ rfl rfl rfl 0 mW_c0 rfl dX8_through_20 ?_
    refine at_ifB_eq C dX8_through_23 (tgt := 40) (by decide) (fun hc1 => ?_) (fun hc1 => ?_)
    · replace h := h.2 hc1
      refine at_bipush C dX8_through_40 (v := (-2)) rfl ?_
      exact at_iret C dX8_through_42 h
    · replace h := h.1 hc1
      refine at_aload_n C dX8_through_26 rfl (j := 0) rfl ?_
      refine at_iload_n C dX8_through_27 rfl (j := 1) rfl ?_
      refine at_iload_n C dX8_through_28 rfl (j := 2) rfl ?_
      refine at_iload_n C dX8_through_29 rfl (j := 3) rfl ?_
      refine at_iload C dX8_through_30 (j := 4) rfl ?_
      refine at_iload C dX8_through_32 (j := 5) rfl ?_
      obtain ⟨r2, S2, hF2, h⟩ := h
      refine at_cV1 C 5 hF2 gX8_through_X8_throughOf rfl (by decide +kernel) ⟨rfl, rfl⟩ rfl rfl rfl 0 mW_c0 rfl dX8_through_34 ?_
      refine at_goto C dX8_through_37 (tgt := 42) (by decide) ?_
      exact at_iret C dX8_through_42 h
def hrT (ad : Nat → Nat) (S S1 : MS) : Prop := ∀ (l : Launch) (D : va_G) (E : Nat → ClassId) (a1 a2 : Nat), Fn l D E a1 a2 yX8_reads wsX8_reads 3 70 [.ref (ad 0)] (mW E ad S) none (mW E ad S1)
def thruV (S1 : MS) (x1 x2 x3 x4 x5 r : Int32) : Prop := if f_X8_isStand S1 x1 x2 x3 = true ∧ f_X8_isStand S1 x1 x4 x5 = true then thrR (okS (S1.1 10) (S1.1 9 x1.toNatClampNeg)) (64 * x2.toNatClampNeg + x3.toNatClampNeg) (64 * x4.toNatClampNeg + x5.toNatClampNeg) r else r = -2
theorem c_X8_through (ad : Nat → Nat) (S S1 : MS) (hr : hrT ad S S1) {cnt : Nat} (hc : cnt ≤ 8) (e8 : S1.1 8 0 = nI cnt) (x1 x2 x3 x4 x5 : Int32) :
    ∃ r S2, thruV S1 x1 x2 x3 x4 x5 r ∧ keepF S1 S2 ∧ ∀ (l : Launch) (D : va_G) (E : Nat → ClassId) (a1 a2 : Nat), Fn l D E a1 a2 yX8_through wsX8_through 6 146 [.ref (ad 0), .int x1, .int x2, .int x3, .int x4, .int x5] (mW E ad S) (some (.int r)) (mW E ad S2) := by
  by_cases h1 : f_X8_isStand S1 x1 x2 x3 = true
  · by_cases h2 : f_X8_isStand S1 x1 x4 x5 = true
    · obtain ⟨s, t, c, ⟨hs, ht, hcc⟩, rfl, rfl, rfl⟩ := (isStand_iff hc e8 _ _ _).mp h1
      obtain ⟨s', u, to, ⟨hs', hu, hto⟩, es, rfl, rfl⟩ := (isStand_iff hc e8 _ _ _).mp h2
      obtain ⟨r, S2, hR, hk, hF⟩ := c_X8_throughOf ad S1 (s := s) (by omega) ht hcc hu hto
      refine ⟨r, S2, ?_, hk, fun l D E a1 a2 => ?_⟩
      · rw [thruV, if_pos ⟨h1, h2⟩, nI_clamp (by omega), nI_clamp (by omega), nI_clamp (by omega), nI_clamp (by omega), nI_clamp (by omega)]; exact hR
      · refine Fn.of (cc := cX8_through) (maxL := 6) (ret := (some .int)) (own := RX8) (by decide) rfl rfl (sameM _ _ _ _) (Nat.le_of_ble_eq_true rfl) (fun X h1' h2' h3 h4 h5 C hE => ?_)
        subst h1' h2' h3 h4 h5
        exact r_X8_through_0 C ad S _ _ _ _ _ ⟨S1, hr _ _ _ _ _, fun _ => ⟨fun _ => ⟨r, S2, hF _ _ _ _ _, hE⟩, fun z => by rw [h2] at z; cases z⟩, fun z => by rw [h1] at z; cases z⟩
    · refine ⟨-2, S1, by rw [thruV, if_neg (fun z => h2 z.2)], keepF.rf S1, fun l D E a1 a2 => ?_⟩
      refine Fn.of (cc := cX8_through) (maxL := 6) (ret := (some .int)) (own := RX8) (by decide) rfl rfl (sameM _ _ _ _) (Nat.le_of_ble_eq_true rfl) (fun X h1' h2' h3 h4 h5 C hE => ?_)
      subst h1' h2' h3 h4 h5
      exact r_X8_through_0 C ad S _ _ _ _ _ ⟨S1, hr _ _ _ _ _, fun _ => ⟨fun z => absurd z h2, fun _ => hE⟩, fun z => by rw [h1] at z; cases z⟩
  · refine ⟨-2, S1, by rw [thruV, if_neg (fun z => h1 z.1)], keepF.rf S1, fun l D E a1 a2 => ?_⟩
    refine Fn.of (cc := cX8_through) (maxL := 6) (ret := (some .int)) (own := RX8) (by decide) rfl rfl (sameM _ _ _ _) (Nat.le_of_ble_eq_true rfl) (fun X h1' h2' h3 h4 h5 C hE => ?_)
    subst h1' h2' h3 h4 h5
    exact r_X8_through_0 C ad S _ _ _ _ _ ⟨S1, hr _ _ _ _ _, fun z => absurd z h1, fun _ => hE⟩
set_option maxRecDepth 20000 in
theorem ggX8_reach_X8_reads : GoodIn wsX8_reach wsX8_reads := goodIn_r _ [5, 6, 7, 8, 4, 9, 10, 11, 12, 13, 14, 15, 16, 17, 18, 19, 20, 21, 22, 23, 24, 25, 26, 27, 28, 29, 30, 31, 32, 33, 34, 35, 36, 37, 38, 39, 40, 41, 42, 43, 44, 45, 46, 95, 96, 97, 98, 99, 100, 101, 102, 103, 104, 105, 106, 107, 108, 109, 110, 111, 112] (by decide +kernel) (by decide +kernel)
set_option maxRecDepth 20000 in
theorem gX8_reach_X8_reads : GoodIn wsX8_reach (wsV RX8 138 RX8 yX8_reads wsX8_reads) := goodIn_app (goodIn_of _ (by decide +kernel)) ggX8_reach_X8_reads
set_option maxRecDepth 20000 in
theorem ggX8_reach_X8_isStand : GoodIn wsX8_reach wsX8_isStand := goodIn_r _ [50, 51, 52, 53, 4, 54, 11, 27, 28, 29, 55, 56, 57, 58, 59, 60, 61, 62, 95, 96, 97, 98, 99, 100, 101, 102, 103, 104, 105, 106, 107, 108, 109, 110, 111, 112] (by decide +kernel) (by decide +kernel)
set_option maxRecDepth 20000 in
theorem gX8_reach_X8_isStand : GoodIn wsX8_reach (wsV RX8 189 RX8 yX8_isStand wsX8_isStand) := goodIn_app (goodIn_of _ (by decide +kernel)) ggX8_reach_X8_isStand
set_option maxRecDepth 20000 in
theorem ggX8_reach_X8_reachOf : GoodIn wsX8_reach wsX8_reachOf := goodIn_r _ [66, 21, 67, 68, 69, 4, 70, 71, 72, 73, 74, 75, 76, 77, 78, 79, 80, 42, 81, 82, 83, 84, 85, 86, 87, 88, 89, 90, 91, 92, 93, 94, 27, 28, 29, 95, 96, 97, 98, 99, 100, 101, 102, 103, 104, 105, 106, 107, 108, 109, 110, 111, 112] (by decide +kernel) (by decide +kernel)
set_option maxRecDepth 20000 in
theorem gX8_reach_X8_reachOf : GoodIn wsX8_reach (wsV RX8 212 RX8 yX8_reachOf wsX8_reachOf) := goodIn_app (goodIn_of _ (by decide +kernel)) ggX8_reach_X8_reachOf
theorem dX8_reach_0 : decode cX8_reach 0 = .ok (.aload_n 0, 1) := by decide +kernel
theorem dX8_reach_1 : decode cX8_reach 1 = .ok (.invokevirtual 138, 3) := by decide +kernel
theorem dX8_reach_4 : decode cX8_reach 4 = .ok (.aload_n 0, 1) := by decide +kernel
theorem dX8_reach_5 : decode cX8_reach 5 = .ok (.iload_n 1, 1) := by decide +kernel
theorem dX8_reach_6 : decode cX8_reach 6 = .ok (.iload_n 2, 1) := by decide +kernel
theorem dX8_reach_7 : decode cX8_reach 7 = .ok (.iload_n 3, 1) := by decide +kernel
theorem dX8_reach_8 : decode cX8_reach 8 = .ok (.invokevirtual 189, 3) := by decide +kernel
theorem dX8_reach_11 : decode cX8_reach 11 = .ok (.ifCond .eq 13, 3) := by decide +kernel
theorem dX8_reach_14 : decode cX8_reach 14 = .ok (.aload_n 0, 1) := by decide +kernel
theorem dX8_reach_15 : decode cX8_reach 15 = .ok (.iload_n 1, 1) := by decide +kernel
theorem dX8_reach_16 : decode cX8_reach 16 = .ok (.iload_n 2, 1) := by decide +kernel
theorem dX8_reach_17 : decode cX8_reach 17 = .ok (.iload_n 3, 1) := by decide +kernel
theorem dX8_reach_18 : decode cX8_reach 18 = .ok (.invokevirtual 212, 3) := by decide +kernel
theorem dX8_reach_21 : decode cX8_reach 21 = .ok (.goto 5, 3) := by decide +kernel
theorem dX8_reach_24 : decode cX8_reach 24 = .ok (.bipush (-2), 2) := by decide +kernel
theorem dX8_reach_26 : decode cX8_reach 26 = .ok (.ireturn, 1) := by decide +kernel
set_option maxRecDepth 100000 in
theorem r_X8_reach_0 {X : Bn} (C : Cx X cX8_reach 4 RX8 wsX8_reach 6 146) (ad : Nat → Nat) (S : MS) (x1 : Int32) (x2 : Int32) (x3 : Int32) (h : ∃ (S1 : MS), (Fn X.l X.D X.E X.a1 X.a2 yX8_reads wsX8_reads 3 70 [.ref (ad 0)] (mW X.E ad S) none (mW X.E ad S1)) ∧ ((((f_X8_isStand S1 x1 x2 x3) = true) → (∃ (r2 : Int32) (S2 : MS), (Fn X.l X.D X.E X.a1 X.a2 yX8_reachOf wsX8_reachOf 5 121 [.ref (ad 0), .int x1, .int x2, .int x3] (mW X.E ad S1) (some (.int r2)) (mW X.E ad S2)) ∧ (Ends X (some .int) (some (.int r2)) (mW X.E ad S2)))) ∧ ((f_X8_isStand S1 x1 x2 x3) = false → (Ends X (some .int) (some (.int (-2))) (mW X.E ad S1))))) : At X 4 (mW X.E ad S) 0 [(0, .ref (ad 0)), (1, .int x1), (2, .int x2), (3, .int x3)] [] := by
  refine at_aload_n C dX8_reach_0 rfl (j := 0) rfl ?_
  obtain ⟨S1, hF1, h⟩ := h
  refine at_cV1v C 0 hF1 gX8_reach_X8_reads rfl (by decide +kernel) ⟨rfl, rfl⟩ rfl rfl rfl 0 mW_c0 rfl dX8_reach_1 ?_
  refine at_aload_n C dX8_reach_4 rfl (j := 0) rfl ?_
  refine at_iload_n C dX8_reach_5 rfl (j := 1) rfl ?_
  refine at_iload_n C dX8_reach_6 rfl (j := 2) rfl ?_
  refine at_iload_n C dX8_reach_7 rfl (j := 3) rfl ?_
  refine at_cV1 C 3 (c_X8_isStand X.l X.D X.E X.a1 X.a2 ad S1 x1 x2 x3) gX8_reach_X8_isStand rfl (by decide +kernel) ⟨rfl, rfl⟩ rfl rfl rfl 0 mW_c0 rfl dX8_reach_8 ?_
  refine at_ifB_eq C dX8_reach_11 (tgt := 24) (by decide) (fun hc0 => ?_) (fun hc0 => ?_)
  · replace h := h.2 hc0
    refine at_bipush C dX8_reach_24 (v := (-2)) rfl ?_
    exact at_iret C dX8_reach_26 h
  · replace h := h.1 hc0
    refine at_aload_n C dX8_reach_14 rfl (j := 0) rfl ?_
    refine at_iload_n C dX8_reach_15 rfl (j := 1) rfl ?_
    refine at_iload_n C dX8_reach_16 rfl (j := 2) rfl ?_
    refine at_iload_n C dX8_reach_17 rfl (j := 3) rfl ?_
    obtain ⟨r2, S2, hF2, h⟩ := h
    refine at_cV1 C 3 hF2 gX8_reach_X8_reachOf rfl (by decide +kernel) ⟨rfl, rfl⟩ rfl rfl rfl 0 mW_c0 rfl dX8_reach_18 ?_
    refine at_goto C dX8_reach_21 (tgt := 26) (by decide) ?_
    exact at_iret C dX8_reach_26 h
def rchV (S1 : MS) (x1 x2 x3 r : Int32) : Prop := if f_X8_isStand S1 x1 x2 x3 = true then rchR (okS (S1.1 10) (S1.1 9 x1.toNatClampNeg)) (64 * x2.toNatClampNeg + x3.toNatClampNeg) r else r = -2
theorem c_X8_reach (ad : Nat → Nat) (S S1 : MS) (hr : hrT ad S S1) {cnt : Nat} (hc : cnt ≤ 8) (e8 : S1.1 8 0 = nI cnt) (x1 x2 x3 : Int32) :
    ∃ r S2, rchV S1 x1 x2 x3 r ∧ keepF S1 S2 ∧ ∀ (l : Launch) (D : va_G) (E : Nat → ClassId) (a1 a2 : Nat), Fn l D E a1 a2 yX8_reach wsX8_reach 6 146 [.ref (ad 0), .int x1, .int x2, .int x3] (mW E ad S) (some (.int r)) (mW E ad S2) := by
  by_cases h1 : f_X8_isStand S1 x1 x2 x3 = true
  · obtain ⟨s, t, c, ⟨hs, ht, hcc⟩, rfl, rfl, rfl⟩ := (isStand_iff hc e8 _ _ _).mp h1
    obtain ⟨r, S2, hR, hk, hF⟩ := c_X8_reachOf ad S1 (s := s) (by omega) ht hcc
    refine ⟨r, S2, ?_, hk, fun l D E a1 a2 => ?_⟩
    · rw [rchV, if_pos h1, nI_clamp (by omega), nI_clamp (by omega), nI_clamp (by omega)]; exact hR
    · refine Fn.of (cc := cX8_reach) (maxL := 4) (ret := (some .int)) (own := RX8) (by decide) rfl rfl (sameM _ _ _ _) (Nat.le_of_ble_eq_true rfl) (fun X h1' h2' h3 h4 h5 C hE => ?_)
      subst h1' h2' h3 h4 h5
      exact r_X8_reach_0 C ad S _ _ _ ⟨S1, hr _ _ _ _ _, fun _ => ⟨r, S2, hF _ _ _ _ _, hE⟩, fun z => by rw [h1] at z; cases z⟩
  · refine ⟨-2, S1, by rw [rchV, if_neg h1], keepF.rf S1, fun l D E a1 a2 => ?_⟩
    refine Fn.of (cc := cX8_reach) (maxL := 4) (ret := (some .int)) (own := RX8) (by decide) rfl rfl (sameM _ _ _ _) (Nat.le_of_ble_eq_true rfl) (fun X h1' h2' h3 h4 h5 C hE => ?_)
    subst h1' h2' h3 h4 h5
    exact r_X8_reach_0 C ad S _ _ _ ⟨S1, hr _ _ _ _ _, fun z => absurd z h1, fun _ => hE⟩
set_option maxRecDepth 20000 in
theorem ggX8_look_X8_reads : GoodIn wsX8_look wsX8_reads := goodIn_r _ [5, 6, 7, 8, 4, 9, 10, 11, 12, 13, 14, 15, 16, 17, 18, 19, 20, 21, 22, 23, 24, 25, 26, 27, 28, 29, 30, 31, 32, 33, 34, 35, 36, 37, 38, 39, 40, 41, 42, 43, 44, 45, 46, 87, 88, 89, 90, 91, 92, 93, 94, 95, 96, 97, 98, 99, 100, 101, 102, 103, 104] (by decide +kernel) (by decide +kernel)
set_option maxRecDepth 20000 in
theorem gX8_look_X8_reads : GoodIn wsX8_look (wsV RX8 138 RX8 yX8_reads wsX8_reads) := goodIn_app (goodIn_of _ (by decide +kernel)) ggX8_look_X8_reads
set_option maxRecDepth 20000 in
theorem ggX8_look_X8_isTwo : GoodIn wsX8_look wsX8_isTwo := goodIn_r _ [49, 27, 28, 4, 29] (by decide +kernel) (by decide +kernel)
set_option maxRecDepth 20000 in
theorem gX8_look_X8_isTwo : GoodIn wsX8_look (va_wsS RX8 82 yX8_isTwo wsX8_isTwo) := goodIn_app (goodIn_of _ (by decide +kernel)) ggX8_look_X8_isTwo
set_option maxRecDepth 20000 in
theorem ggX8_look_X8_lookOf : GoodIn wsX8_look wsX8_lookOf := goodIn_r _ [53, 54, 55, 56, 4, 57, 11, 58, 59, 60, 61, 62, 21, 63, 64, 65, 66, 67, 68, 69, 70, 71, 72, 73, 74, 75, 76, 77, 78, 79, 80, 81, 82, 83, 84, 85, 86, 87, 88, 89, 90, 91, 92, 93, 94, 95, 96, 97, 98, 99, 100, 101, 102, 103, 104] (by decide +kernel) (by decide +kernel)
set_option maxRecDepth 20000 in
theorem gX8_look_X8_lookOf : GoodIn wsX8_look (wsV RX8 238 RX8 yX8_lookOf wsX8_lookOf) := goodIn_app (goodIn_of _ (by decide +kernel)) ggX8_look_X8_lookOf
theorem dX8_look_0 : decode cX8_look 0 = .ok (.aload_n 0, 1) := by decide +kernel
theorem dX8_look_1 : decode cX8_look 1 = .ok (.invokevirtual 138, 3) := by decide +kernel
theorem dX8_look_4 : decode cX8_look 4 = .ok (.iload_n 1, 1) := by decide +kernel
theorem dX8_look_5 : decode cX8_look 5 = .ok (.invokestatic 82, 3) := by decide +kernel
theorem dX8_look_8 : decode cX8_look 8 = .ok (.ifCond .eq 11, 3) := by decide +kernel
theorem dX8_look_11 : decode cX8_look 11 = .ok (.aload_n 0, 1) := by decide +kernel
theorem dX8_look_12 : decode cX8_look 12 = .ok (.iload_n 1, 1) := by decide +kernel
theorem dX8_look_13 : decode cX8_look 13 = .ok (.invokevirtual 238, 3) := by decide +kernel
theorem dX8_look_16 : decode cX8_look 16 = .ok (.goto 5, 3) := by decide +kernel
theorem dX8_look_19 : decode cX8_look 19 = .ok (.bipush (-2), 2) := by decide +kernel
theorem dX8_look_21 : decode cX8_look 21 = .ok (.ireturn, 1) := by decide +kernel
set_option maxRecDepth 100000 in
theorem r_X8_look_0 {X : Bn} (C : Cx X cX8_look 2 RX8 wsX8_look 6 139) (ad : Nat → Nat) (S : MS) (x1 : Int32) (h : ∃ (S1 : MS), (Fn X.l X.D X.E X.a1 X.a2 yX8_reads wsX8_reads 3 70 [.ref (ad 0)] (mW X.E ad S) none (mW X.E ad S1)) ∧ ((((f_X8_isTwo x1) = true) → (∃ (r2 : Int32) (S2 : MS), (Fn X.l X.D X.E X.a1 X.a2 yX8_lookOf wsX8_lookOf 5 116 [.ref (ad 0), .int x1] (mW X.E ad S1) (some (.int r2)) (mW X.E ad S2)) ∧ (Ends X (some .int) (some (.int r2)) (mW X.E ad S2)))) ∧ ((f_X8_isTwo x1) = false → (Ends X (some .int) (some (.int (-2))) (mW X.E ad S1))))) : At X 2 (mW X.E ad S) 0 [(0, .ref (ad 0)), (1, .int x1)] [] := by
  refine at_aload_n C dX8_look_0 rfl (j := 0) rfl ?_
  obtain ⟨S1, hF1, h⟩ := h
  refine at_cV1v C 0 hF1 gX8_look_X8_reads rfl (by decide +kernel) ⟨rfl, rfl⟩ rfl rfl rfl 0 mW_c0 rfl dX8_look_1 ?_
  refine at_iload_n C dX8_look_4 rfl (j := 1) rfl ?_
  refine at_cS0 C 1 (c_X8_isTwo X.l X.D X.E X.a1 X.a2 x1) gX8_look_X8_isTwo rfl (by decide +kernel) ⟨rfl, rfl⟩ rfl rfl rfl dX8_look_5 ?_
  refine at_ifB_eq C dX8_look_8 (tgt := 19) (by decide) (fun hc0 => ?_) (fun hc0 => ?_)
  · replace h := h.2 hc0
    refine at_bipush C dX8_look_19 (v := (-2)) rfl ?_
    exact at_iret C dX8_look_21 h
  · replace h := h.1 hc0
    refine at_aload_n C dX8_look_11 rfl (j := 0) rfl ?_
    refine at_iload_n C dX8_look_12 rfl (j := 1) rfl ?_
    obtain ⟨r2, S2, hF2, h⟩ := h
    refine at_cV1 C 1 hF2 gX8_look_X8_lookOf rfl (by decide +kernel) ⟨rfl, rfl⟩ rfl rfl rfl 0 mW_c0 rfl dX8_look_13 ?_
    refine at_goto C dX8_look_16 (tgt := 21) (by decide) ?_
    exact at_iret C dX8_look_21 h
def f_X8_look (S1 : MS) (x1 : Int32) : Int32 := if f_X8_isTwo x1 = true then f_X8_lookOf S1 x1 else -2
theorem c_X8_look (ad : Nat → Nat) (S S1 : MS) (hr : hrT ad S S1) (hp : p_X8_fitsOf S1) (x1 : Int32) :
    ∃ f, ∀ (l : Launch) (D : va_G) (E : Nat → ClassId) (a1 a2 : Nat), Fn l D E a1 a2 yX8_look wsX8_look 6 139 [.ref (ad 0), .int x1] (mW E ad S) (some (.int (f_X8_look S1 x1))) (mW E ad (setF S1 16 f)) := by
  by_cases h1 : f_X8_isTwo x1 = true
  · obtain ⟨f, hF⟩ := c_X8_lookOf ad S1 x1 hp
    refine ⟨f, fun l D E a1 a2 => ?_⟩
    refine Fn.of (cc := cX8_look) (maxL := 2) (ret := (some .int)) (own := RX8) (by decide) rfl rfl (sameM _ _ _ _) (Nat.le_of_ble_eq_true rfl) (fun X h1' h2' h3 h4 h5 C hE => ?_)
    subst h1' h2' h3 h4 h5
    rw [f_X8_look, if_pos h1] at hE
    exact r_X8_look_0 C ad S _ ⟨S1, hr _ _ _ _ _, fun _ => ⟨_, _, hF _ _ _ _ _, hE⟩, fun z => by rw [h1] at z; cases z⟩
  · refine ⟨S1.1 16, fun l D E a1 a2 => ?_⟩
    refine Fn.of (cc := cX8_look) (maxL := 2) (ret := (some .int)) (own := RX8) (by decide) rfl rfl (sameM _ _ _ _) (Nat.le_of_ble_eq_true rfl) (fun X h1' h2' h3 h4 h5 C hE => ?_)
    subst h1' h2' h3 h4 h5
    rw [f_X8_look, if_neg h1, setF_self] at hE
    exact r_X8_look_0 C ad S _ ⟨S1, hr _ _ _ _ _, fun z => absurd z h1, fun _ => hE⟩
set_option maxRecDepth 20000 in
theorem ggX8_watchers_X8_reads : GoodIn wsX8_watchers wsX8_reads := goodIn_r _ [6, 7, 8, 9, 5, 10, 11, 12, 13, 14, 15, 16, 17, 18, 19, 20, 21, 22, 23, 24, 25, 26, 27, 28, 29, 30, 31, 32, 33, 34, 35, 36, 37, 38, 39, 40, 41, 42, 43, 44, 45, 46, 47, 62, 63, 64, 65, 66, 67, 68, 69, 70, 71, 72, 73, 74, 75, 76, 77, 78, 79] (by decide +kernel) (by decide +kernel)
set_option maxRecDepth 20000 in
theorem gX8_watchers_X8_reads : GoodIn wsX8_watchers (wsV RX8 138 RX8 yX8_reads wsX8_reads) := goodIn_app (goodIn_of _ (by decide +kernel)) ggX8_watchers_X8_reads
set_option maxRecDepth 20000 in
theorem ggX8_watchers_X8_in : GoodIn wsX8_watchers wsX8_in := goodIn_r _ [30] (by decide +kernel) (by decide +kernel)
set_option maxRecDepth 20000 in
theorem gX8_watchers_X8_in : GoodIn wsX8_watchers (va_wsS RX8 53 yX8_in wsX8_in) := goodIn_app (goodIn_of _ (by decide +kernel)) ggX8_watchers_X8_in
set_option maxRecDepth 20000 in
theorem ggX8_watchers_X8_watchersOf : GoodIn wsX8_watchers wsX8_watchersOf := goodIn_r _ [51, 52, 43, 53, 54, 55, 5, 56, 57, 58, 59, 60, 61, 28, 29, 30, 62, 63, 64, 65, 66, 67, 68, 69, 70, 71, 72, 73, 74, 75, 76, 77, 78, 79] (by decide +kernel) (by decide +kernel)
set_option maxRecDepth 20000 in
theorem gX8_watchers_X8_watchersOf : GoodIn wsX8_watchers (wsV RX8 256 RX8 yX8_watchersOf wsX8_watchersOf) := goodIn_app (goodIn_of _ (by decide +kernel)) ggX8_watchers_X8_watchersOf
theorem dX8_watchers_0 : decode cX8_watchers 0 = .ok (.aload_n 0, 1) := by decide +kernel
theorem dX8_watchers_1 : decode cX8_watchers 1 = .ok (.invokevirtual 138, 3) := by decide +kernel
theorem dX8_watchers_4 : decode cX8_watchers 4 = .ok (.iload_n 1, 1) := by decide +kernel
theorem dX8_watchers_5 : decode cX8_watchers 5 = .ok (.i2l, 1) := by decide +kernel
theorem dX8_watchers_6 : decode cX8_watchers 6 = .ok (.lconst 0, 1) := by decide +kernel
theorem dX8_watchers_7 : decode cX8_watchers 7 = .ok (.ldc2_w 67, 3) := by decide +kernel
theorem dX8_watchers_10 : decode cX8_watchers 10 = .ok (.invokestatic 53, 3) := by decide +kernel
theorem dX8_watchers_13 : decode cX8_watchers 13 = .ok (.ifCond .eq 11, 3) := by decide +kernel
theorem dX8_watchers_16 : decode cX8_watchers 16 = .ok (.aload_n 0, 1) := by decide +kernel
theorem dX8_watchers_17 : decode cX8_watchers 17 = .ok (.iload_n 1, 1) := by decide +kernel
theorem dX8_watchers_18 : decode cX8_watchers 18 = .ok (.invokevirtual 256, 3) := by decide +kernel
theorem dX8_watchers_21 : decode cX8_watchers 21 = .ok (.goto 5, 3) := by decide +kernel
theorem dX8_watchers_24 : decode cX8_watchers 24 = .ok (.bipush (-2), 2) := by decide +kernel
theorem dX8_watchers_26 : decode cX8_watchers 26 = .ok (.ireturn, 1) := by decide +kernel
theorem lk_X8_watchers_0 : Cond.constantLong RX8 67 2 ∈ wsX8_watchers := by decide +kernel
set_option maxRecDepth 100000 in
theorem r_X8_watchers_0 {X : Bn} (C : Cx X cX8_watchers 2 RX8 wsX8_watchers 4 100) (ad : Nat → Nat) (S : MS) (x1 : Int32) (h : ∃ (S1 : MS), (Fn X.l X.D X.E X.a1 X.a2 yX8_reads wsX8_reads 3 70 [.ref (ad 0)] (mW X.E ad S) none (mW X.E ad S1)) ∧ ((((f_X8_in x1.toInt64 (0 : Int64) (2 : Int64)) = true) → (∃ (r2 : Int32) (S2 : MS), (Fn X.l X.D X.E X.a1 X.a2 yX8_watchersOf wsX8_watchersOf 3 75 [.ref (ad 0), .int x1] (mW X.E ad S1) (some (.int r2)) (mW X.E ad S2)) ∧ (Ends X (some .int) (some (.int r2)) (mW X.E ad S2)))) ∧ ((f_X8_in x1.toInt64 (0 : Int64) (2 : Int64)) = false → (Ends X (some .int) (some (.int (-2))) (mW X.E ad S1))))) : At X 2 (mW X.E ad S) 0 [(0, .ref (ad 0)), (1, .int x1)] [] := by
  refine at_aload_n C dX8_watchers_0 rfl (j := 0) rfl ?_
  obtain ⟨S1, hF1, h⟩ := h
  refine at_cV1v C 0 hF1 gX8_watchers_X8_reads rfl (by decide +kernel) ⟨rfl, rfl⟩ rfl rfl rfl 0 mW_c0 rfl dX8_watchers_1 ?_
  refine at_iload_n C dX8_watchers_4 rfl (j := 1) rfl ?_
  refine at_i2l C dX8_watchers_5 ?_
  refine at_lconst C dX8_watchers_6 (v := 0) rfl ?_
  refine at_ldc2 C lk_X8_watchers_0 dX8_watchers_7 ?_
  refine at_cS0 C 3 (c_X8_in X.l X.D X.E X.a1 X.a2 x1.toInt64 (0 : Int64) (2 : Int64)) gX8_watchers_X8_in rfl (by decide +kernel) ⟨rfl, rfl⟩ rfl rfl rfl dX8_watchers_10 ?_
  refine at_ifB_eq C dX8_watchers_13 (tgt := 24) (by decide) (fun hc0 => ?_) (fun hc0 => ?_)
  · replace h := h.2 hc0
    refine at_bipush C dX8_watchers_24 (v := (-2)) rfl ?_
    exact at_iret C dX8_watchers_26 h
  · replace h := h.1 hc0
    refine at_aload_n C dX8_watchers_16 rfl (j := 0) rfl ?_
    refine at_iload_n C dX8_watchers_17 rfl (j := 1) rfl ?_
    obtain ⟨r2, S2, hF2, h⟩ := h
    refine at_cV1 C 1 hF2 gX8_watchers_X8_watchersOf rfl (by decide +kernel) ⟨rfl, rfl⟩ rfl rfl rfl 0 mW_c0 rfl dX8_watchers_18 ?_
    refine at_goto C dX8_watchers_21 (tgt := 26) (by decide) ?_
    exact at_iret C dX8_watchers_26 h
def f_X8_watchers (S1 : MS) (x1 : Int32) : Int32 := if f_X8_in x1.toInt64 0 2 = true then f_X8_watchersOf S1 x1 else -2
theorem c_X8_watchers (ad : Nat → Nat) (S S1 : MS) (hr : hrT ad S S1) (x1 : Int32) :
    ∃ f, ∀ (l : Launch) (D : va_G) (E : Nat → ClassId) (a1 a2 : Nat), Fn l D E a1 a2 yX8_watchers wsX8_watchers 4 100 [.ref (ad 0), .int x1] (mW E ad S) (some (.int (f_X8_watchers S1 x1))) (mW E ad (setG S1 0 f)) := by
  by_cases h1 : f_X8_in x1.toInt64 0 2 = true
  · obtain ⟨f, hF⟩ := c_X8_watchersOf ad S1 x1
    refine ⟨f, fun l D E a1 a2 => ?_⟩
    refine Fn.of (cc := cX8_watchers) (maxL := 2) (ret := (some .int)) (own := RX8) (by decide) rfl rfl (sameM _ _ _ _) (Nat.le_of_ble_eq_true rfl) (fun X h1' h2' h3 h4 h5 C hE => ?_)
    subst h1' h2' h3 h4 h5
    rw [f_X8_watchers, if_pos h1] at hE
    exact r_X8_watchers_0 C ad S _ ⟨S1, hr _ _ _ _ _, fun _ => ⟨_, _, hF _ _ _ _ _, hE⟩, fun z => by rw [h1] at z; cases z⟩
  · refine ⟨S1.2 0, fun l D E a1 a2 => ?_⟩
    refine Fn.of (cc := cX8_watchers) (maxL := 2) (ret := (some .int)) (own := RX8) (by decide) rfl rfl (sameM _ _ _ _) (Nat.le_of_ble_eq_true rfl) (fun X h1' h2' h3 h4 h5 C hE => ?_)
    subst h1' h2' h3 h4 h5
    rw [f_X8_watchers, if_neg h1, setG_self] at hE
    exact r_X8_watchers_0 C ad S _ ⟨S1, hr _ _ _ _ _, fun z => absurd z h1, fun _ => hE⟩
set_option maxRecDepth 20000 in
theorem ggX8_read_X8_isSheet : GoodIn wsX8_read wsX8_isSheet := goodIn_r _ [7, 8, 9, 10, 6, 11] (by decide +kernel) (by decide +kernel)
set_option maxRecDepth 20000 in
theorem gX8_read_X8_isSheet : GoodIn wsX8_read (va_wsS RX8 63 yX8_isSheet wsX8_isSheet) := goodIn_app (goodIn_of _ (by decide +kernel)) ggX8_read_X8_isSheet
set_option maxRecDepth 20000 in
theorem ggX8_read_X8_met : GoodIn wsX8_read wsX8_met := goodIn_r _ [15, 16, 24, 25, 26, 27, 28, 29, 30, 31, 32, 33, 34, 35, 36, 37, 38, 39, 40, 41] (by decide +kernel) (by decide +kernel)
set_option maxRecDepth 20000 in
theorem gX8_read_X8_met : GoodIn wsX8_read (wsV RX8 69 RX8 yX8_met wsX8_met) := goodIn_app (goodIn_of _ (by decide +kernel)) ggX8_read_X8_met
set_option maxRecDepth 20000 in
theorem ggX8_read_X8_seen : GoodIn wsX8_read wsX8_seen := goodIn_r _ [20, 8, 21, 22, 23, 9, 10, 6, 11, 24, 25, 26, 27, 28, 29, 30, 31, 32, 33, 34, 35, 36, 37, 38, 39, 40, 41] (by decide +kernel) (by decide +kernel)
set_option maxRecDepth 20000 in
theorem gX8_read_X8_seen : GoodIn wsX8_read (wsV RX8 227 RX8 yX8_seen wsX8_seen) := goodIn_app (goodIn_of _ (by decide +kernel)) ggX8_read_X8_seen
theorem dX8_read_0 : decode cX8_read 0 = .ok (.iload_n 1, 1) := by decide +kernel
theorem dX8_read_1 : decode cX8_read 1 = .ok (.invokestatic 63, 3) := by decide +kernel
theorem dX8_read_4 : decode cX8_read 4 = .ok (.ifCond .ne 6, 3) := by decide +kernel
theorem dX8_read_7 : decode cX8_read 7 = .ok (.bipush (-2), 2) := by decide +kernel
theorem dX8_read_9 : decode cX8_read 9 = .ok (.ireturn, 1) := by decide +kernel
theorem dX8_read_10 : decode cX8_read 10 = .ok (.aload_n 0, 1) := by decide +kernel
theorem dX8_read_11 : decode cX8_read 11 = .ok (.getfield 7, 3) := by decide +kernel
theorem dX8_read_14 : decode cX8_read 14 = .ok (.iload_n 1, 1) := by decide +kernel
theorem dX8_read_15 : decode cX8_read 15 = .ok (.iaload, 1) := by decide +kernel
theorem dX8_read_16 : decode cX8_read 16 = .ok (.ifCond .ge 9, 3) := by decide +kernel
theorem dX8_read_19 : decode cX8_read 19 = .ok (.aload_n 0, 1) := by decide +kernel
theorem dX8_read_20 : decode cX8_read 20 = .ok (.iconst 1, 1) := by decide +kernel
theorem dX8_read_21 : decode cX8_read 21 = .ok (.invokevirtual 69, 3) := by decide +kernel
theorem dX8_read_24 : decode cX8_read 24 = .ok (.ireturn, 1) := by decide +kernel
theorem dX8_read_25 : decode cX8_read 25 = .ok (.iconst 0, 1) := by decide +kernel
theorem dX8_read_26 : decode cX8_read 26 = .ok (.istore_n 2, 1) := by decide +kernel
theorem dX8_read_27 : decode cX8_read 27 = .ok (.iconst 1, 1) := by decide +kernel
theorem dX8_read_28 : decode cX8_read 28 = .ok (.istore_n 3, 1) := by decide +kernel
theorem dX8_read_29 : decode cX8_read 29 = .ok (.iload_n 3, 1) := by decide +kernel
theorem dX8_read_30 : decode cX8_read 30 = .ok (.ifCond .eq 73, 3) := by decide +kernel
theorem dX8_read_33 : decode cX8_read 33 = .ok (.iconst 2, 1) := by decide +kernel
theorem dX8_read_34 : decode cX8_read 34 = .ok (.iload_n 2, 1) := by decide +kernel
theorem dX8_read_35 : decode cX8_read 35 = .ok (.imul, 1) := by decide +kernel
theorem dX8_read_36 : decode cX8_read 36 = .ok (.iconst 2, 1) := by decide +kernel
theorem dX8_read_37 : decode cX8_read 37 = .ok (.iadd, 1) := by decide +kernel
theorem dX8_read_38 : decode cX8_read 38 = .ok (.aload_n 0, 1) := by decide +kernel
theorem dX8_read_39 : decode cX8_read 39 = .ok (.getfield 13, 3) := by decide +kernel
theorem dX8_read_42 : decode cX8_read 42 = .ok (.iload_n 1, 1) := by decide +kernel
theorem dX8_read_43 : decode cX8_read 43 = .ok (.iaload, 1) := by decide +kernel
theorem dX8_read_44 : decode cX8_read 44 = .ok (.if_icmp .gt 59, 3) := by decide +kernel
theorem dX8_read_47 : decode cX8_read 47 = .ok (.aload_n 0, 1) := by decide +kernel
theorem dX8_read_48 : decode cX8_read 48 = .ok (.aload_n 0, 1) := by decide +kernel
theorem dX8_read_49 : decode cX8_read 49 = .ok (.getfield 16, 3) := by decide +kernel
theorem dX8_read_52 : decode cX8_read 52 = .ok (.bipush 64, 2) := by decide +kernel
theorem dX8_read_54 : decode cX8_read 54 = .ok (.iload_n 1, 1) := by decide +kernel
theorem dX8_read_55 : decode cX8_read 55 = .ok (.imul, 1) := by decide +kernel
theorem dX8_read_56 : decode cX8_read 56 = .ok (.iconst 2, 1) := by decide +kernel
theorem dX8_read_57 : decode cX8_read 57 = .ok (.iload_n 2, 1) := by decide +kernel
theorem dX8_read_58 : decode cX8_read 58 = .ok (.imul, 1) := by decide +kernel
theorem dX8_read_59 : decode cX8_read 59 = .ok (.iadd, 1) := by decide +kernel
theorem dX8_read_60 : decode cX8_read 60 = .ok (.iaload, 1) := by decide +kernel
theorem dX8_read_61 : decode cX8_read 61 = .ok (.aload_n 0, 1) := by decide +kernel
theorem dX8_read_62 : decode cX8_read 62 = .ok (.getfield 16, 3) := by decide +kernel
theorem dX8_read_65 : decode cX8_read 65 = .ok (.bipush 64, 2) := by decide +kernel
theorem dX8_read_67 : decode cX8_read 67 = .ok (.iload_n 1, 1) := by decide +kernel
theorem dX8_read_68 : decode cX8_read 68 = .ok (.imul, 1) := by decide +kernel
theorem dX8_read_69 : decode cX8_read 69 = .ok (.iconst 2, 1) := by decide +kernel
theorem dX8_read_70 : decode cX8_read 70 = .ok (.iload_n 2, 1) := by decide +kernel
theorem dX8_read_71 : decode cX8_read 71 = .ok (.imul, 1) := by decide +kernel
theorem dX8_read_72 : decode cX8_read 72 = .ok (.iadd, 1) := by decide +kernel
theorem dX8_read_73 : decode cX8_read 73 = .ok (.iconst 1, 1) := by decide +kernel
theorem dX8_read_74 : decode cX8_read 74 = .ok (.iadd, 1) := by decide +kernel
theorem dX8_read_75 : decode cX8_read 75 = .ok (.iaload, 1) := by decide +kernel
theorem dX8_read_76 : decode cX8_read 76 = .ok (.invokevirtual 227, 3) := by decide +kernel
theorem dX8_read_79 : decode cX8_read 79 = .ok (.ifCond .lt 7, 3) := by decide +kernel
theorem dX8_read_82 : decode cX8_read 82 = .ok (.iconst 1, 1) := by decide +kernel
theorem dX8_read_83 : decode cX8_read 83 = .ok (.goto 4, 3) := by decide +kernel
theorem dX8_read_86 : decode cX8_read 86 = .ok (.iconst 0, 1) := by decide +kernel
theorem dX8_read_87 : decode cX8_read 87 = .ok (.istore_n 3, 1) := by decide +kernel
theorem dX8_read_88 : decode cX8_read 88 = .ok (.iload_n 2, 1) := by decide +kernel
theorem dX8_read_89 : decode cX8_read 89 = .ok (.iload_n 3, 1) := by decide +kernel
theorem dX8_read_90 : decode cX8_read 90 = .ok (.ifCond .eq 7, 3) := by decide +kernel
theorem dX8_read_93 : decode cX8_read 93 = .ok (.iconst 1, 1) := by decide +kernel
theorem dX8_read_94 : decode cX8_read 94 = .ok (.goto 4, 3) := by decide +kernel
theorem dX8_read_97 : decode cX8_read 97 = .ok (.iconst 0, 1) := by decide +kernel
theorem dX8_read_98 : decode cX8_read 98 = .ok (.iadd, 1) := by decide +kernel
theorem dX8_read_99 : decode cX8_read 99 = .ok (.istore_n 2, 1) := by decide +kernel
theorem dX8_read_100 : decode cX8_read 100 = .ok (.goto (-71), 3) := by decide +kernel
theorem dX8_read_103 : decode cX8_read 103 = .ok (.iload_n 2, 1) := by decide +kernel
theorem dX8_read_104 : decode cX8_read 104 = .ok (.ireturn, 1) := by decide +kernel
theorem iw_X8_read_X8 : ∀ w ∈ u_ws RX8 TX8 18, w ∈ wsX8_read := by decide +kernel
theorem lk_X8_read_0 : Cond.fieldLink RX8 7 (TX8 0).1 (TX8 0).2.1 (TX8 0).2.2.1 ∈ wsX8_read := by decide +kernel
theorem lk_X8_read_1 : Cond.fieldLink RX8 13 (TX8 1).1 (TX8 1).2.1 (TX8 1).2.2.1 ∈ wsX8_read := by decide +kernel
theorem lk_X8_read_2 : Cond.fieldLink RX8 16 (TX8 2).1 (TX8 2).2.1 (TX8 2).2.2.1 ∈ wsX8_read := by decide +kernel
set_option maxRecDepth 100000 in
theorem r_X8_read_0 {X : Bn} (C : Cx X cX8_read 4 RX8 wsX8_read 2 47) (ad : Nat → Nat) (S : MS) (x1 : Int32) (h : (((f_X8_isSheet x1) = true) → ((vp_in x1 4) ∧ (((0 ≤ S.1 0 x1.toNatClampNeg) → (At X 4 (mW X.E ad S) 29 [(0, .ref (ad 0)), (1, .int x1), (2, .int 0), (3, .int 1)] [])) ∧ (¬ 0 ≤ S.1 0 x1.toNatClampNeg → (Ends X (some .int) (some (.int (f_X8_met S (1 : Int32)))) (mW X.E ad (s_X8_met S (1 : Int32)))))))) ∧ ((f_X8_isSheet x1) = false → (Ends X (some .int) (some (.int (-2))) (mW X.E ad S)))) : At X 4 (mW X.E ad S) 0 [(0, .ref (ad 0)), (1, .int x1)] [] := by
  refine at_iload_n C dX8_read_0 rfl (j := 1) rfl ?_
  refine at_cS0 C 1 (c_X8_isSheet X.l X.D X.E X.a1 X.a2 x1) gX8_read_X8_isSheet rfl (by decide +kernel) ⟨rfl, rfl⟩ rfl rfl rfl dX8_read_1 ?_
  refine at_ifB_ne C dX8_read_4 (tgt := 10) (by decide) (fun hc0 => ?_) (fun hc0 => ?_)
  · replace h := h.1 hc0
    refine at_aload_n C dX8_read_10 rfl (j := 0) rfl ?_
    refine at_get C (K := RX8) (T := TX8) (N := 18) (ci := 7) (v := .ref (ad 1)) iw_X8_read_X8 0 mW_c0 rfl 0 (by decide) lk_X8_read_0 rfl dX8_read_11 ?_
    refine at_iload_n C dX8_read_14 rfl (j := 1) rfl ?_
    refine at_iald C 1 mW_c1 h.1 dX8_read_15 ?_
    replace h := h.2
    refine at_if_ge C dX8_read_16 (tgt := 25) (by decide) (fun hc1 => ?_) (fun hc1 => ?_)
    · replace h := h.1 hc1
      refine at_iconst C dX8_read_25 (v := 0) rfl ?_
      refine at_istore_n C dX8_read_26 rfl (by decide) (lv' := [(2, .int 0), (0, .ref (ad 0)), (1, .int x1)]) rfl ?_
      refine at_iconst C dX8_read_27 (v := 1) rfl ?_
      refine at_istore_n C dX8_read_28 rfl (by decide) (lv' := [(3, .int 1), (2, .int 0), (0, .ref (ad 0)), (1, .int x1)]) rfl ?_
      refine at_lv [2, 3, 1, 0] rfl ?_
      exact h
    · replace h := h.2 hc1
      refine at_aload_n C dX8_read_19 rfl (j := 0) rfl ?_
      refine at_iconst C dX8_read_20 (v := 1) rfl ?_
      refine at_cV1 C 1 (c_X8_met X.l X.D X.E X.a1 X.a2 ad S (1 : Int32)) gX8_read_X8_met rfl (by decide +kernel) ⟨rfl, rfl⟩ rfl rfl rfl 0 mW_c0 rfl dX8_read_21 ?_
      exact at_iret C dX8_read_24 h
  · replace h := h.2 hc0
    refine at_bipush C dX8_read_7 (v := (-2)) rfl ?_
    exact at_iret C dX8_read_9 h
set_option maxRecDepth 100000 in
theorem r_X8_read_29 {X : Bn} (C : Cx X cX8_read 4 RX8 wsX8_read 2 47) (ad : Nat → Nat) (S : MS) (x1 : Int32) (x2 : Int32) (x3 : Int32) (h : ((x3 = 0) → (Ends X (some .int) (some (.int x2)) (mW X.E ad S))) ∧ (¬ x3 = 0 → ((vp_in x1 4) ∧ (((S.1 1 x1.toNatClampNeg < (2 * x2) + 2) → (Ends X (some .int) (some (.int x2)) (mW X.E ad S))) ∧ (¬ S.1 1 x1.toNatClampNeg < (2 * x2) + 2 → ((vp_in ((64 * x1) + (2 * x2)) 256) ∧ ((vp_in (((64 * x1) + (2 * x2)) + 1) 256) ∧ ((p_X8_seen S (S.1 2 (((64 * x1) + (2 * x2)).toNatClampNeg)) (S.1 2 ((((64 * x1) + (2 * x2)) + 1).toNatClampNeg))) ∧ (At X 4 (mW X.E ad (s_X8_seen S (S.1 2 (((64 * x1) + (2 * x2)).toNatClampNeg)) (S.1 2 ((((64 * x1) + (2 * x2)) + 1).toNatClampNeg)))) 29 [(0, .ref (ad 0)), (1, .int x1), (2, .int (x2 + (b2i (if (if f_X8_seen S (S.1 2 (((64 * x1) + (2 * x2)).toNatClampNeg)) (S.1 2 ((((64 * x1) + (2 * x2)) + 1).toNatClampNeg)) < 0 then false else true) then true else false)))), (3, .int (b2i (if f_X8_seen S (S.1 2 (((64 * x1) + (2 * x2)).toNatClampNeg)) (S.1 2 ((((64 * x1) + (2 * x2)) + 1).toNatClampNeg)) < 0 then false else true)))] []))))))))) : At X 4 (mW X.E ad S) 29 [(0, .ref (ad 0)), (1, .int x1), (2, .int x2), (3, .int x3)] [] := by
  refine at_iload_n C dX8_read_29 rfl (j := 3) rfl ?_
  refine at_if_eq C dX8_read_30 (tgt := 103) (by decide) (fun hc2 => ?_) (fun hc2 => ?_)
  · replace h := h.1 hc2
    refine at_iload_n C dX8_read_103 rfl (j := 2) rfl ?_
    exact at_iret C dX8_read_104 h
  · replace h := h.2 hc2
    refine at_iconst C dX8_read_33 (v := 2) rfl ?_
    refine at_iload_n C dX8_read_34 rfl (j := 2) rfl ?_
    refine at_imul C dX8_read_35 ?_
    refine at_iconst C dX8_read_36 (v := 2) rfl ?_
    refine at_iadd C dX8_read_37 ?_
    refine at_aload_n C dX8_read_38 rfl (j := 0) rfl ?_
    refine at_get C (K := RX8) (T := TX8) (N := 18) (ci := 7) (v := .ref (ad 2)) iw_X8_read_X8 0 mW_c0 rfl 1 (by decide) lk_X8_read_1 rfl dX8_read_39 ?_
    refine at_iload_n C dX8_read_42 rfl (j := 1) rfl ?_
    refine at_iald C 2 mW_c2 h.1 dX8_read_43 ?_
    replace h := h.2
    refine at_icmp_gt C dX8_read_44 (tgt := 103) (by decide) (fun hc3 => ?_) (fun hc3 => ?_)
    · replace h := h.1 hc3
      refine at_iload_n C dX8_read_103 rfl (j := 2) rfl ?_
      exact at_iret C dX8_read_104 h
    · replace h := h.2 hc3
      refine at_aload_n C dX8_read_47 rfl (j := 0) rfl ?_
      refine at_aload_n C dX8_read_48 rfl (j := 0) rfl ?_
      refine at_get C (K := RX8) (T := TX8) (N := 18) (ci := 7) (v := .ref (ad 3)) iw_X8_read_X8 0 mW_c0 rfl 2 (by decide) lk_X8_read_2 rfl dX8_read_49 ?_
      refine at_bipush C dX8_read_52 (v := 64) rfl ?_
      refine at_iload_n C dX8_read_54 rfl (j := 1) rfl ?_
      refine at_imul C dX8_read_55 ?_
      refine at_iconst C dX8_read_56 (v := 2) rfl ?_
      refine at_iload_n C dX8_read_57 rfl (j := 2) rfl ?_
      refine at_imul C dX8_read_58 ?_
      refine at_iadd C dX8_read_59 ?_
      refine at_iald C 3 mW_c3 h.1 dX8_read_60 ?_
      replace h := h.2
      refine at_aload_n C dX8_read_61 rfl (j := 0) rfl ?_
      refine at_get C (K := RX8) (T := TX8) (N := 18) (ci := 7) (v := .ref (ad 3)) iw_X8_read_X8 0 mW_c0 rfl 2 (by decide) lk_X8_read_2 rfl dX8_read_62 ?_
      refine at_bipush C dX8_read_65 (v := 64) rfl ?_
      refine at_iload_n C dX8_read_67 rfl (j := 1) rfl ?_
      refine at_imul C dX8_read_68 ?_
      refine at_iconst C dX8_read_69 (v := 2) rfl ?_
      refine at_iload_n C dX8_read_70 rfl (j := 2) rfl ?_
      refine at_imul C dX8_read_71 ?_
      refine at_iadd C dX8_read_72 ?_
      refine at_iconst C dX8_read_73 (v := 1) rfl ?_
      refine at_iadd C dX8_read_74 ?_
      refine at_iald C 3 mW_c3 h.1 dX8_read_75 ?_
      replace h := h.2
      refine at_cV1 C 2 (c_X8_seen X.l X.D X.E X.a1 X.a2 ad S (S.1 2 (((64 * x1) + (2 * x2)).toNatClampNeg)) (S.1 2 ((((64 * x1) + (2 * x2)) + 1).toNatClampNeg)) h.1) gX8_read_X8_seen rfl (by decide +kernel) ⟨rfl, rfl⟩ rfl rfl rfl 0 mW_c0 rfl dX8_read_76 ?_
      replace h := h.2
      have K : At X 4 (mW X.E ad (s_X8_seen S (S.1 2 (((64 * x1) + (2 * x2)).toNatClampNeg)) (S.1 2 ((((64 * x1) + (2 * x2)) + 1).toNatClampNeg)))) 87 [(0, .ref (ad 0)), (1, .int x1), (2, .int x2)] [.int (b2i (if f_X8_seen S (S.1 2 (((64 * x1) + (2 * x2)).toNatClampNeg)) (S.1 2 ((((64 * x1) + (2 * x2)) + 1).toNatClampNeg)) < 0 then false else true))] := by
        refine at_istore_n C dX8_read_87 rfl (by decide) (lv' := [(3, .int (b2i (if f_X8_seen S (S.1 2 (((64 * x1) + (2 * x2)).toNatClampNeg)) (S.1 2 ((((64 * x1) + (2 * x2)) + 1).toNatClampNeg)) < 0 then false else true))), (0, .ref (ad 0)), (1, .int x1), (2, .int x2)]) rfl ?_
        refine at_iload_n C dX8_read_88 rfl (j := 3) rfl ?_
        refine at_iload_n C dX8_read_89 rfl (j := 0) rfl ?_
        have K : At X 4 (mW X.E ad (s_X8_seen S (S.1 2 (((64 * x1) + (2 * x2)).toNatClampNeg)) (S.1 2 ((((64 * x1) + (2 * x2)) + 1).toNatClampNeg)))) 98 [(0, .ref (ad 0)), (1, .int x1), (3, .int (b2i (if f_X8_seen S (S.1 2 (((64 * x1) + (2 * x2)).toNatClampNeg)) (S.1 2 ((((64 * x1) + (2 * x2)) + 1).toNatClampNeg)) < 0 then false else true)))] [.int (b2i (if (if f_X8_seen S (S.1 2 (((64 * x1) + (2 * x2)).toNatClampNeg)) (S.1 2 ((((64 * x1) + (2 * x2)) + 1).toNatClampNeg)) < 0 then false else true) then true else false)), .int x2] := by
          refine at_iadd C dX8_read_98 ?_
          refine at_istore_n C dX8_read_99 rfl (by decide) (lv' := [(2, .int (x2 + (b2i (if (if f_X8_seen S (S.1 2 (((64 * x1) + (2 * x2)).toNatClampNeg)) (S.1 2 ((((64 * x1) + (2 * x2)) + 1).toNatClampNeg)) < 0 then false else true) then true else false)))), (0, .ref (ad 0)), (1, .int x1), (3, .int (b2i (if f_X8_seen S (S.1 2 (((64 * x1) + (2 * x2)).toNatClampNeg)) (S.1 2 ((((64 * x1) + (2 * x2)) + 1).toNatClampNeg)) < 0 then false else true)))]) rfl ?_
          refine at_goto C dX8_read_100 (tgt := 29) (by decide) ?_
          refine at_lv [1, 2, 0, 3] rfl ?_
          exact h
        refine at_ifB_eq C dX8_read_90 (tgt := 97) (by decide) (fun hc4 => ?_) (fun hc4 => ?_)
        · skip
          refine at_iconst C dX8_read_97 (v := 0) rfl ?_
          refine at_lv [1, 2, 0] rfl ?_
          first | (simp only [if_neg (show ¬ (if f_X8_seen S (S.1 2 (((64 * x1) + (2 * x2)).toNatClampNeg)) (S.1 2 ((((64 * x1) + (2 * x2)) + 1).toNatClampNeg)) < 0 then false else true) = true by rw [hc4]; decide)] at K; exact K) | exact K
        · skip
          refine at_iconst C dX8_read_93 (v := 1) rfl ?_
          refine at_goto C dX8_read_94 (tgt := 98) (by decide) ?_
          refine at_lv [1, 2, 0] rfl ?_
          first | (simp only [if_pos hc4] at K; exact K) | exact K
      refine at_if_lt C dX8_read_79 (tgt := 86) (by decide) (fun hc4 => ?_) (fun hc4 => ?_)
      · skip
        refine at_iconst C dX8_read_86 (v := 0) rfl ?_
        refine at_lv [0, 1, 2] rfl ?_
        first | (simp only [if_pos hc4] at K; exact K) | exact K
      · skip
        refine at_iconst C dX8_read_82 (v := 1) rfl ?_
        refine at_goto C dX8_read_83 (tgt := 87) (by decide) ?_
        refine at_lv [0, 1, 2] rfl ?_
        first | (simp only [if_neg hc4] at K; exact K) | exact K
set_option maxRecDepth 20000 in
theorem ggX8_write_X8_isSheet : GoodIn wsX8_write wsX8_isSheet := goodIn_r _ [8, 9, 10, 11, 7, 12] (by decide +kernel) (by decide +kernel)
set_option maxRecDepth 20000 in
theorem gX8_write_X8_isSheet : GoodIn wsX8_write (va_wsS RX8 63 yX8_isSheet wsX8_isSheet) := goodIn_app (goodIn_of _ (by decide +kernel)) ggX8_write_X8_isSheet
set_option maxRecDepth 20000 in
theorem ggX8_write_X8_met : GoodIn wsX8_write wsX8_met := goodIn_r _ [16, 17, 75, 76, 77, 78, 79, 80, 81, 82, 83, 84, 85, 86, 87, 88, 89, 90, 91, 92] (by decide +kernel) (by decide +kernel)
set_option maxRecDepth 20000 in
theorem gX8_write_X8_met : GoodIn wsX8_write (wsV RX8 69 RX8 yX8_met wsX8_met) := goodIn_app (goodIn_of _ (by decide +kernel)) ggX8_write_X8_met
set_option maxRecDepth 20000 in
theorem ggX8_write_X8_reads : GoodIn wsX8_write wsX8_reads := goodIn_r _ [21, 22, 23, 24, 7, 25, 26, 27, 28, 29, 30, 31, 32, 33, 34, 35, 36, 37, 38, 39, 40, 41, 42, 10, 11, 12, 43, 44, 45, 46, 47, 48, 49, 50, 51, 52, 53, 54, 4, 55, 56, 57, 58, 75, 76, 77, 78, 79, 80, 81, 82, 83, 84, 85, 86, 87, 88, 89, 90, 91, 92] (by decide +kernel) (by decide +kernel)
set_option maxRecDepth 20000 in
theorem gX8_write_X8_reads : GoodIn wsX8_write (wsV RX8 138 RX8 yX8_reads wsX8_reads) := goodIn_app (goodIn_of _ (by decide +kernel)) ggX8_write_X8_reads
set_option maxRecDepth 20000 in
theorem ggX8_write_X8_viewOf : GoodIn wsX8_write wsX8_viewOf := goodIn_r _ [62, 63, 64, 65, 7, 66, 67, 68, 69, 70, 71, 4, 10, 11, 12, 75, 76, 77, 78, 79, 80, 81, 82, 83, 84, 85, 86, 87, 88, 89, 90, 91, 92] (by decide +kernel) (by decide +kernel)
set_option maxRecDepth 20000 in
theorem gX8_write_X8_viewOf : GoodIn wsX8_write (wsV RX8 250 RX8 yX8_viewOf wsX8_viewOf) := goodIn_app (goodIn_of _ (by decide +kernel)) ggX8_write_X8_viewOf
set_option maxRecDepth 20000 in
theorem ggX8_write_X8_cut : GoodIn wsX8_write wsX8_cut := goodIn_r _ [74] (by decide +kernel) (by decide +kernel)
set_option maxRecDepth 20000 in
theorem gX8_write_X8_cut : GoodIn wsX8_write (va_wsS RX8 77 yX8_cut wsX8_cut) := goodIn_app (goodIn_of _ (by decide +kernel)) ggX8_write_X8_cut
theorem dX8_write_0 : decode cX8_write 0 = .ok (.iload_n 1, 1) := by decide +kernel
theorem dX8_write_1 : decode cX8_write 1 = .ok (.invokestatic 63, 3) := by decide +kernel
theorem dX8_write_4 : decode cX8_write 4 = .ok (.ifCond .ne 6, 3) := by decide +kernel
theorem dX8_write_7 : decode cX8_write 7 = .ok (.bipush (-2), 2) := by decide +kernel
theorem dX8_write_9 : decode cX8_write 9 = .ok (.ireturn, 1) := by decide +kernel
theorem dX8_write_10 : decode cX8_write 10 = .ok (.aload_n 0, 1) := by decide +kernel
theorem dX8_write_11 : decode cX8_write 11 = .ok (.getfield 7, 3) := by decide +kernel
theorem dX8_write_14 : decode cX8_write 14 = .ok (.iload_n 1, 1) := by decide +kernel
theorem dX8_write_15 : decode cX8_write 15 = .ok (.iaload, 1) := by decide +kernel
theorem dX8_write_16 : decode cX8_write 16 = .ok (.ifCond .ge 9, 3) := by decide +kernel
theorem dX8_write_19 : decode cX8_write 19 = .ok (.aload_n 0, 1) := by decide +kernel
theorem dX8_write_20 : decode cX8_write 20 = .ok (.iconst 1, 1) := by decide +kernel
theorem dX8_write_21 : decode cX8_write 21 = .ok (.invokevirtual 69, 3) := by decide +kernel
theorem dX8_write_24 : decode cX8_write 24 = .ok (.ireturn, 1) := by decide +kernel
theorem dX8_write_25 : decode cX8_write 25 = .ok (.aload_n 0, 1) := by decide +kernel
theorem dX8_write_26 : decode cX8_write 26 = .ok (.invokevirtual 138, 3) := by decide +kernel
theorem dX8_write_29 : decode cX8_write 29 = .ok (.iconst 0, 1) := by decide +kernel
theorem dX8_write_30 : decode cX8_write 30 = .ok (.istore_n 2, 1) := by decide +kernel
theorem dX8_write_31 : decode cX8_write 31 = .ok (.iload_n 2, 1) := by decide +kernel
theorem dX8_write_32 : decode cX8_write 32 = .ok (.aload_n 0, 1) := by decide +kernel
theorem dX8_write_33 : decode cX8_write 33 = .ok (.getfield 13, 3) := by decide +kernel
theorem dX8_write_36 : decode cX8_write 36 = .ok (.iload_n 1, 1) := by decide +kernel
theorem dX8_write_37 : decode cX8_write 37 = .ok (.iaload, 1) := by decide +kernel
theorem dX8_write_38 : decode cX8_write 38 = .ok (.if_icmp .ge 47, 3) := by decide +kernel
theorem dX8_write_41 : decode cX8_write 41 = .ok (.aload_n 0, 1) := by decide +kernel
theorem dX8_write_42 : decode cX8_write 42 = .ok (.getfield 16, 3) := by decide +kernel
theorem dX8_write_45 : decode cX8_write 45 = .ok (.bipush 64, 2) := by decide +kernel
theorem dX8_write_47 : decode cX8_write 47 = .ok (.iload_n 1, 1) := by decide +kernel
theorem dX8_write_48 : decode cX8_write 48 = .ok (.imul, 1) := by decide +kernel
theorem dX8_write_49 : decode cX8_write 49 = .ok (.iload_n 2, 1) := by decide +kernel
theorem dX8_write_50 : decode cX8_write 50 = .ok (.iadd, 1) := by decide +kernel
theorem dX8_write_51 : decode cX8_write 51 = .ok (.aload_n 0, 1) := by decide +kernel
theorem dX8_write_52 : decode cX8_write 52 = .ok (.getfield 7, 3) := by decide +kernel
theorem dX8_write_55 : decode cX8_write 55 = .ok (.iload_n 1, 1) := by decide +kernel
theorem dX8_write_56 : decode cX8_write 56 = .ok (.iaload, 1) := by decide +kernel
theorem dX8_write_57 : decode cX8_write 57 = .ok (.aload_n 0, 1) := by decide +kernel
theorem dX8_write_58 : decode cX8_write 58 = .ok (.getfield 31, 3) := by decide +kernel
theorem dX8_write_61 : decode cX8_write 61 = .ok (.iload_n 2, 1) := by decide +kernel
theorem dX8_write_62 : decode cX8_write 62 = .ok (.baload, 1) := by decide +kernel
theorem dX8_write_63 : decode cX8_write 63 = .ok (.ifCond .eq 11, 3) := by decide +kernel
theorem dX8_write_66 : decode cX8_write 66 = .ok (.aload_n 0, 1) := by decide +kernel
theorem dX8_write_67 : decode cX8_write 67 = .ok (.iload_n 2, 1) := by decide +kernel
theorem dX8_write_68 : decode cX8_write 68 = .ok (.invokevirtual 250, 3) := by decide +kernel
theorem dX8_write_71 : decode cX8_write 71 = .ok (.goto 4, 3) := by decide +kernel
theorem dX8_write_74 : decode cX8_write 74 = .ok (.iconst (-1), 1) := by decide +kernel
theorem dX8_write_75 : decode cX8_write 75 = .ok (.invokestatic 77, 3) := by decide +kernel
theorem dX8_write_78 : decode cX8_write 78 = .ok (.iastore, 1) := by decide +kernel
theorem dX8_write_79 : decode cX8_write 79 = .ok (.iinc 2 1, 3) := by decide +kernel
theorem dX8_write_82 : decode cX8_write 82 = .ok (.goto (-51), 3) := by decide +kernel
theorem dX8_write_85 : decode cX8_write 85 = .ok (.aload_n 0, 1) := by decide +kernel
theorem dX8_write_86 : decode cX8_write 86 = .ok (.getfield 13, 3) := by decide +kernel
theorem dX8_write_89 : decode cX8_write 89 = .ok (.iload_n 1, 1) := by decide +kernel
theorem dX8_write_90 : decode cX8_write 90 = .ok (.iaload, 1) := by decide +kernel
theorem dX8_write_91 : decode cX8_write 91 = .ok (.ireturn, 1) := by decide +kernel
theorem iw_X8_write_X8 : ∀ w ∈ u_ws RX8 TX8 18, w ∈ wsX8_write := by decide +kernel
theorem lk_X8_write_0 : Cond.fieldLink RX8 7 (TX8 0).1 (TX8 0).2.1 (TX8 0).2.2.1 ∈ wsX8_write := by decide +kernel
theorem lk_X8_write_1 : Cond.fieldLink RX8 13 (TX8 1).1 (TX8 1).2.1 (TX8 1).2.2.1 ∈ wsX8_write := by decide +kernel
theorem lk_X8_write_2 : Cond.fieldLink RX8 16 (TX8 2).1 (TX8 2).2.1 (TX8 2).2.2.1 ∈ wsX8_write := by decide +kernel
theorem lk_X8_write_3 : Cond.fieldLink RX8 31 (TX8 10).1 (TX8 10).2.1 (TX8 10).2.2.1 ∈ wsX8_write := by decide +kernel
set_option maxRecDepth 100000 in
theorem r_X8_write_0 {X : Bn} (C : Cx X cX8_write 3 RX8 wsX8_write 4 94) (ad : Nat → Nat) (S : MS) (x1 : Int32) (h : (((f_X8_isSheet x1) = true) → ((vp_in x1 4) ∧ (((0 ≤ S.1 0 x1.toNatClampNeg) → (∃ (S1 : MS), (Fn X.l X.D X.E X.a1 X.a2 yX8_reads wsX8_reads 3 70 [.ref (ad 0)] (mW X.E ad S) none (mW X.E ad S1)) ∧ (At X 3 (mW X.E ad S1) 31 [(0, .ref (ad 0)), (1, .int x1), (2, .int 0)] []))) ∧ (¬ 0 ≤ S.1 0 x1.toNatClampNeg → (Ends X (some .int) (some (.int (f_X8_met S (1 : Int32)))) (mW X.E ad (s_X8_met S (1 : Int32)))))))) ∧ ((f_X8_isSheet x1) = false → (Ends X (some .int) (some (.int (-2))) (mW X.E ad S)))) : At X 3 (mW X.E ad S) 0 [(0, .ref (ad 0)), (1, .int x1)] [] := by
  refine at_iload_n C dX8_write_0 rfl (j := 1) rfl ?_
  refine at_cS0 C 1 (c_X8_isSheet X.l X.D X.E X.a1 X.a2 x1) gX8_write_X8_isSheet rfl (by decide +kernel) ⟨rfl, rfl⟩ rfl rfl rfl dX8_write_1 ?_
  refine at_ifB_ne C dX8_write_4 (tgt := 10) (by decide) (fun hc0 => ?_) (fun hc0 => ?_)
  · replace h := h.1 hc0
    refine at_aload_n C dX8_write_10 rfl (j := 0) rfl ?_
    refine at_get C (K := RX8) (T := TX8) (N := 18) (ci := 7) (v := .ref (ad 1)) iw_X8_write_X8 0 mW_c0 rfl 0 (by decide) lk_X8_write_0 rfl dX8_write_11 ?_
    refine at_iload_n C dX8_write_14 rfl (j := 1) rfl ?_
    refine at_iald C 1 mW_c1 h.1 dX8_write_15 ?_
    replace h := h.2
    refine at_if_ge C dX8_write_16 (tgt := 25) (by decide) (fun hc1 => ?_) (fun hc1 => ?_)
    · replace h := h.1 hc1
      refine at_aload_n C dX8_write_25 rfl (j := 0) rfl ?_
      obtain ⟨S1, hF1, h⟩ := h
      refine at_cV1v C 0 hF1 gX8_write_X8_reads rfl (by decide +kernel) ⟨rfl, rfl⟩ rfl rfl rfl 0 mW_c0 rfl dX8_write_26 ?_
      refine at_iconst C dX8_write_29 (v := 0) rfl ?_
      refine at_istore_n C dX8_write_30 rfl (by decide) (lv' := [(2, .int 0), (0, .ref (ad 0)), (1, .int x1)]) rfl ?_
      refine at_lv [1, 2, 0] rfl ?_
      exact h
    · replace h := h.2 hc1
      refine at_aload_n C dX8_write_19 rfl (j := 0) rfl ?_
      refine at_iconst C dX8_write_20 (v := 1) rfl ?_
      refine at_cV1 C 1 (c_X8_met X.l X.D X.E X.a1 X.a2 ad S (1 : Int32)) gX8_write_X8_met rfl (by decide +kernel) ⟨rfl, rfl⟩ rfl rfl rfl 0 mW_c0 rfl dX8_write_21 ?_
      exact at_iret C dX8_write_24 h
  · replace h := h.2 hc0
    refine at_bipush C dX8_write_7 (v := (-2)) rfl ?_
    exact at_iret C dX8_write_9 h
set_option maxRecDepth 100000 in
theorem r_X8_write_31 {X : Bn} (C : Cx X cX8_write 3 RX8 wsX8_write 4 94) (ad : Nat → Nat) (S : MS) (x1 : Int32) (x2 : Int32) (h : (vp_in x1 4) ∧ (((S.1 1 x1.toNatClampNeg ≤ x2) → ((vp_in x1 4) ∧ (Ends X (some .int) (some (.int (S.1 1 x1.toNatClampNeg))) (mW X.E ad S)))) ∧ (¬ S.1 1 x1.toNatClampNeg ≤ x2 → ((vp_in x1 4) ∧ ((vp_in x2 64) ∧ ((((¬ S.1 10 x2.toNatClampNeg = 0) → (p_X8_viewOf S x2))) ∧ ((vp_in ((64 * x1) + x2) 256) ∧ (At X 3 (mW X.E ad (pg S 2 (((64 * x1) + x2).toNatClampNeg) (f_X8_cut (S.1 0 x1.toNatClampNeg) (if S.1 10 x2.toNatClampNeg = 0 then (-1) else f_X8_viewOf S x2)))) 31 [(0, .ref (ad 0)), (1, .int x1), (2, .int (x2 + 1))] [])))))))) : At X 3 (mW X.E ad S) 31 [(0, .ref (ad 0)), (1, .int x1), (2, .int x2)] [] := by
  refine at_iload_n C dX8_write_31 rfl (j := 2) rfl ?_
  refine at_aload_n C dX8_write_32 rfl (j := 0) rfl ?_
  refine at_get C (K := RX8) (T := TX8) (N := 18) (ci := 7) (v := .ref (ad 2)) iw_X8_write_X8 0 mW_c0 rfl 1 (by decide) lk_X8_write_1 rfl dX8_write_33 ?_
  refine at_iload_n C dX8_write_36 rfl (j := 1) rfl ?_
  refine at_iald C 2 mW_c2 h.1 dX8_write_37 ?_
  replace h := h.2
  refine at_icmp_ge C dX8_write_38 (tgt := 85) (by decide) (fun hc2 => ?_) (fun hc2 => ?_)
  · replace h := h.1 hc2
    refine at_aload_n C dX8_write_85 rfl (j := 0) rfl ?_
    refine at_get C (K := RX8) (T := TX8) (N := 18) (ci := 7) (v := .ref (ad 2)) iw_X8_write_X8 0 mW_c0 rfl 1 (by decide) lk_X8_write_1 rfl dX8_write_86 ?_
    refine at_iload_n C dX8_write_89 rfl (j := 1) rfl ?_
    refine at_iald C 2 mW_c2 h.1 dX8_write_90 ?_
    replace h := h.2
    exact at_iret C dX8_write_91 h
  · replace h := h.2 hc2
    refine at_aload_n C dX8_write_41 rfl (j := 0) rfl ?_
    refine at_get C (K := RX8) (T := TX8) (N := 18) (ci := 7) (v := .ref (ad 3)) iw_X8_write_X8 0 mW_c0 rfl 2 (by decide) lk_X8_write_2 rfl dX8_write_42 ?_
    refine at_bipush C dX8_write_45 (v := 64) rfl ?_
    refine at_iload_n C dX8_write_47 rfl (j := 1) rfl ?_
    refine at_imul C dX8_write_48 ?_
    refine at_iload_n C dX8_write_49 rfl (j := 2) rfl ?_
    refine at_iadd C dX8_write_50 ?_
    refine at_aload_n C dX8_write_51 rfl (j := 0) rfl ?_
    refine at_get C (K := RX8) (T := TX8) (N := 18) (ci := 7) (v := .ref (ad 1)) iw_X8_write_X8 0 mW_c0 rfl 0 (by decide) lk_X8_write_0 rfl dX8_write_52 ?_
    refine at_iload_n C dX8_write_55 rfl (j := 1) rfl ?_
    refine at_iald C 1 mW_c1 h.1 dX8_write_56 ?_
    replace h := h.2
    refine at_aload_n C dX8_write_57 rfl (j := 0) rfl ?_
    refine at_get C (K := RX8) (T := TX8) (N := 18) (ci := 7) (v := .ref (ad 8)) iw_X8_write_X8 0 mW_c0 rfl 10 (by decide) lk_X8_write_3 rfl dX8_write_58 ?_
    refine at_iload_n C dX8_write_61 rfl (j := 2) rfl ?_
    refine at_zald C 8 mW_c8 h.1 dX8_write_62 ?_
    replace h := h.2
    have hq := h.1
    replace h := h.2
    have K : At X 3 (mW X.E ad S) 75 [(0, .ref (ad 0)), (1, .int x1), (2, .int x2)] [.int (if S.1 10 x2.toNatClampNeg = 0 then (-1) else f_X8_viewOf S x2), .int (S.1 0 x1.toNatClampNeg), .int ((64 * x1) + x2), .ref (ad 3)] := by
      refine at_cS0 C 2 (c_X8_cut X.l X.D X.E X.a1 X.a2 (S.1 0 x1.toNatClampNeg) (if S.1 10 x2.toNatClampNeg = 0 then (-1) else f_X8_viewOf S x2)) gX8_write_X8_cut rfl (by decide +kernel) ⟨rfl, rfl⟩ rfl rfl rfl dX8_write_75 ?_
      refine at_iast C 3 mW_c3 h.1 mW_s3 dX8_write_78 ?_
      replace h := h.2
      refine at_iinc C dX8_write_79 (j := 2) (v := x2 + 1) rfl rfl (by decide) (lv' := [(2, .int (x2 + 1)), (0, .ref (ad 0)), (1, .int x1)]) rfl ?_
      refine at_goto C dX8_write_82 (tgt := 31) (by decide) ?_
      refine at_lv [1, 2, 0] rfl ?_
      exact h
    replace h := hq
    refine at_if_eq C dX8_write_63 (tgt := 74) (by decide) (fun hc3 => ?_) (fun hc3 => ?_)
    · skip
      refine at_iconst C dX8_write_74 (v := (-1)) rfl ?_
      first | (simp only [if_pos hc3] at K; exact K) | exact K
    · replace h := h hc3
      refine at_aload_n C dX8_write_66 rfl (j := 0) rfl ?_
      refine at_iload_n C dX8_write_67 rfl (j := 2) rfl ?_
      refine at_cV1 C 1 (c_X8_viewOf X.l X.D X.E X.a1 X.a2 ad S x2 h) gX8_write_X8_viewOf rfl (by decide +kernel) ⟨rfl, rfl⟩ rfl rfl rfl 0 mW_c0 rfl dX8_write_68 ?_
      refine at_goto C dX8_write_71 (tgt := 75) (by decide) ?_
      first | (simp only [if_neg hc3] at K; exact K) | exact K
def wrtV (S1 : MS) (form : Int32) (c : Nat) : Int32 := f_X8_cut form (if S1.1 10 c = 0 then (-1) else f_X8_viewOf S1 (nI c))
def wrtF (S1 : MS) (form : Int32) (s n : Nat) : Nat → Int32 := itF (fun c f => upd f (64 * s + c) (wrtV S1 form c)) 0 n (S1.1 2)
theorem view_congr {S : MS} {f : Nat → Int32} : f_X8_viewOf (setF S 2 f) = f_X8_viewOf S := by
  funext x
  have h : frS (setF S 2 f) = frS S := by funext c; unfold frS; rw [setF_o (by decide)]
  unfold f_X8_viewOf f_X8_echo
  rw [h]
theorem c_X8_write (ad : Nat → Nat) (S S1 : MS) (hr : hrT ad S S1) {s n : Nat} (hs : s < 4) (hn : n ≤ 64) (e1 : S1.1 1 s = nI n) (e0 : S1.1 0 s = S.1 0 s) (hf : 0 ≤ S.1 0 s) (l : Launch) (D : va_G) (E : Nat → ClassId) (a1 a2 : Nat) :
    Fn l D E a1 a2 yX8_write wsX8_write 4 94 [.ref (ad 0), .int (nI s)] (mW E ad S) (some (.int (nI n))) (mW E ad (setF S1 2 (wrtF S1 (S.1 0 s) s n))) := by
  refine Fn.of (cc := cX8_write) (maxL := 3) (ret := (some .int)) (own := RX8) (by decide) rfl rfl (sameM _ _ _ _) (Nat.le_of_ble_eq_true rfl) (fun X h1' h2' h3 h4 h5 C hE => ?_)
  subst h1' h2' h3 h4 h5
  have cs : (nI s).toNatClampNeg = s := nI_clamp (by omega)
  have v4 : vp_in (nI s) 4 := vp_in_nI hs (by decide)
  refine r_X8_write_0 C ad S (nI s) ⟨fun _ => ⟨v4, fun _ => ⟨S1, hr _ _ _ _ _, ?_⟩, fun z => absurd (by rw [cs]; exact hf) z⟩, fun z => ?_⟩
  · have es : mW X.E ad S1 = mW X.E ad (setF S1 2 (S1.1 2)) := by rw [setF_self]
    rw [es]
    refine for_go (P := fun c f => At X 3 (mW X.E ad (setF S1 2 f)) 31 [(0, .ref (ad 0)), (1, .int (nI s)), (2, .int (nI c))] []) (N := n) (fun c f => upd f (64 * s + c) (wrtV S1 (S.1 0 s) c)) (fun c f hc h => ?_) n 0 _ (Nat.zero_add n) ?_
    · refine r_X8_write_31 C ad _ (nI s) (nI c) ⟨v4, ?_⟩
      rw [cs, setF_o (by decide), e1, setF_o (by decide), setF_o (by decide), e0, view_congr, nI_clamp (show c < 2 ^ 31 by omega), show 64 * nI s + nI c = nI (64 * s + c) from by rw [show (64 : Int32) = nI 64 from rfl, pk_mul, nI_add], nI_clamp (show 64 * s + c < 2 ^ 31 by omega)]
      refine ⟨fun q => nlt_no (b := n) (by omega) hc q, fun _ => ⟨v4, vp_in_nI (by omega) (by decide), fun _ => ?_, vp_in_nI (by omega) (by decide), ?_⟩⟩
      · unfold p_X8_viewOf
        exact ⟨⟨c, 0, by omega, by decide, rfl, rfl⟩, ⟨c, 1, by omega, by decide, rfl, rfl⟩, ⟨c, 2, by omega, by decide, rfl, rfl⟩, ⟨c, 3, by omega, by decide, rfl, rfl⟩⟩
      · rw [setF_pg, nI_1]; exact h
    · refine r_X8_write_31 C ad _ (nI s) (nI n) ⟨v4, ?_⟩
      rw [cs, setF_o (by decide), e1]
      exact ⟨fun _ => ⟨v4, hE⟩, fun q => nle_no q⟩
  · have : f_X8_isSheet (nI s) = true := (in_nI (m := 3) (by decide)).mpr ⟨s, by omega, rfl⟩
    rw [this] at z; cases z
/-- write() that is refused -/
theorem c_X8_writeB (ad : Nat → Nat) (S : MS) (x1 : Int32) (h : f_X8_isSheet x1 = false) (l : Launch) (D : va_G) (E : Nat → ClassId) (a1 a2 : Nat) : Fn l D E a1 a2 yX8_write wsX8_write 4 94 [.ref (ad 0), .int x1] (mW E ad S) (some (.int (-2))) (mW E ad S) := by
  refine Fn.of (cc := cX8_write) (maxL := 3) (ret := (some .int)) (own := RX8) (by decide) rfl rfl (sameM _ _ _ _) (Nat.le_of_ble_eq_true rfl) (fun X h1' h2' h3 h4 h5 C hE => ?_)
  subst h1' h2' h3 h4 h5
  exact r_X8_write_0 C ad S x1 ⟨fun z => (by rw [h] at z; cases z), fun _ => hE⟩
theorem c_X8_writeN (ad : Nat → Nat) (S : MS) {s : Nat} (hs : s < 4) (hf : ¬ 0 ≤ S.1 0 s) (l : Launch) (D : va_G) (E : Nat → ClassId) (a1 a2 : Nat) : Fn l D E a1 a2 yX8_write wsX8_write 4 94 [.ref (ad 0), .int (nI s)] (mW E ad S) (some (.int (f_X8_met S 1))) (mW E ad (s_X8_met S 1)) := by
  refine Fn.of (cc := cX8_write) (maxL := 3) (ret := (some .int)) (own := RX8) (by decide) rfl rfl (sameM _ _ _ _) (Nat.le_of_ble_eq_true rfl) (fun X h1' h2' h3 h4 h5 C hE => ?_)
  subst h1' h2' h3 h4 h5
  have cs : (nI s).toNatClampNeg = s := nI_clamp (by omega)
  have : f_X8_isSheet (nI s) = true := (in_nI (m := 3) (by decide)).mpr ⟨s, by omega, rfl⟩
  exact r_X8_write_0 C ad S (nI s) ⟨fun _ => ⟨vp_in_nI hs (by decide), fun z => absurd (by rw [cs] at z; exact z) hf, fun _ => hE⟩, fun z => (by rw [this] at z; cases z)⟩
set_option maxRecDepth 20000 in
theorem ggX8_count_X8_reads : GoodIn wsX8_count wsX8_reads := goodIn_r _ [11, 12, 13, 14, 10, 15, 16, 1, 3, 17, 18, 19, 20, 21, 22, 23, 24, 5, 25, 26, 27, 28, 29, 30, 31, 32, 33, 34, 35, 36, 37, 38, 39, 40, 41, 42, 43, 44, 2, 45, 46, 47, 48, 82, 83, 84, 85, 86, 87, 88, 89, 90, 91, 92, 93, 94, 95, 96, 97, 98, 99] (by decide +kernel) (by decide +kernel)
set_option maxRecDepth 20000 in
theorem gX8_count_X8_reads : GoodIn wsX8_count (wsV RX8 138 RX8 yX8_reads wsX8_reads) := goodIn_app (goodIn_of _ (by decide +kernel)) ggX8_count_X8_reads
set_option maxRecDepth 20000 in
theorem ggX8_count_X8_ones : GoodIn wsX8_count wsX8_ones := goodIn_r _ [51] (by decide +kernel) (by decide +kernel)
set_option maxRecDepth 20000 in
theorem gX8_count_X8_ones : GoodIn wsX8_count (va_wsS RX8 169 yX8_ones wsX8_ones) := goodIn_app (goodIn_of _ (by decide +kernel)) ggX8_count_X8_ones
set_option maxRecDepth 20000 in
theorem ggX8_count_X8_isWhole : GoodIn wsX8_count wsX8_isWhole := goodIn_r _ [54, 55, 56, 10, 57, 58, 30, 31, 32, 59, 60, 61, 62, 63, 64] (by decide +kernel) (by decide +kernel)
set_option maxRecDepth 20000 in
theorem gX8_count_X8_isWhole : GoodIn wsX8_count (va_wsS RX8 163 yX8_isWhole wsX8_isWhole) := goodIn_app (goodIn_of _ (by decide +kernel)) ggX8_count_X8_isWhole
set_option maxRecDepth 20000 in
theorem ggX8_count_X8_mirrored : GoodIn wsX8_count wsX8_mirrored := goodIn_r _ [67, 59, 60, 10, 61] (by decide +kernel) (by decide +kernel)
set_option maxRecDepth 20000 in
theorem gX8_count_X8_mirrored : GoodIn wsX8_count (va_wsS RX8 149 yX8_mirrored wsX8_mirrored) := goodIn_app (goodIn_of _ (by decide +kernel)) ggX8_count_X8_mirrored
set_option maxRecDepth 20000 in
theorem ggX8_count_X8_isOne : GoodIn wsX8_count wsX8_isOne := goodIn_r _ [70, 71, 72, 10, 73, 74, 75, 76, 59, 60, 61, 77, 78, 79, 80, 81] (by decide +kernel) (by decide +kernel)
set_option maxRecDepth 20000 in
theorem gX8_count_X8_isOne : GoodIn wsX8_count (va_wsS RX8 175 yX8_isOne wsX8_isOne) := goodIn_app (goodIn_of _ (by decide +kernel)) ggX8_count_X8_isOne
theorem dX8_count_0 : decode cX8_count 0 = .ok (.iconst 0, 1) := by decide +kernel
theorem dX8_count_1 : decode cX8_count 1 = .ok (.istore_n 2, 1) := by decide +kernel
theorem dX8_count_2 : decode cX8_count 2 = .ok (.aload_n 0, 1) := by decide +kernel
theorem dX8_count_3 : decode cX8_count 3 = .ok (.invokevirtual 138, 3) := by decide +kernel
theorem dX8_count_6 : decode cX8_count 6 = .ok (.iload_n 1, 1) := by decide +kernel
theorem dX8_count_7 : decode cX8_count 7 = .ok (.tableswitch 221 0 8 #[49, 54, 87, 87, 96, 101, 131, 169, 216], 49) := by decide +kernel
theorem dX8_count_56 : decode cX8_count 56 = .ok (.aload_n 0, 1) := by decide +kernel
theorem dX8_count_57 : decode cX8_count 57 = .ok (.getfield 90, 3) := by decide +kernel
theorem dX8_count_60 : decode cX8_count 60 = .ok (.ireturn, 1) := by decide +kernel
theorem dX8_count_61 : decode cX8_count 61 = .ok (.iconst 0, 1) := by decide +kernel
theorem dX8_count_62 : decode cX8_count 62 = .ok (.istore_n 3, 1) := by decide +kernel
theorem dX8_count_63 : decode cX8_count 63 = .ok (.iload_n 3, 1) := by decide +kernel
theorem dX8_count_64 : decode cX8_count 64 = .ok (.bipush 64, 2) := by decide +kernel
theorem dX8_count_66 : decode cX8_count 66 = .ok (.if_icmp .ge 26, 3) := by decide +kernel
theorem dX8_count_69 : decode cX8_count 69 = .ok (.iload_n 2, 1) := by decide +kernel
theorem dX8_count_70 : decode cX8_count 70 = .ok (.aload_n 0, 1) := by decide +kernel
theorem dX8_count_71 : decode cX8_count 71 = .ok (.getfield 31, 3) := by decide +kernel
theorem dX8_count_74 : decode cX8_count 74 = .ok (.iload_n 3, 1) := by decide +kernel
theorem dX8_count_75 : decode cX8_count 75 = .ok (.baload, 1) := by decide +kernel
theorem dX8_count_76 : decode cX8_count 76 = .ok (.ifCond .eq 7, 3) := by decide +kernel
theorem dX8_count_79 : decode cX8_count 79 = .ok (.iconst 1, 1) := by decide +kernel
theorem dX8_count_80 : decode cX8_count 80 = .ok (.goto 4, 3) := by decide +kernel
theorem dX8_count_83 : decode cX8_count 83 = .ok (.iconst 0, 1) := by decide +kernel
theorem dX8_count_84 : decode cX8_count 84 = .ok (.iadd, 1) := by decide +kernel
theorem dX8_count_85 : decode cX8_count 85 = .ok (.istore_n 2, 1) := by decide +kernel
theorem dX8_count_86 : decode cX8_count 86 = .ok (.iinc 3 1, 3) := by decide +kernel
theorem dX8_count_89 : decode cX8_count 89 = .ok (.goto (-26), 3) := by decide +kernel
theorem dX8_count_92 : decode cX8_count 92 = .ok (.iload_n 2, 1) := by decide +kernel
theorem dX8_count_93 : decode cX8_count 93 = .ok (.ireturn, 1) := by decide +kernel
theorem dX8_count_94 : decode cX8_count 94 = .ok (.aload_n 0, 1) := by decide +kernel
theorem dX8_count_95 : decode cX8_count 95 = .ok (.getfield 25, 3) := by decide +kernel
theorem dX8_count_98 : decode cX8_count 98 = .ok (.iload_n 1, 1) := by decide +kernel
theorem dX8_count_99 : decode cX8_count 99 = .ok (.iconst 2, 1) := by decide +kernel
theorem dX8_count_100 : decode cX8_count 100 = .ok (.isub, 1) := by decide +kernel
theorem dX8_count_101 : decode cX8_count 101 = .ok (.iaload, 1) := by decide +kernel
theorem dX8_count_102 : decode cX8_count 102 = .ok (.ireturn, 1) := by decide +kernel
theorem dX8_count_103 : decode cX8_count 103 = .ok (.aload_n 0, 1) := by decide +kernel
theorem dX8_count_104 : decode cX8_count 104 = .ok (.getfield 224, 3) := by decide +kernel
theorem dX8_count_107 : decode cX8_count 107 = .ok (.ireturn, 1) := by decide +kernel
theorem dX8_count_108 : decode cX8_count 108 = .ok (.iconst 0, 1) := by decide +kernel
theorem dX8_count_109 : decode cX8_count 109 = .ok (.istore_n 3, 1) := by decide +kernel
theorem dX8_count_110 : decode cX8_count 110 = .ok (.iload_n 3, 1) := by decide +kernel
theorem dX8_count_111 : decode cX8_count 111 = .ok (.aload_n 0, 1) := by decide +kernel
theorem dX8_count_112 : decode cX8_count 112 = .ok (.getfield 90, 3) := by decide +kernel
theorem dX8_count_115 : decode cX8_count 115 = .ok (.if_icmp .ge 21, 3) := by decide +kernel
theorem dX8_count_118 : decode cX8_count 118 = .ok (.iload_n 2, 1) := by decide +kernel
theorem dX8_count_119 : decode cX8_count 119 = .ok (.aload_n 0, 1) := by decide +kernel
theorem dX8_count_120 : decode cX8_count 120 = .ok (.getfield 28, 3) := by decide +kernel
theorem dX8_count_123 : decode cX8_count 123 = .ok (.iload_n 3, 1) := by decide +kernel
theorem dX8_count_124 : decode cX8_count 124 = .ok (.iaload, 1) := by decide +kernel
theorem dX8_count_125 : decode cX8_count 125 = .ok (.invokestatic 169, 3) := by decide +kernel
theorem dX8_count_128 : decode cX8_count 128 = .ok (.iadd, 1) := by decide +kernel
theorem dX8_count_129 : decode cX8_count 129 = .ok (.istore_n 2, 1) := by decide +kernel
theorem dX8_count_130 : decode cX8_count 130 = .ok (.iinc 3 1, 3) := by decide +kernel
theorem dX8_count_133 : decode cX8_count 133 = .ok (.goto (-23), 3) := by decide +kernel
theorem dX8_count_136 : decode cX8_count 136 = .ok (.iload_n 2, 1) := by decide +kernel
theorem dX8_count_137 : decode cX8_count 137 = .ok (.ireturn, 1) := by decide +kernel
theorem dX8_count_138 : decode cX8_count 138 = .ok (.iconst 0, 1) := by decide +kernel
theorem dX8_count_139 : decode cX8_count 139 = .ok (.istore_n 3, 1) := by decide +kernel
theorem dX8_count_140 : decode cX8_count 140 = .ok (.iload_n 3, 1) := by decide +kernel
theorem dX8_count_141 : decode cX8_count 141 = .ok (.aload_n 0, 1) := by decide +kernel
theorem dX8_count_142 : decode cX8_count 142 = .ok (.getfield 90, 3) := by decide +kernel
theorem dX8_count_145 : decode cX8_count 145 = .ok (.if_icmp .ge 29, 3) := by decide +kernel
theorem dX8_count_148 : decode cX8_count 148 = .ok (.iload_n 2, 1) := by decide +kernel
theorem dX8_count_149 : decode cX8_count 149 = .ok (.aload_n 0, 1) := by decide +kernel
theorem dX8_count_150 : decode cX8_count 150 = .ok (.getfield 28, 3) := by decide +kernel
theorem dX8_count_153 : decode cX8_count 153 = .ok (.iload_n 3, 1) := by decide +kernel
theorem dX8_count_154 : decode cX8_count 154 = .ok (.iaload, 1) := by decide +kernel
theorem dX8_count_155 : decode cX8_count 155 = .ok (.invokestatic 163, 3) := by decide +kernel
theorem dX8_count_158 : decode cX8_count 158 = .ok (.ifCond .eq 7, 3) := by decide +kernel
theorem dX8_count_161 : decode cX8_count 161 = .ok (.iconst 1, 1) := by decide +kernel
theorem dX8_count_162 : decode cX8_count 162 = .ok (.goto 4, 3) := by decide +kernel
theorem dX8_count_165 : decode cX8_count 165 = .ok (.iconst 0, 1) := by decide +kernel
theorem dX8_count_166 : decode cX8_count 166 = .ok (.iadd, 1) := by decide +kernel
theorem dX8_count_167 : decode cX8_count 167 = .ok (.istore_n 2, 1) := by decide +kernel
theorem dX8_count_168 : decode cX8_count 168 = .ok (.iinc 3 1, 3) := by decide +kernel
theorem dX8_count_171 : decode cX8_count 171 = .ok (.goto (-31), 3) := by decide +kernel
theorem dX8_count_174 : decode cX8_count 174 = .ok (.iload_n 2, 1) := by decide +kernel
theorem dX8_count_175 : decode cX8_count 175 = .ok (.ireturn, 1) := by decide +kernel
theorem dX8_count_176 : decode cX8_count 176 = .ok (.iconst 0, 1) := by decide +kernel
theorem dX8_count_177 : decode cX8_count 177 = .ok (.istore_n 3, 1) := by decide +kernel
theorem dX8_count_178 : decode cX8_count 178 = .ok (.iload_n 3, 1) := by decide +kernel
theorem dX8_count_179 : decode cX8_count 179 = .ok (.aload_n 0, 1) := by decide +kernel
theorem dX8_count_180 : decode cX8_count 180 = .ok (.getfield 90, 3) := by decide +kernel
theorem dX8_count_183 : decode cX8_count 183 = .ok (.if_icmp .ge 38, 3) := by decide +kernel
theorem dX8_count_186 : decode cX8_count 186 = .ok (.iload_n 2, 1) := by decide +kernel
theorem dX8_count_187 : decode cX8_count 187 = .ok (.aload_n 0, 1) := by decide +kernel
theorem dX8_count_188 : decode cX8_count 188 = .ok (.getfield 28, 3) := by decide +kernel
theorem dX8_count_191 : decode cX8_count 191 = .ok (.iload_n 3, 1) := by decide +kernel
theorem dX8_count_192 : decode cX8_count 192 = .ok (.iaload, 1) := by decide +kernel
theorem dX8_count_193 : decode cX8_count 193 = .ok (.invokestatic 149, 3) := by decide +kernel
theorem dX8_count_196 : decode cX8_count 196 = .ok (.aload_n 0, 1) := by decide +kernel
theorem dX8_count_197 : decode cX8_count 197 = .ok (.getfield 28, 3) := by decide +kernel
theorem dX8_count_200 : decode cX8_count 200 = .ok (.iload_n 3, 1) := by decide +kernel
theorem dX8_count_201 : decode cX8_count 201 = .ok (.iaload, 1) := by decide +kernel
theorem dX8_count_202 : decode cX8_count 202 = .ok (.invokestatic 175, 3) := by decide +kernel
theorem dX8_count_205 : decode cX8_count 205 = .ok (.ifCond .eq 7, 3) := by decide +kernel
theorem dX8_count_208 : decode cX8_count 208 = .ok (.iconst 0, 1) := by decide +kernel
theorem dX8_count_209 : decode cX8_count 209 = .ok (.goto 4, 3) := by decide +kernel
theorem dX8_count_212 : decode cX8_count 212 = .ok (.iconst 1, 1) := by decide +kernel
theorem dX8_count_213 : decode cX8_count 213 = .ok (.iadd, 1) := by decide +kernel
theorem dX8_count_214 : decode cX8_count 214 = .ok (.istore_n 2, 1) := by decide +kernel
theorem dX8_count_215 : decode cX8_count 215 = .ok (.iinc 3 1, 3) := by decide +kernel
theorem dX8_count_218 : decode cX8_count 218 = .ok (.goto (-40), 3) := by decide +kernel
theorem dX8_count_221 : decode cX8_count 221 = .ok (.iload_n 2, 1) := by decide +kernel
theorem dX8_count_222 : decode cX8_count 222 = .ok (.ireturn, 1) := by decide +kernel
theorem dX8_count_223 : decode cX8_count 223 = .ok (.aload_n 0, 1) := by decide +kernel
theorem dX8_count_224 : decode cX8_count 224 = .ok (.getfield 57, 3) := by decide +kernel
theorem dX8_count_227 : decode cX8_count 227 = .ok (.ireturn, 1) := by decide +kernel
theorem dX8_count_228 : decode cX8_count 228 = .ok (.bipush (-2), 2) := by decide +kernel
theorem dX8_count_230 : decode cX8_count 230 = .ok (.ireturn, 1) := by decide +kernel
theorem iw_X8_count_X8 : ∀ w ∈ u_ws RX8 TX8 18, w ∈ wsX8_count := by decide +kernel
theorem lk_X8_count_0 : Cond.fieldLink RX8 90 (TX8 8).1 (TX8 8).2.1 (TX8 8).2.2.1 ∈ wsX8_count := by decide +kernel
theorem lk_X8_count_1 : Cond.fieldLink RX8 25 (TX8 6).1 (TX8 6).2.1 (TX8 6).2.2.1 ∈ wsX8_count := by decide +kernel
theorem lk_X8_count_2 : Cond.fieldLink RX8 224 (TX8 14).1 (TX8 14).2.1 (TX8 14).2.2.1 ∈ wsX8_count := by decide +kernel
theorem lk_X8_count_3 : Cond.fieldLink RX8 57 (TX8 4).1 (TX8 4).2.1 (TX8 4).2.2.1 ∈ wsX8_count := by decide +kernel
theorem lk_X8_count_4 : Cond.fieldLink RX8 31 (TX8 10).1 (TX8 10).2.1 (TX8 10).2.2.1 ∈ wsX8_count := by decide +kernel
theorem lk_X8_count_5 : Cond.fieldLink RX8 28 (TX8 9).1 (TX8 9).2.1 (TX8 9).2.2.1 ∈ wsX8_count := by decide +kernel
set_option maxRecDepth 100000 in
theorem r_X8_count_0 {X : Bn} (C : Cx X cX8_count 4 RX8 wsX8_count 4 90) (ad : Nat → Nat) (S : MS) (x1 : Int32) (h : ∃ (S1 : MS), (Fn X.l X.D X.E X.a1 X.a2 yX8_reads wsX8_reads 3 70 [.ref (ad 0)] (mW X.E ad S) none (mW X.E ad S1)) ∧ ((x1 = 0 → (Ends X (some .int) (some (.int (S1.1 8 0))) (mW X.E ad S1))) ∧ (x1 = 1 → (At X 4 (mW X.E ad S1) 63 [(0, .ref (ad 0)), (2, .int 0), (3, .int 0)] [])) ∧ (x1 = 2 → ((vp_in (x1 - 2) 2) ∧ (Ends X (some .int) (some (.int (S1.1 6 ((x1 - 2).toNatClampNeg)))) (mW X.E ad S1)))) ∧ (x1 = 3 → ((vp_in (x1 - 2) 2) ∧ (Ends X (some .int) (some (.int (S1.1 6 ((x1 - 2).toNatClampNeg)))) (mW X.E ad S1)))) ∧ (x1 = 4 → (Ends X (some .int) (some (.int (S1.1 14 0))) (mW X.E ad S1))) ∧ (x1 = 5 → (At X 4 (mW X.E ad S1) 110 [(0, .ref (ad 0)), (2, .int 0), (3, .int 0)] [])) ∧ (x1 = 6 → (At X 4 (mW X.E ad S1) 140 [(0, .ref (ad 0)), (2, .int 0), (3, .int 0)] [])) ∧ (x1 = 7 → (At X 4 (mW X.E ad S1) 178 [(0, .ref (ad 0)), (2, .int 0), (3, .int 0)] [])) ∧ (x1 = 8 → (Ends X (some .int) (some (.int (S1.1 4 0))) (mW X.E ad S1))) ∧ (¬ x1 = 0 → ¬ x1 = 1 → ¬ x1 = 2 → ¬ x1 = 3 → ¬ x1 = 4 → ¬ x1 = 5 → ¬ x1 = 6 → ¬ x1 = 7 → ¬ x1 = 8 → (Ends X (some .int) (some (.int (-2))) (mW X.E ad S1))))) : At X 4 (mW X.E ad S) 0 [(0, .ref (ad 0)), (1, .int x1)] [] := by
  refine at_iconst C dX8_count_0 (v := 0) rfl ?_
  refine at_istore_n C dX8_count_1 rfl (by decide) (lv' := [(2, .int 0), (0, .ref (ad 0)), (1, .int x1)]) rfl ?_
  refine at_aload_n C dX8_count_2 rfl (j := 1) rfl ?_
  obtain ⟨S1, hF1, h⟩ := h
  refine at_cV1v C 0 hF1 gX8_count_X8_reads rfl (by decide +kernel) ⟨rfl, rfl⟩ rfl rfl rfl 0 mW_c0 rfl dX8_count_3 ?_
  refine at_iload_n C dX8_count_6 rfl (j := 2) rfl ?_
  by_cases hk0 : x1 = 0
  · refine at_tabIn C dX8_count_7 (by rw [hk0]; decide) (by rw [hk0]; decide) (by rw [hk0]; rfl) (tgt := 56) (by decide) ?_
    replace h := h.1 hk0
    refine at_aload_n C dX8_count_56 rfl (j := 1) rfl ?_
    refine at_get C (K := RX8) (T := TX8) (N := 18) (ci := 7) (v := .int (S1.1 8 0)) iw_X8_count_X8 0 mW_c0 rfl 8 (by decide) lk_X8_count_0 rfl dX8_count_57 ?_
    exact at_iret C dX8_count_60 h
  replace h := h.2
  by_cases hk1 : x1 = 1
  · refine at_tabIn C dX8_count_7 (by rw [hk1]; decide) (by rw [hk1]; decide) (by rw [hk1]; rfl) (tgt := 61) (by decide) ?_
    replace h := h.1 hk1
    refine at_iconst C dX8_count_61 (v := 0) rfl ?_
    refine at_istore_n C dX8_count_62 rfl (by decide) (lv' := [(3, .int 0), (2, .int 0), (0, .ref (ad 0)), (1, .int x1)]) rfl ?_
    refine at_lv [2, 1, 0] rfl ?_
    exact h
  replace h := h.2
  by_cases hk2 : x1 = 2
  · refine at_tabIn C dX8_count_7 (by rw [hk2]; decide) (by rw [hk2]; decide) (by rw [hk2]; rfl) (tgt := 94) (by decide) ?_
    replace h := h.1 hk2
    refine at_aload_n C dX8_count_94 rfl (j := 1) rfl ?_
    refine at_get C (K := RX8) (T := TX8) (N := 18) (ci := 7) (v := .ref (ad 6)) iw_X8_count_X8 0 mW_c0 rfl 6 (by decide) lk_X8_count_1 rfl dX8_count_95 ?_
    refine at_iload_n C dX8_count_98 rfl (j := 2) rfl ?_
    refine at_iconst C dX8_count_99 (v := 2) rfl ?_
    refine at_isub C dX8_count_100 ?_
    refine at_iald C 6 mW_c6 h.1 dX8_count_101 ?_
    replace h := h.2
    exact at_iret C dX8_count_102 h
  replace h := h.2
  by_cases hk3 : x1 = 3
  · refine at_tabIn C dX8_count_7 (by rw [hk3]; decide) (by rw [hk3]; decide) (by rw [hk3]; rfl) (tgt := 94) (by decide) ?_
    replace h := h.1 hk3
    refine at_aload_n C dX8_count_94 rfl (j := 1) rfl ?_
    refine at_get C (K := RX8) (T := TX8) (N := 18) (ci := 7) (v := .ref (ad 6)) iw_X8_count_X8 0 mW_c0 rfl 6 (by decide) lk_X8_count_1 rfl dX8_count_95 ?_
    refine at_iload_n C dX8_count_98 rfl (j := 2) rfl ?_
    refine at_iconst C dX8_count_99 (v := 2) rfl ?_
    refine at_isub C dX8_count_100 ?_
    refine at_iald C 6 mW_c6 h.1 dX8_count_101 ?_
    replace h := h.2
    exact at_iret C dX8_count_102 h
  replace h := h.2
  by_cases hk4 : x1 = 4
  · refine at_tabIn C dX8_count_7 (by rw [hk4]; decide) (by rw [hk4]; decide) (by rw [hk4]; rfl) (tgt := 103) (by decide) ?_
    replace h := h.1 hk4
    refine at_aload_n C dX8_count_103 rfl (j := 1) rfl ?_
    refine at_get C (K := RX8) (T := TX8) (N := 18) (ci := 7) (v := .int (S1.1 14 0)) iw_X8_count_X8 0 mW_c0 rfl 14 (by decide) lk_X8_count_2 rfl dX8_count_104 ?_
    exact at_iret C dX8_count_107 h
  replace h := h.2
  by_cases hk5 : x1 = 5
  · refine at_tabIn C dX8_count_7 (by rw [hk5]; decide) (by rw [hk5]; decide) (by rw [hk5]; rfl) (tgt := 108) (by decide) ?_
    replace h := h.1 hk5
    refine at_iconst C dX8_count_108 (v := 0) rfl ?_
    refine at_istore_n C dX8_count_109 rfl (by decide) (lv' := [(3, .int 0), (2, .int 0), (0, .ref (ad 0)), (1, .int x1)]) rfl ?_
    refine at_lv [2, 1, 0] rfl ?_
    exact h
  replace h := h.2
  by_cases hk6 : x1 = 6
  · refine at_tabIn C dX8_count_7 (by rw [hk6]; decide) (by rw [hk6]; decide) (by rw [hk6]; rfl) (tgt := 138) (by decide) ?_
    replace h := h.1 hk6
    refine at_iconst C dX8_count_138 (v := 0) rfl ?_
    refine at_istore_n C dX8_count_139 rfl (by decide) (lv' := [(3, .int 0), (2, .int 0), (0, .ref (ad 0)), (1, .int x1)]) rfl ?_
    refine at_lv [2, 1, 0] rfl ?_
    exact h
  replace h := h.2
  by_cases hk7 : x1 = 7
  · refine at_tabIn C dX8_count_7 (by rw [hk7]; decide) (by rw [hk7]; decide) (by rw [hk7]; rfl) (tgt := 176) (by decide) ?_
    replace h := h.1 hk7
    refine at_iconst C dX8_count_176 (v := 0) rfl ?_
    refine at_istore_n C dX8_count_177 rfl (by decide) (lv' := [(3, .int 0), (2, .int 0), (0, .ref (ad 0)), (1, .int x1)]) rfl ?_
    refine at_lv [2, 1, 0] rfl ?_
    exact h
  replace h := h.2
  by_cases hk8 : x1 = 8
  · refine at_tabIn C dX8_count_7 (by rw [hk8]; decide) (by rw [hk8]; decide) (by rw [hk8]; rfl) (tgt := 223) (by decide) ?_
    replace h := h.1 hk8
    refine at_aload_n C dX8_count_223 rfl (j := 1) rfl ?_
    refine at_get C (K := RX8) (T := TX8) (N := 18) (ci := 7) (v := .int (S1.1 4 0)) iw_X8_count_X8 0 mW_c0 rfl 4 (by decide) lk_X8_count_3 rfl dX8_count_224 ?_
    exact at_iret C dX8_count_227 h
  replace h := h.2
  refine at_tabOut C dX8_count_7 (by have q0 := lv_neT hk0 (a := 0) rfl; have q1 := lv_neT hk1 (a := 1) rfl; have q2 := lv_neT hk2 (a := 2) rfl; have q3 := lv_neT hk3 (a := 3) rfl; have q4 := lv_neT hk4 (a := 4) rfl; have q5 := lv_neT hk5 (a := 5) rfl; have q6 := lv_neT hk6 (a := 6) rfl; have q7 := lv_neT hk7 (a := 7) rfl; have q8 := lv_neT hk8 (a := 8) rfl; omega) (tgt := 228) (by decide) ?_
  replace h := h hk0 hk1 hk2 hk3 hk4 hk5 hk6 hk7 hk8
  refine at_bipush C dX8_count_228 (v := (-2)) rfl ?_
  exact at_iret C dX8_count_230 h
set_option maxRecDepth 100000 in
theorem r_X8_count_63 {X : Bn} (C : Cx X cX8_count 4 RX8 wsX8_count 4 90) (ad : Nat → Nat) (S : MS) (x2 : Int32) (x3 : Int32) (h : ((64 ≤ x3) → (Ends X (some .int) (some (.int x2)) (mW X.E ad S))) ∧ (¬ 64 ≤ x3 → ((vp_in x3 64) ∧ (At X 4 (mW X.E ad S) 63 [(0, .ref (ad 0)), (2, .int (x2 + (b2i (if S.1 10 x3.toNatClampNeg = 0 then false else true)))), (3, .int (x3 + 1))] [])))) : At X 4 (mW X.E ad S) 63 [(0, .ref (ad 0)), (2, .int x2), (3, .int x3)] [] := by
  refine at_iload_n C dX8_count_63 rfl (j := 2) rfl ?_
  refine at_bipush C dX8_count_64 (v := 64) rfl ?_
  refine at_icmp_ge C dX8_count_66 (tgt := 92) (by decide) (fun hc0 => ?_) (fun hc0 => ?_)
  · replace h := h.1 hc0
    refine at_iload_n C dX8_count_92 rfl (j := 1) rfl ?_
    exact at_iret C dX8_count_93 h
  · replace h := h.2 hc0
    refine at_iload_n C dX8_count_69 rfl (j := 1) rfl ?_
    refine at_aload_n C dX8_count_70 rfl (j := 0) rfl ?_
    refine at_get C (K := RX8) (T := TX8) (N := 18) (ci := 7) (v := .ref (ad 8)) iw_X8_count_X8 0 mW_c0 rfl 10 (by decide) lk_X8_count_4 rfl dX8_count_71 ?_
    refine at_iload_n C dX8_count_74 rfl (j := 2) rfl ?_
    refine at_zald C 8 mW_c8 h.1 dX8_count_75 ?_
    replace h := h.2
    have K : At X 4 (mW X.E ad S) 84 [(0, .ref (ad 0)), (3, .int x3)] [.int (b2i (if S.1 10 x3.toNatClampNeg = 0 then false else true)), .int x2] := by
      refine at_iadd C dX8_count_84 ?_
      refine at_istore_n C dX8_count_85 rfl (by decide) (lv' := [(2, .int (x2 + (b2i (if S.1 10 x3.toNatClampNeg = 0 then false else true)))), (0, .ref (ad 0)), (3, .int x3)]) rfl ?_
      refine at_iinc C dX8_count_86 (j := 2) (v := x3 + 1) rfl rfl (by decide) (lv' := [(3, .int (x3 + 1)), (2, .int (x2 + (b2i (if S.1 10 x3.toNatClampNeg = 0 then false else true)))), (0, .ref (ad 0))]) rfl ?_
      refine at_goto C dX8_count_89 (tgt := 63) (by decide) ?_
      refine at_lv [2, 1, 0] rfl ?_
      exact h
    refine at_if_eq C dX8_count_76 (tgt := 83) (by decide) (fun hc1 => ?_) (fun hc1 => ?_)
    · skip
      refine at_iconst C dX8_count_83 (v := 0) rfl ?_
      refine at_lv [0, 2] rfl ?_
      first | (simp only [if_pos hc1] at K; exact K) | exact K
    · skip
      refine at_iconst C dX8_count_79 (v := 1) rfl ?_
      refine at_goto C dX8_count_80 (tgt := 84) (by decide) ?_
      refine at_lv [0, 2] rfl ?_
      first | (simp only [if_neg hc1] at K; exact K) | exact K
set_option maxRecDepth 100000 in
theorem r_X8_count_110 {X : Bn} (C : Cx X cX8_count 4 RX8 wsX8_count 4 90) (ad : Nat → Nat) (S : MS) (x2 : Int32) (x3 : Int32) (h : ((S.1 8 0 ≤ x3) → (Ends X (some .int) (some (.int x2)) (mW X.E ad S))) ∧ (¬ S.1 8 0 ≤ x3 → ((vp_in x3 8) ∧ (At X 4 (mW X.E ad S) 110 [(0, .ref (ad 0)), (2, .int (x2 + (f_X8_ones (S.1 9 x3.toNatClampNeg)))), (3, .int (x3 + 1))] [])))) : At X 4 (mW X.E ad S) 110 [(0, .ref (ad 0)), (2, .int x2), (3, .int x3)] [] := by
  refine at_iload_n C dX8_count_110 rfl (j := 2) rfl ?_
  refine at_aload_n C dX8_count_111 rfl (j := 0) rfl ?_
  refine at_get C (K := RX8) (T := TX8) (N := 18) (ci := 7) (v := .int (S.1 8 0)) iw_X8_count_X8 0 mW_c0 rfl 8 (by decide) lk_X8_count_0 rfl dX8_count_112 ?_
  refine at_icmp_ge C dX8_count_115 (tgt := 136) (by decide) (fun hc1 => ?_) (fun hc1 => ?_)
  · replace h := h.1 hc1
    refine at_iload_n C dX8_count_136 rfl (j := 1) rfl ?_
    exact at_iret C dX8_count_137 h
  · replace h := h.2 hc1
    refine at_iload_n C dX8_count_118 rfl (j := 1) rfl ?_
    refine at_aload_n C dX8_count_119 rfl (j := 0) rfl ?_
    refine at_get C (K := RX8) (T := TX8) (N := 18) (ci := 7) (v := .ref (ad 7)) iw_X8_count_X8 0 mW_c0 rfl 9 (by decide) lk_X8_count_5 rfl dX8_count_120 ?_
    refine at_iload_n C dX8_count_123 rfl (j := 2) rfl ?_
    refine at_iald C 7 mW_c7 h.1 dX8_count_124 ?_
    replace h := h.2
    refine at_cS0 C 1 (c_X8_ones X.l X.D X.E X.a1 X.a2 (S.1 9 x3.toNatClampNeg)) gX8_count_X8_ones rfl (by decide +kernel) ⟨rfl, rfl⟩ rfl rfl rfl dX8_count_125 ?_
    refine at_iadd C dX8_count_128 ?_
    refine at_istore_n C dX8_count_129 rfl (by decide) (lv' := [(2, .int (x2 + (f_X8_ones (S.1 9 x3.toNatClampNeg)))), (0, .ref (ad 0)), (3, .int x3)]) rfl ?_
    refine at_iinc C dX8_count_130 (j := 2) (v := x3 + 1) rfl rfl (by decide) (lv' := [(3, .int (x3 + 1)), (2, .int (x2 + (f_X8_ones (S.1 9 x3.toNatClampNeg)))), (0, .ref (ad 0))]) rfl ?_
    refine at_goto C dX8_count_133 (tgt := 110) (by decide) ?_
    refine at_lv [2, 1, 0] rfl ?_
    exact h
set_option maxRecDepth 100000 in
theorem r_X8_count_140 {X : Bn} (C : Cx X cX8_count 4 RX8 wsX8_count 4 90) (ad : Nat → Nat) (S : MS) (x2 : Int32) (x3 : Int32) (h : ((S.1 8 0 ≤ x3) → (Ends X (some .int) (some (.int x2)) (mW X.E ad S))) ∧ (¬ S.1 8 0 ≤ x3 → ((vp_in x3 8) ∧ ((p_X8_movedUp (S.1 9 x3.toNatClampNeg)) ∧ (At X 4 (mW X.E ad S) 140 [(0, .ref (ad 0)), (2, .int (x2 + (b2i (if (f_X8_isWhole (S.1 9 x3.toNatClampNeg)) then true else false)))), (3, .int (x3 + 1))] []))))) : At X 4 (mW X.E ad S) 140 [(0, .ref (ad 0)), (2, .int x2), (3, .int x3)] [] := by
  refine at_iload_n C dX8_count_140 rfl (j := 2) rfl ?_
  refine at_aload_n C dX8_count_141 rfl (j := 0) rfl ?_
  refine at_get C (K := RX8) (T := TX8) (N := 18) (ci := 7) (v := .int (S.1 8 0)) iw_X8_count_X8 0 mW_c0 rfl 8 (by decide) lk_X8_count_0 rfl dX8_count_142 ?_
  refine at_icmp_ge C dX8_count_145 (tgt := 174) (by decide) (fun hc2 => ?_) (fun hc2 => ?_)
  · replace h := h.1 hc2
    refine at_iload_n C dX8_count_174 rfl (j := 1) rfl ?_
    exact at_iret C dX8_count_175 h
  · replace h := h.2 hc2
    refine at_iload_n C dX8_count_148 rfl (j := 1) rfl ?_
    refine at_aload_n C dX8_count_149 rfl (j := 0) rfl ?_
    refine at_get C (K := RX8) (T := TX8) (N := 18) (ci := 7) (v := .ref (ad 7)) iw_X8_count_X8 0 mW_c0 rfl 9 (by decide) lk_X8_count_5 rfl dX8_count_150 ?_
    refine at_iload_n C dX8_count_153 rfl (j := 2) rfl ?_
    refine at_iald C 7 mW_c7 h.1 dX8_count_154 ?_
    replace h := h.2
    refine at_cS0 C 1 (c_X8_isWhole X.l X.D X.E X.a1 X.a2 (S.1 9 x3.toNatClampNeg) h.1) gX8_count_X8_isWhole rfl (by decide +kernel) ⟨rfl, rfl⟩ rfl rfl rfl dX8_count_155 ?_
    replace h := h.2
    have K : At X 4 (mW X.E ad S) 166 [(0, .ref (ad 0)), (3, .int x3)] [.int (b2i (if (f_X8_isWhole (S.1 9 x3.toNatClampNeg)) then true else false)), .int x2] := by
      refine at_iadd C dX8_count_166 ?_
      refine at_istore_n C dX8_count_167 rfl (by decide) (lv' := [(2, .int (x2 + (b2i (if (f_X8_isWhole (S.1 9 x3.toNatClampNeg)) then true else false)))), (0, .ref (ad 0)), (3, .int x3)]) rfl ?_
      refine at_iinc C dX8_count_168 (j := 2) (v := x3 + 1) rfl rfl (by decide) (lv' := [(3, .int (x3 + 1)), (2, .int (x2 + (b2i (if (f_X8_isWhole (S.1 9 x3.toNatClampNeg)) then true else false)))), (0, .ref (ad 0))]) rfl ?_
      refine at_goto C dX8_count_171 (tgt := 140) (by decide) ?_
      refine at_lv [2, 1, 0] rfl ?_
      exact h
    refine at_ifB_eq C dX8_count_158 (tgt := 165) (by decide) (fun hc3 => ?_) (fun hc3 => ?_)
    · skip
      refine at_iconst C dX8_count_165 (v := 0) rfl ?_
      refine at_lv [0, 2] rfl ?_
      first | (simp only [if_neg (show ¬ (f_X8_isWhole (S.1 9 x3.toNatClampNeg)) = true by rw [hc3]; decide)] at K; exact K) | exact K
    · skip
      refine at_iconst C dX8_count_161 (v := 1) rfl ?_
      refine at_goto C dX8_count_162 (tgt := 166) (by decide) ?_
      refine at_lv [0, 2] rfl ?_
      first | (simp only [if_pos hc3] at K; exact K) | exact K
set_option maxRecDepth 100000 in
theorem r_X8_count_178 {X : Bn} (C : Cx X cX8_count 4 RX8 wsX8_count 4 90) (ad : Nat → Nat) (S : MS) (x2 : Int32) (x3 : Int32) (h : ((S.1 8 0 ≤ x3) → (Ends X (some .int) (some (.int x2)) (mW X.E ad S))) ∧ (¬ S.1 8 0 ≤ x3 → ((vp_in x3 8) ∧ ((vp_in x3 8) ∧ ((p_X8_isOne (f_X8_mirrored (S.1 9 x3.toNatClampNeg)) (S.1 9 x3.toNatClampNeg)) ∧ (At X 4 (mW X.E ad S) 178 [(0, .ref (ad 0)), (2, .int (x2 + (b2i (if (f_X8_isOne (f_X8_mirrored (S.1 9 x3.toNatClampNeg)) (S.1 9 x3.toNatClampNeg)) then false else true)))), (3, .int (x3 + 1))] [])))))) : At X 4 (mW X.E ad S) 178 [(0, .ref (ad 0)), (2, .int x2), (3, .int x3)] [] := by
  refine at_iload_n C dX8_count_178 rfl (j := 2) rfl ?_
  refine at_aload_n C dX8_count_179 rfl (j := 0) rfl ?_
  refine at_get C (K := RX8) (T := TX8) (N := 18) (ci := 7) (v := .int (S.1 8 0)) iw_X8_count_X8 0 mW_c0 rfl 8 (by decide) lk_X8_count_0 rfl dX8_count_180 ?_
  refine at_icmp_ge C dX8_count_183 (tgt := 221) (by decide) (fun hc3 => ?_) (fun hc3 => ?_)
  · replace h := h.1 hc3
    refine at_iload_n C dX8_count_221 rfl (j := 1) rfl ?_
    exact at_iret C dX8_count_222 h
  · replace h := h.2 hc3
    refine at_iload_n C dX8_count_186 rfl (j := 1) rfl ?_
    refine at_aload_n C dX8_count_187 rfl (j := 0) rfl ?_
    refine at_get C (K := RX8) (T := TX8) (N := 18) (ci := 7) (v := .ref (ad 7)) iw_X8_count_X8 0 mW_c0 rfl 9 (by decide) lk_X8_count_5 rfl dX8_count_188 ?_
    refine at_iload_n C dX8_count_191 rfl (j := 2) rfl ?_
    refine at_iald C 7 mW_c7 h.1 dX8_count_192 ?_
    replace h := h.2
    refine at_cS0 C 1 (c_X8_mirrored X.l X.D X.E X.a1 X.a2 (S.1 9 x3.toNatClampNeg)) gX8_count_X8_mirrored rfl (by decide +kernel) ⟨rfl, rfl⟩ rfl rfl rfl dX8_count_193 ?_
    refine at_aload_n C dX8_count_196 rfl (j := 0) rfl ?_
    refine at_get C (K := RX8) (T := TX8) (N := 18) (ci := 7) (v := .ref (ad 7)) iw_X8_count_X8 0 mW_c0 rfl 9 (by decide) lk_X8_count_5 rfl dX8_count_197 ?_
    refine at_iload_n C dX8_count_200 rfl (j := 2) rfl ?_
    refine at_iald C 7 mW_c7 h.1 dX8_count_201 ?_
    replace h := h.2
    refine at_cS0 C 2 (c_X8_isOne X.l X.D X.E X.a1 X.a2 (f_X8_mirrored (S.1 9 x3.toNatClampNeg)) (S.1 9 x3.toNatClampNeg) h.1) gX8_count_X8_isOne rfl (by decide +kernel) ⟨rfl, rfl⟩ rfl rfl rfl dX8_count_202 ?_
    replace h := h.2
    have K : At X 4 (mW X.E ad S) 213 [(0, .ref (ad 0)), (3, .int x3)] [.int (b2i (if (f_X8_isOne (f_X8_mirrored (S.1 9 x3.toNatClampNeg)) (S.1 9 x3.toNatClampNeg)) then false else true)), .int x2] := by
      refine at_iadd C dX8_count_213 ?_
      refine at_istore_n C dX8_count_214 rfl (by decide) (lv' := [(2, .int (x2 + (b2i (if (f_X8_isOne (f_X8_mirrored (S.1 9 x3.toNatClampNeg)) (S.1 9 x3.toNatClampNeg)) then false else true)))), (0, .ref (ad 0)), (3, .int x3)]) rfl ?_
      refine at_iinc C dX8_count_215 (j := 2) (v := x3 + 1) rfl rfl (by decide) (lv' := [(3, .int (x3 + 1)), (2, .int (x2 + (b2i (if (f_X8_isOne (f_X8_mirrored (S.1 9 x3.toNatClampNeg)) (S.1 9 x3.toNatClampNeg)) then false else true)))), (0, .ref (ad 0))]) rfl ?_
      refine at_goto C dX8_count_218 (tgt := 178) (by decide) ?_
      refine at_lv [2, 1, 0] rfl ?_
      exact h
    refine at_ifB_eq C dX8_count_205 (tgt := 212) (by decide) (fun hc4 => ?_) (fun hc4 => ?_)
    · skip
      refine at_iconst C dX8_count_212 (v := 1) rfl ?_
      refine at_lv [0, 2] rfl ?_
      first | (simp only [if_neg (show ¬ (f_X8_isOne (f_X8_mirrored (S.1 9 x3.toNatClampNeg)) (S.1 9 x3.toNatClampNeg)) = true by rw [hc4]; decide)] at K; exact K) | exact K
    · skip
      refine at_iconst C dX8_count_208 (v := 0) rfl ?_
      refine at_goto C dX8_count_209 (tgt := 213) (by decide) ?_
      refine at_lv [0, 2] rfl ?_
      first | (simp only [if_pos hc4] at K; exact K) | exact K
def ctFree (S1 : MS) : Int32 := itF (fun c a => a + b2i (if S1.1 10 c = 0 then false else true)) 0 64 0
def ctCells (S1 : MS) : Int32 := itF (fun s a => a + f_X8_ones (S1.1 9 s)) 0 (S1.1 8 0).toNatClampNeg 0
def ctWhole (S1 : MS) : Int32 := itF (fun s a => a + b2i (if f_X8_isWhole (S1.1 9 s) then true else false)) 0 (S1.1 8 0).toNatClampNeg 0
def ctOdd (S1 : MS) : Int32 := itF (fun s a => a + b2i (if f_X8_isOne (f_X8_mirrored (S1.1 9 s)) (S1.1 9 s) then false else true)) 0 (S1.1 8 0).toNatClampNeg 0
def f_X8_count (S1 : MS) (x1 : Int32) : Int32 := if x1 = 0 then S1.1 8 0 else (if x1 = 1 then ctFree S1 else (if x1 = 2 then S1.1 6 0 else (if x1 = 3 then S1.1 6 1 else (if x1 = 4 then S1.1 14 0 else (if x1 = 5 then ctCells S1 else (if x1 = 6 then ctWhole S1 else (if x1 = 7 then ctOdd S1 else (if x1 = 8 then S1.1 4 0 else -2))))))))
set_option maxRecDepth 100000 in
theorem c_X8_count (ad : Nat → Nat) (S S1 : MS) (hr : hrT ad S S1) (hp : okSh S1) (x1 : Int32) (l : Launch) (D : va_G) (E : Nat → ClassId) (a1 a2 : Nat) :
    Fn l D E a1 a2 yX8_count wsX8_count 4 90 [.ref (ad 0), .int x1] (mW E ad S) (some (.int (f_X8_count S1 x1))) (mW E ad S1) := by
  obtain ⟨cnt, hc, e8, hsh⟩ := hp
  have c8 : (S1.1 8 0).toNatClampNeg = cnt := by rw [e8]; exact nI_clamp (by omega)
  refine Fn.of (cc := cX8_count) (maxL := 4) (ret := (some .int)) (own := RX8) (by decide) rfl rfl (sameM _ _ _ _) (Nat.le_of_ble_eq_true rfl) (fun X h1' h2' h3 h4 h5 C hE => ?_)
  subst h1' h2' h3 h4 h5
  have l1 : Ends X (some .int) (some (.int (ctFree S1))) (mW X.E ad S1) → At X 4 (mW X.E ad S1) 63 [(0, .ref (ad 0)), (2, .int 0), (3, .int 0)] [] := by
    intro hE
    refine for_go (P := fun c a => At X 4 (mW X.E ad S1) 63 [(0, .ref (ad 0)), (2, .int a), (3, .int (nI c))] []) (N := 64) (fun c a => a + b2i (if S1.1 10 c = 0 then false else true)) (fun c a hc h => ?_) 64 0 0 rfl ?_
    · refine r_X8_count_63 C ad S1 a (nI c) ⟨fun q => nlt_no (by decide) hc q, fun _ => ⟨vp_in_nI hc (by decide), ?_⟩⟩
      rw [nI_clamp (by omega), nI_1]; exact h
    · exact r_X8_count_63 C ad S1 _ (nI 64) ⟨fun _ => hE, fun q => nle_no q⟩
  have l5 : Ends X (some .int) (some (.int (ctCells S1))) (mW X.E ad S1) → At X 4 (mW X.E ad S1) 110 [(0, .ref (ad 0)), (2, .int 0), (3, .int 0)] [] := by
    intro hE
    rw [ctCells, c8] at hE
    refine for_go (P := fun c a => At X 4 (mW X.E ad S1) 110 [(0, .ref (ad 0)), (2, .int a), (3, .int (nI c))] []) (N := cnt) (fun s a => a + f_X8_ones (S1.1 9 s)) (fun c a hc' h => ?_) cnt 0 0 (Nat.zero_add cnt) ?_
    · refine r_X8_count_110 C ad S1 a (nI c) ⟨fun q => nlt_no (b := cnt) (by omega) hc' (by rw [← e8]; exact q), fun _ => ⟨vp_in_nI (by omega) (by decide), ?_⟩⟩
      rw [nI_clamp (by omega), nI_1]; exact h
    · exact r_X8_count_110 C ad S1 _ (nI cnt) ⟨fun _ => hE, fun q => absurd (by rw [e8]; exact Int32.le_refl _) q⟩
  have l6 : Ends X (some .int) (some (.int (ctWhole S1))) (mW X.E ad S1) → At X 4 (mW X.E ad S1) 140 [(0, .ref (ad 0)), (2, .int 0), (3, .int 0)] [] := by
    intro hE
    rw [ctWhole, c8] at hE
    refine for_go (P := fun c a => At X 4 (mW X.E ad S1) 140 [(0, .ref (ad 0)), (2, .int a), (3, .int (nI c))] []) (N := cnt) (fun s a => a + b2i (if f_X8_isWhole (S1.1 9 s) then true else false)) (fun c a hc' h => ?_) cnt 0 0 (Nat.zero_add cnt) ?_
    · refine r_X8_count_140 C ad S1 a (nI c) ⟨fun q => nlt_no (b := cnt) (by omega) hc' (by rw [← e8]; exact q), fun _ => ⟨vp_in_nI (by omega) (by decide), ?_⟩⟩
      rw [nI_clamp (by omega), nI_1]; exact ⟨hsh c hc', h⟩
    · exact r_X8_count_140 C ad S1 _ (nI cnt) ⟨fun _ => hE, fun q => absurd (by rw [e8]; exact Int32.le_refl _) q⟩
  have l7 : Ends X (some .int) (some (.int (ctOdd S1))) (mW X.E ad S1) → At X 4 (mW X.E ad S1) 178 [(0, .ref (ad 0)), (2, .int 0), (3, .int 0)] [] := by
    intro hE
    rw [ctOdd, c8] at hE
    refine for_go (P := fun c a => At X 4 (mW X.E ad S1) 178 [(0, .ref (ad 0)), (2, .int a), (3, .int (nI c))] []) (N := cnt) (fun s a => a + b2i (if f_X8_isOne (f_X8_mirrored (S1.1 9 s)) (S1.1 9 s) then false else true)) (fun c a hc' h => ?_) cnt 0 0 (Nat.zero_add cnt) ?_
    · have v8 : vp_in (nI c) 8 := vp_in_nI (by omega) (by decide)
      refine r_X8_count_178 C ad S1 a (nI c) ⟨fun q => nlt_no (b := cnt) (by omega) hc' (by rw [← e8]; exact q), fun _ => ⟨v8, v8, ?_⟩⟩
      rw [nI_clamp (by omega), nI_1]; exact ⟨⟨p_mr (hsh c hc'), hsh c hc'⟩, h⟩
    · exact r_X8_count_178 C ad S1 _ (nI cnt) ⟨fun _ => hE, fun q => absurd (by rw [e8]; exact Int32.le_refl _) q⟩
  refine r_X8_count_0 C ad S x1 ⟨S1, hr _ _ _ _ _, fun z => ?_, fun z => ?_, fun z => ?_, fun z => ?_, fun z => ?_, fun z => ?_, fun z => ?_, fun z => ?_, fun z => ?_, fun z0 z1 z2 z3 z4 z5 z6 z7 z8 => ?_⟩
  · subst z; exact hE
  · subst z; exact l1 hE
  · subst z; exact ⟨vp_in_nI (n := 0) (by decide) (by decide), hE⟩
  · subst z; exact ⟨vp_in_nI (n := 1) (by decide) (by decide), hE⟩
  · subst z; exact hE
  · subst z; exact l5 hE
  · subst z; exact l6 hE
  · subst z; exact l7 hE
  · subst z; exact hE
  · rw [f_X8_count, if_neg z0, if_neg z1, if_neg z2, if_neg z3, if_neg z4, if_neg z5, if_neg z6, if_neg z7, if_neg z8] at hE; exact hE
