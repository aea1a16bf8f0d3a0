theorem dX7_textOf_0 : decode cX7_textOf 0 = .ok (.iload_n 1, 1) := by decide +kernel
theorem dX7_textOf_1 : decode cX7_textOf 1 = .ok (.ifCond .ne 8, 3) := by decide +kernel
theorem dX7_textOf_4 : decode cX7_textOf 4 = .ok (.aload_n 0, 1) := by decide +kernel
theorem dX7_textOf_5 : decode cX7_textOf 5 = .ok (.getfield 14, 3) := by decide +kernel
theorem dX7_textOf_8 : decode cX7_textOf 8 = .ok (.areturn, 1) := by decide +kernel
theorem dX7_textOf_9 : decode cX7_textOf 9 = .ok (.iload_n 1, 1) := by decide +kernel
theorem dX7_textOf_10 : decode cX7_textOf 10 = .ok (.iconst 1, 1) := by decide +kernel
theorem dX7_textOf_11 : decode cX7_textOf 11 = .ok (.if_icmp .ne 10, 3) := by decide +kernel
theorem dX7_textOf_14 : decode cX7_textOf 14 = .ok (.aload_n 0, 1) := by decide +kernel
theorem dX7_textOf_15 : decode cX7_textOf 15 = .ok (.getfield 18, 3) := by decide +kernel
theorem dX7_textOf_18 : decode cX7_textOf 18 = .ok (.goto 4, 3) := by decide +kernel
theorem dX7_textOf_21 : decode cX7_textOf 21 = .ok (.aconst_null, 1) := by decide +kernel
theorem dX7_textOf_22 : decode cX7_textOf 22 = .ok (.areturn, 1) := by decide +kernel
theorem iw_X7_textOf_X7 : ∀ w ∈ u_ws RX7 TX7 8, w ∈ wsX7_textOf := by decide +kernel
theorem lk_X7_textOf_0 : Cond.fieldLink RX7 18 (TX7 1).1 (TX7 1).2.1 (TX7 1).2.2.1 ∈ wsX7_textOf := by decide +kernel
theorem lk_X7_textOf_1 : Cond.fieldLink RX7 14 (TX7 0).1 (TX7 0).2.1 (TX7 0).2.2.1 ∈ wsX7_textOf := by decide +kernel
set_option maxRecDepth 100000 in
theorem r_X7_textOf_0 {X : Bn} (C : Cx X cX7_textOf 2 RX7 wsX7_textOf 0 0) (ad : Nat → Nat) (S : MS) (x1 : Int32) (h : ((x1 = 0) → (Ends X (some (.object "OnlySideways$Text")) (some (.ref (ad 1))) (cW X.E ad S))) ∧ (¬ x1 = 0 → (((x1 = 1) → (Ends X (some (.object "OnlySideways$Text")) (some (.ref (ad 3))) (cW X.E ad S))) ∧ (¬ x1 = 1 → (Ends X (some (.object "OnlySideways$Text")) (some (.null)) (cW X.E ad S)))))) : At X 2 (cW X.E ad S) 0 [(0, .ref (ad 0)), (1, .int x1)] [] := by
  refine at_iload_n C dX7_textOf_0 rfl (j := 1) rfl ?_
  refine at_if_ne C dX7_textOf_1 (tgt := 9) (by decide) (fun hc0 => ?_) (fun hc0 => ?_)
  · replace h := h.2 hc0
    refine at_iload_n C dX7_textOf_9 rfl (j := 1) rfl ?_
    refine at_iconst C dX7_textOf_10 (v := 1) rfl ?_
    refine at_icmp_ne C dX7_textOf_11 (tgt := 21) (by decide) (fun hc1 => ?_) (fun hc1 => ?_)
    · replace h := h.2 hc1
      refine at_null C dX7_textOf_21 ?_
      exact at_aret C dX7_textOf_22 (Or.inl rfl) h
    · replace h := h.1 hc1
      refine at_aload_n C dX7_textOf_14 rfl (j := 0) rfl ?_
      refine at_get C (K := RX7) (T := TX7) (N := 8) (ci := 6) (v := .ref (ad 3)) iw_X7_textOf_X7 0 cW_c0 rfl 1 (by decide) lk_X7_textOf_0 rfl dX7_textOf_15 ?_
      refine at_goto C dX7_textOf_18 (tgt := 22) (by decide) ?_
      exact at_aret C dX7_textOf_22 (Or.inr ⟨_, rfl⟩) h
  · replace h := h.1 hc0
    refine at_aload_n C dX7_textOf_4 rfl (j := 0) rfl ?_
    refine at_get C (K := RX7) (T := TX7) (N := 8) (ci := 6) (v := .ref (ad 1)) iw_X7_textOf_X7 0 cW_c0 rfl 0 (by decide) lk_X7_textOf_1 rfl dX7_textOf_5 ?_
    exact at_aret C dX7_textOf_8 (Or.inr ⟨_, rfl⟩) h
set_option maxRecDepth 100000 in
theorem c_X7_textOf (l : Launch) (D : va_G) (E : Nat → ClassId) (a1 a2 : Nat) (ad : Nat → Nat) (S : MS) (x1 : Int32) : Fn l D E a1 a2 yX7_textOf wsX7_textOf 0 0 [.ref (ad 0), .int x1] (cW E ad S) (some (txV ad x1)) (cW E ad S) := by
  refine Fn.of (cc := cX7_textOf) (maxL := 2) (ret := (some (.object "OnlySideways$Text"))) (own := RX7) (by decide) rfl rfl (sameC _ _ _ _) (Nat.le_of_ble_eq_true rfl) (fun X h1 h2 h3 h4 h5 C hE => ?_)
  subst h1 h2 h3 h4 h5
  refine r_X7_textOf_0 C ad S x1 ⟨fun h => ?_, fun h => ?_⟩
  · rw [txV_0 h] at hE; exact hE
  · rw [txV, if_neg h] at hE
    refine ⟨fun q => ?_, fun q => ?_⟩
    · rw [if_pos q] at hE; exact hE
    · rw [if_neg q] at hE; exact hE
set_option maxRecDepth 20000 in
theorem ggX7_sheetOf_X7_within : GoodIn wsX7_sheetOf wsX7_within := goodIn_r _ [5] (by decide +kernel) (by decide +kernel)
set_option maxRecDepth 20000 in
theorem gX7_sheetOf_X7_within : GoodIn wsX7_sheetOf (va_wsS RX7 64 yX7_within wsX7_within) := goodIn_app (goodIn_of _ (by decide +kernel)) ggX7_sheetOf_X7_within
theorem dX7_sheetOf_0 : decode cX7_sheetOf 0 = .ok (.iload_n 1, 1) := by decide +kernel
theorem dX7_sheetOf_1 : decode cX7_sheetOf 1 = .ok (.aload_n 0, 1) := by decide +kernel
theorem dX7_sheetOf_2 : decode cX7_sheetOf 2 = .ok (.getfield 51, 3) := by decide +kernel
theorem dX7_sheetOf_5 : decode cX7_sheetOf 5 = .ok (.arraylength, 1) := by decide +kernel
theorem dX7_sheetOf_6 : decode cX7_sheetOf 6 = .ok (.invokestatic 64, 3) := by decide +kernel
theorem dX7_sheetOf_9 : decode cX7_sheetOf 9 = .ok (.ifCond .eq 12, 3) := by decide +kernel
theorem dX7_sheetOf_12 : decode cX7_sheetOf 12 = .ok (.aload_n 0, 1) := by decide +kernel
theorem dX7_sheetOf_13 : decode cX7_sheetOf 13 = .ok (.getfield 51, 3) := by decide +kernel
theorem dX7_sheetOf_16 : decode cX7_sheetOf 16 = .ok (.iload_n 1, 1) := by decide +kernel
theorem dX7_sheetOf_17 : decode cX7_sheetOf 17 = .ok (.aaload, 1) := by decide +kernel
theorem dX7_sheetOf_18 : decode cX7_sheetOf 18 = .ok (.goto 4, 3) := by decide +kernel
theorem dX7_sheetOf_21 : decode cX7_sheetOf 21 = .ok (.aconst_null, 1) := by decide +kernel
theorem dX7_sheetOf_22 : decode cX7_sheetOf 22 = .ok (.areturn, 1) := by decide +kernel
theorem iw_X7_sheetOf_X7 : ∀ w ∈ u_ws RX7 TX7 8, w ∈ wsX7_sheetOf := by decide +kernel
theorem lk_X7_sheetOf_0 : Cond.fieldLink RX7 51 (TX7 6).1 (TX7 6).2.1 (TX7 6).2.2.1 ∈ wsX7_sheetOf := by decide +kernel
set_option maxRecDepth 100000 in
theorem r_X7_sheetOf_0 {X : Bn} (C : Cx X cX7_sheetOf 2 RX7 wsX7_sheetOf 1 21) (ad : Nat → Nat) (S : MS) (x1 : Int32) (h : (((f_X7_within x1 (4 : Int32)) = true) → ((vp_in x1 4) ∧ (Ends X (some (.object "OnlySideways$Sheet")) (some ((va_rf (shF ad x1.toNatClampNeg)))) (cW X.E ad S)))) ∧ ((f_X7_within x1 (4 : Int32)) = false → (Ends X (some (.object "OnlySideways$Sheet")) (some (.null)) (cW X.E ad S)))) : At X 2 (cW X.E ad S) 0 [(0, .ref (ad 0)), (1, .int x1)] [] := by
  refine at_iload_n C dX7_sheetOf_0 rfl (j := 1) rfl ?_
  refine at_aload_n C dX7_sheetOf_1 rfl (j := 0) rfl ?_
  refine at_get C (K := RX7) (T := TX7) (N := 8) (ci := 6) (v := .ref (ad 19)) iw_X7_sheetOf_X7 0 cW_c0 rfl 6 (by decide) lk_X7_sheetOf_0 rfl dX7_sheetOf_2 ?_
  refine at_alen C 19 3 cW_c19 rfl (v := 4) rfl dX7_sheetOf_5 ?_
  refine at_cS0 C 2 (c_X7_within X.l X.D X.E X.a1 X.a2 x1 (4 : Int32)) gX7_sheetOf_X7_within rfl (by decide +kernel) ⟨rfl, rfl⟩ rfl rfl rfl dX7_sheetOf_6 ?_
  refine at_ifB_eq C dX7_sheetOf_9 (tgt := 21) (by decide) (fun hc0 => ?_) (fun hc0 => ?_)
  · replace h := h.2 hc0
    refine at_null C dX7_sheetOf_21 ?_
    exact at_aret C dX7_sheetOf_22 (Or.inl rfl) h
  · replace h := h.1 hc0
    refine at_aload_n C dX7_sheetOf_12 rfl (j := 0) rfl ?_
    refine at_get C (K := RX7) (T := TX7) (N := 8) (ci := 6) (v := .ref (ad 19)) iw_X7_sheetOf_X7 0 cW_c0 rfl 6 (by decide) lk_X7_sheetOf_0 rfl dX7_sheetOf_13 ?_
    refine at_iload_n C dX7_sheetOf_16 rfl (j := 1) rfl ?_
    refine at_aald C 19 cW_c19 h.1 dX7_sheetOf_17 ?_
    replace h := h.2
    refine at_goto C dX7_sheetOf_18 (tgt := 22) (by decide) ?_
    exact at_aret C dX7_sheetOf_22 (vrf_or _) h
theorem shF_k {ad : Nat → Nat} {k : Nat} (hk : k < 4) : va_rf (shF ad k) = .ref (ad (20 + 2 * k)) := by
  unfold shF; rw [if_pos hk]; rfl
set_option maxRecDepth 100000 in
theorem c_X7_sheetOf (l : Launch) (D : va_G) (E : Nat → ClassId) (a1 a2 : Nat) (ad : Nat → Nat) (S : MS) (x1 : Int32) : Fn l D E a1 a2 yX7_sheetOf wsX7_sheetOf 1 21 [.ref (ad 0), .int x1] (cW E ad S) (some (shV ad x1)) (cW E ad S) := by
  refine Fn.of (cc := cX7_sheetOf) (maxL := 2) (ret := (some (.object "OnlySideways$Sheet"))) (own := RX7) (by decide) rfl rfl (sameC _ _ _ _) (Nat.le_of_ble_eq_true rfl) (fun X h1 h2 h3 h4 h5 C hE => ?_)
  subst h1 h2 h3 h4 h5
  rcases sh_cases x1 with ⟨k, hk, rfl⟩ | hs
  · rw [shV_k hk rfl] at hE
    refine r_X7_sheetOf_0 C ad S _ ⟨fun _ => ⟨vp_in_nI hk (by decide), ?_⟩, fun q => absurd q (by rw [show (4 : Int32) = nI 4 from rfl, within_y (by decide) hk]; decide)⟩
    rw [nI_clamp (by omega), shF_k hk]
    exact hE
  · rw [shV_n hs] at hE
    refine r_X7_sheetOf_0 C ad S _ ⟨fun q => ?_, fun _ => hE⟩
    obtain ⟨k, hk, rfl⟩ := (within_iff (n := 4) (by decide)).mp q
    exact absurd ⟨(nle (a := 0) (by decide) (by omega)).mpr (Nat.zero_le _), (nlt (b := 4) (by omega) (by decide)).mpr hk⟩ hs
set_option maxRecDepth 20000 in
theorem ggX7_canStand_X3_rowsOf : GoodIn wsX7_canStand wsX3_rowsOf := goodIn_r _ [7, 8, 36, 37, 38, 39] (by decide +kernel) (by decide +kernel)
set_option maxRecDepth 20000 in
theorem gX7_canStand_X3_rowsOf : GoodIn wsX7_canStand (wsV RX7 85 RX3 yX3_rowsOf wsX3_rowsOf) := goodIn_app (goodIn_of _ (by decide +kernel)) ggX7_canStand_X3_rowsOf
set_option maxRecDepth 20000 in
theorem ggX7_canStand_X1_standsFor : GoodIn wsX7_canStand wsX1_standsFor := goodIn_r _ [13, 14, 15, 16, 17, 18, 19, 20, 21, 40, 41, 42, 43, 44, 45] (by decide +kernel) (by decide +kernel)
set_option maxRecDepth 20000 in
theorem gX7_canStand_X1_standsFor : GoodIn wsX7_canStand (wsV RX7 336 RX1 yX1_standsFor wsX1_standsFor) := goodIn_app (goodIn_of _ (by decide +kernel)) ggX7_canStand_X1_standsFor
set_option maxRecDepth 20000 in
theorem ggX7_canStand_X1_has : GoodIn wsX7_canStand wsX1_has := goodIn_r _ [24, 25, 26, 27] (by decide +kernel) (by decide +kernel)
set_option maxRecDepth 20000 in
theorem gX7_canStand_X1_has : GoodIn wsX7_canStand (va_wsS RX7 180 yX1_has wsX1_has) := goodIn_app (goodIn_of _ (by decide +kernel)) ggX7_canStand_X1_has
theorem dX7_canStand_0 : decode cX7_canStand 0 = .ok (.aload_n 0, 1) := by decide +kernel
theorem dX7_canStand_1 : decode cX7_canStand 1 = .ok (.getfield 31, 3) := by decide +kernel
theorem dX7_canStand_4 : decode cX7_canStand 4 = .ok (.aload_n 0, 1) := by decide +kernel
theorem dX7_canStand_5 : decode cX7_canStand 5 = .ok (.getfield 24, 3) := by decide +kernel
theorem dX7_canStand_8 : decode cX7_canStand 8 = .ok (.iload_n 1, 1) := by decide +kernel
theorem dX7_canStand_9 : decode cX7_canStand 9 = .ok (.iload_n 2, 1) := by decide +kernel
theorem dX7_canStand_10 : decode cX7_canStand 10 = .ok (.invokevirtual 85, 3) := by decide +kernel
theorem dX7_canStand_13 : decode cX7_canStand 13 = .ok (.invokevirtual 336, 3) := by decide +kernel
theorem dX7_canStand_16 : decode cX7_canStand 16 = .ok (.iload_n 3, 1) := by decide +kernel
theorem dX7_canStand_17 : decode cX7_canStand 17 = .ok (.invokestatic 180, 3) := by decide +kernel
theorem dX7_canStand_20 : decode cX7_canStand 20 = .ok (.ireturn, 1) := by decide +kernel
theorem iw_X7_canStand_X7 : ∀ w ∈ u_ws RX7 TX7 8, w ∈ wsX7_canStand := by decide +kernel
theorem lk_X7_canStand_0 : Cond.fieldLink RX7 31 (TX7 3).1 (TX7 3).2.1 (TX7 3).2.2.1 ∈ wsX7_canStand := by decide +kernel
theorem lk_X7_canStand_1 : Cond.fieldLink RX7 24 (TX7 2).1 (TX7 2).2.1 (TX7 2).2.2.1 ∈ wsX7_canStand := by decide +kernel
set_option maxRecDepth 100000 in
theorem r_X7_canStand_0 {X : Bn} (C : Cx X cX7_canStand 4 RX7 wsX7_canStand 2 48) (ad : Nat → Nat) (S : MS) (x1 : Int32) (x2 : Int32) (x3 : Int32) (h : Ends X (some .boolean) (some (.int (b2i (f_X1_has (f_X1_standsFor S (f_X3_rowsOf S x1 x2)) x3)))) (cW X.E ad S)) : At X 4 (cW X.E ad S) 0 [(0, .ref (ad 0)), (1, .int x1), (2, .int x2), (3, .int x3)] [] := by
  refine at_aload_n C dX7_canStand_0 rfl (j := 0) rfl ?_
  refine at_get C (K := RX7) (T := TX7) (N := 8) (ci := 6) (v := .ref (ad 8)) iw_X7_canStand_X7 0 cW_c0 rfl 3 (by decide) lk_X7_canStand_0 rfl dX7_canStand_1 ?_
  refine at_aload_n C dX7_canStand_4 rfl (j := 0) rfl ?_
  refine at_get C (K := RX7) (T := TX7) (N := 8) (ci := 6) (v := .ref (ad 5)) iw_X7_canStand_X7 0 cW_c0 rfl 2 (by decide) lk_X7_canStand_1 rfl dX7_canStand_5 ?_
  refine at_iload_n C dX7_canStand_8 rfl (j := 1) rfl ?_
  refine at_iload_n C dX7_canStand_9 rfl (j := 2) rfl ?_
  refine at_cV1 C 2 (e_X3_rowsOf X.l X.D X.E X.a1 X.a2 ad S x1 x2) gX7_canStand_X3_rowsOf rfl (by decide +kernel) ⟨rfl, rfl⟩ rfl rfl rfl 5 cW_c5 rfl dX7_canStand_10 ?_
  refine at_cV1 C 1 (c_X1_standsFor X.l X.D X.E X.a1 X.a2 ad S (f_X3_rowsOf S x1 x2)) gX7_canStand_X1_standsFor rfl (by decide +kernel) ⟨rfl, rfl⟩ rfl rfl rfl 8 cW_c8 rfl dX7_canStand_13 ?_
  refine at_iload_n C dX7_canStand_16 rfl (j := 3) rfl ?_
  refine at_cS0 C 2 (c_X1_has X.l X.D X.E X.a1 X.a2 (f_X1_standsFor S (f_X3_rowsOf S x1 x2)) x3) gX7_canStand_X1_has rfl (by decide +kernel) ⟨rfl, rfl⟩ rfl rfl rfl dX7_canStand_17 ?_
  exact at_zret C dX7_canStand_20 (b2i_nar _) h
def f_X7_canStand (S : MS) (x1 : Int32) (x2 : Int32) (x3 : Int32) : Bool := (f_X1_has (f_X1_standsFor S (f_X3_rowsOf S x1 x2)) x3)
set_option maxRecDepth 100000 in
theorem c_X7_canStand (l : Launch) (D : va_G) (E : Nat → ClassId) (a1 a2 : Nat) (ad : Nat → Nat) (S : MS) (x1 : Int32) (x2 : Int32) (x3 : Int32) : Fn l D E a1 a2 yX7_canStand wsX7_canStand 2 48 [.ref (ad 0), .int x1, .int x2, .int x3] (cW E ad S) (some (.int (b2i (f_X7_canStand S x1 x2 x3)))) (cW E ad S) := by
  refine Fn.of (cc := cX7_canStand) (maxL := 4) (ret := (some .boolean)) (own := RX7) (by decide) rfl rfl rfl (Nat.le_of_ble_eq_true rfl) (fun X h1 h2 h3 h4 h5 C hE => ?_)
  subst h1 h2 h3 h4 h5
  refine r_X7_canStand_0 C ad S x1 x2 x3 ?_
  simp only [f_X7_canStand, b2i_t, b2i_f] at hE
  exact hE
set_option maxRecDepth 20000 in
theorem ggX7_shape_X7_isTurnedShape : GoodIn wsX7_shape wsX7_isTurnedShape := goodIn_r _ [6, 7, 8, 9, 5, 10, 1, 11, 12, 13, 14, 21, 22, 23, 24, 25, 26, 27, 28, 29, 30, 31, 32] (by decide +kernel) (by decide +kernel)
set_option maxRecDepth 20000 in
theorem gX7_shape_X7_isTurnedShape : GoodIn wsX7_shape (wsV RX7 82 RX7 yX7_isTurnedShape wsX7_isTurnedShape) := goodIn_app (goodIn_of _ (by decide +kernel)) ggX7_shape_X7_isTurnedShape
set_option maxRecDepth 20000 in
theorem ggX7_shape_X3_rowsOf : GoodIn wsX7_shape wsX3_rowsOf := goodIn_r _ [19, 20, 29, 30, 31, 32] (by decide +kernel) (by decide +kernel)
set_option maxRecDepth 20000 in
theorem gX7_shape_X3_rowsOf : GoodIn wsX7_shape (wsV RX7 85 RX3 yX3_rowsOf wsX3_rowsOf) := goodIn_app (goodIn_of _ (by decide +kernel)) ggX7_shape_X3_rowsOf
theorem dX7_shape_0 : decode cX7_shape 0 = .ok (.aload_n 0, 1) := by decide +kernel
theorem dX7_shape_1 : decode cX7_shape 1 = .ok (.iload_n 1, 1) := by decide +kernel
theorem dX7_shape_2 : decode cX7_shape 2 = .ok (.iload_n 2, 1) := by decide +kernel
theorem dX7_shape_3 : decode cX7_shape 3 = .ok (.invokevirtual 82, 3) := by decide +kernel
theorem dX7_shape_6 : decode cX7_shape 6 = .ok (.ifCond .eq 15, 3) := by decide +kernel
theorem dX7_shape_9 : decode cX7_shape 9 = .ok (.aload_n 0, 1) := by decide +kernel
theorem dX7_shape_10 : decode cX7_shape 10 = .ok (.getfield 24, 3) := by decide +kernel
theorem dX7_shape_13 : decode cX7_shape 13 = .ok (.iload_n 1, 1) := by decide +kernel
theorem dX7_shape_14 : decode cX7_shape 14 = .ok (.iload_n 2, 1) := by decide +kernel
theorem dX7_shape_15 : decode cX7_shape 15 = .ok (.invokevirtual 85, 3) := by decide +kernel
theorem dX7_shape_18 : decode cX7_shape 18 = .ok (.goto 5, 3) := by decide +kernel
theorem dX7_shape_21 : decode cX7_shape 21 = .ok (.bipush (-2), 2) := by decide +kernel
theorem dX7_shape_23 : decode cX7_shape 23 = .ok (.ireturn, 1) := by decide +kernel
theorem iw_X7_shape_X7 : ∀ w ∈ u_ws RX7 TX7 8, w ∈ wsX7_shape := by decide +kernel
theorem lk_X7_shape_0 : Cond.fieldLink RX7 24 (TX7 2).1 (TX7 2).2.1 (TX7 2).2.2.1 ∈ wsX7_shape := by decide +kernel
set_option maxRecDepth 100000 in
theorem r_X7_shape_0 {X : Bn} (C : Cx X cX7_shape 3 RX7 wsX7_shape 3 64) (ad : Nat → Nat) (S : MS) (x1 : Int32) (x2 : Int32) (h : Ends X (some .int) (some (.int (if (f_X7_isTurnedShape S x1 x2) then f_X3_rowsOf S x1 x2 else (-2)))) (cW X.E ad S)) : At X 3 (cW X.E ad S) 0 [(0, .ref (ad 0)), (1, .int x1), (2, .int x2)] [] := by
  refine at_aload_n C dX7_shape_0 rfl (j := 0) rfl ?_
  refine at_iload_n C dX7_shape_1 rfl (j := 1) rfl ?_
  refine at_iload_n C dX7_shape_2 rfl (j := 2) rfl ?_
  refine at_cV1 C 2 (c_X7_isTurnedShape X.l X.D X.E X.a1 X.a2 ad S x1 x2) gX7_shape_X7_isTurnedShape rfl (by decide +kernel) ⟨rfl, rfl⟩ rfl rfl rfl 0 cW_c0 rfl dX7_shape_3 ?_
  have K : At X 3 (cW X.E ad S) 23 [] [.int (if (f_X7_isTurnedShape S x1 x2) then f_X3_rowsOf S x1 x2 else (-2))] := by
    exact at_iret C dX7_shape_23 h
  refine at_ifB_eq C dX7_shape_6 (tgt := 21) (by decide) (fun hc0 => ?_) (fun hc0 => ?_)
  · skip
    refine at_bipush C dX7_shape_21 (v := (-2)) rfl ?_
    refine at_lv [] rfl ?_
    first | (simp only [if_neg (show ¬ (f_X7_isTurnedShape S x1 x2) = true by rw [hc0]; decide)] at K; exact K) | exact K
  · skip
    refine at_aload_n C dX7_shape_9 rfl (j := 0) rfl ?_
    refine at_get C (K := RX7) (T := TX7) (N := 8) (ci := 6) (v := .ref (ad 5)) iw_X7_shape_X7 0 cW_c0 rfl 2 (by decide) lk_X7_shape_0 rfl dX7_shape_10 ?_
    refine at_iload_n C dX7_shape_13 rfl (j := 1) rfl ?_
    refine at_iload_n C dX7_shape_14 rfl (j := 2) rfl ?_
    refine at_cV1 C 2 (e_X3_rowsOf X.l X.D X.E X.a1 X.a2 ad S x1 x2) gX7_shape_X3_rowsOf rfl (by decide +kernel) ⟨rfl, rfl⟩ rfl rfl rfl 5 cW_c5 rfl dX7_shape_15 ?_
    refine at_goto C dX7_shape_18 (tgt := 23) (by decide) ?_
    refine at_lv [] rfl ?_
    first | (simp only [if_pos hc0] at K; exact K) | exact K
def f_X7_shape (S : MS) (x1 : Int32) (x2 : Int32) : Int32 := (if (f_X7_isTurnedShape S x1 x2) then f_X3_rowsOf S x1 x2 else (-2))
set_option maxRecDepth 100000 in
theorem c_X7_shape (l : Launch) (D : va_G) (E : Nat → ClassId) (a1 a2 : Nat) (ad : Nat → Nat) (S : MS) (x1 : Int32) (x2 : Int32) : Fn l D E a1 a2 yX7_shape wsX7_shape 3 64 [.ref (ad 0), .int x1, .int x2] (cW E ad S) (some (.int (f_X7_shape S x1 x2))) (cW E ad S) := by
  refine Fn.of (cc := cX7_shape) (maxL := 3) (ret := (some .int)) (own := RX7) (by decide) rfl rfl rfl (Nat.le_of_ble_eq_true rfl) (fun X h1 h2 h3 h4 h5 C hE => ?_)
  subst h1 h2 h3 h4 h5
  refine r_X7_shape_0 C ad S x1 x2 ?_
  simp only [f_X7_shape] at hE
  exact hE
set_option maxRecDepth 20000 in
theorem ggX7_made_X2_turned : GoodIn wsX7_made wsX2_turned := goodIn_r _ [5, 6, 7, 4, 8, 9] (by decide +kernel) (by decide +kernel)
set_option maxRecDepth 20000 in
theorem gX7_made_X2_turned : GoodIn wsX7_made (va_wsS RX7 90 yX2_turned wsX2_turned) := goodIn_app (goodIn_of _ (by decide +kernel)) ggX7_made_X2_turned
set_option maxRecDepth 20000 in
theorem ggX7_made_X2_mirrored : GoodIn wsX7_made wsX2_mirrored := goodIn_r _ [12, 6, 7, 4, 8, 9] (by decide +kernel) (by decide +kernel)
set_option maxRecDepth 20000 in
theorem gX7_made_X2_mirrored : GoodIn wsX7_made (va_wsS RX7 96 yX2_mirrored wsX2_mirrored) := goodIn_app (goodIn_of _ (by decide +kernel)) ggX7_made_X2_mirrored
set_option maxRecDepth 20000 in
theorem ggX7_made_X2_movedUp : GoodIn wsX7_made wsX2_movedUp := goodIn_r _ [15, 16, 17] (by decide +kernel) (by decide +kernel)
set_option maxRecDepth 20000 in
theorem gX7_made_X2_movedUp : GoodIn wsX7_made (va_wsS RX7 99 yX2_movedUp wsX2_movedUp) := goodIn_app (goodIn_of _ (by decide +kernel)) ggX7_made_X2_movedUp
theorem dX7_made_0 : decode cX7_made 0 = .ok (.iload_n 1, 1) := by decide +kernel
theorem dX7_made_1 : decode cX7_made 1 = .ok (.iconst 1, 1) := by decide +kernel
theorem dX7_made_2 : decode cX7_made 2 = .ok (.if_icmp .lt 9, 3) := by decide +kernel
theorem dX7_made_5 : decode cX7_made 5 = .ok (.iload_n 1, 1) := by decide +kernel
theorem dX7_made_6 : decode cX7_made 6 = .ok (.ldc 89, 2) := by decide +kernel
theorem dX7_made_8 : decode cX7_made 8 = .ok (.if_icmp .le 6, 3) := by decide +kernel
theorem dX7_made_11 : decode cX7_made 11 = .ok (.bipush (-2), 2) := by decide +kernel
theorem dX7_made_13 : decode cX7_made 13 = .ok (.ireturn, 1) := by decide +kernel
theorem dX7_made_14 : decode cX7_made 14 = .ok (.iload_n 2, 1) := by decide +kernel
theorem dX7_made_15 : decode cX7_made 15 = .ok (.tableswitch 40 0 2 #[25, 30, 35], 25) := by decide +kernel
theorem dX7_made_40 : decode cX7_made 40 = .ok (.iload_n 1, 1) := by decide +kernel
theorem dX7_made_41 : decode cX7_made 41 = .ok (.invokestatic 90, 3) := by decide +kernel
theorem dX7_made_44 : decode cX7_made 44 = .ok (.ireturn, 1) := by decide +kernel
theorem dX7_made_45 : decode cX7_made 45 = .ok (.iload_n 1, 1) := by decide +kernel
theorem dX7_made_46 : decode cX7_made 46 = .ok (.invokestatic 96, 3) := by decide +kernel
theorem dX7_made_49 : decode cX7_made 49 = .ok (.ireturn, 1) := by decide +kernel
theorem dX7_made_50 : decode cX7_made 50 = .ok (.iload_n 1, 1) := by decide +kernel
theorem dX7_made_51 : decode cX7_made 51 = .ok (.invokestatic 99, 3) := by decide +kernel
theorem dX7_made_54 : decode cX7_made 54 = .ok (.ireturn, 1) := by decide +kernel
theorem dX7_made_55 : decode cX7_made 55 = .ok (.bipush (-2), 2) := by decide +kernel
theorem dX7_made_57 : decode cX7_made 57 = .ok (.ireturn, 1) := by decide +kernel
theorem lk_X7_made_0 : Cond.constant RX7 89 65535 ∈ wsX7_made := by decide +kernel
set_option maxRecDepth 100000 in
theorem r_X7_made_0 {X : Bn} (C : Cx X cX7_made 3 RX7 wsX7_made 2 44) (ad : Nat → Nat) (S : MS) (x1 : Int32) (x2 : Int32) (h : ((x1 < 1) → (Ends X (some .int) (some (.int (-2))) (cW X.E ad S))) ∧ (¬ x1 < 1 → (((x1 ≤ 65535) → ((x2 = 0 → (Ends X (some .int) (some (.int (f_X2_turned x1))) (cW X.E ad S))) ∧ (x2 = 1 → (Ends X (some .int) (some (.int (f_X2_mirrored x1))) (cW X.E ad S))) ∧ (x2 = 2 → (Ends X (some .int) (some (.int (f_X2_movedUp x1))) (cW X.E ad S))) ∧ (¬ x2 = 0 → ¬ x2 = 1 → ¬ x2 = 2 → (Ends X (some .int) (some (.int (-2))) (cW X.E ad S))))) ∧ (¬ x1 ≤ 65535 → (Ends X (some .int) (some (.int (-2))) (cW X.E ad S)))))) : At X 3 (cW X.E ad S) 0 [(0, .ref (ad 0)), (1, .int x1), (2, .int x2)] [] := by
  refine at_iload_n C dX7_made_0 rfl (j := 1) rfl ?_
  refine at_iconst C dX7_made_1 (v := 1) rfl ?_
  refine at_icmp_lt C dX7_made_2 (tgt := 11) (by decide) (fun hc2 => ?_) (fun hc2 => ?_)
  · replace h := h.1 hc2
    refine at_bipush C dX7_made_11 (v := (-2)) rfl ?_
    exact at_iret C dX7_made_13 h
  · replace h := h.2 hc2
    refine at_iload_n C dX7_made_5 rfl (j := 1) rfl ?_
    refine at_ldc C lk_X7_made_0 dX7_made_6 ?_
    refine at_icmp_le C dX7_made_8 (tgt := 14) (by decide) (fun hc3 => ?_) (fun hc3 => ?_)
    · replace h := h.1 hc3
      refine at_iload_n C dX7_made_14 rfl (j := 2) rfl ?_
      by_cases hk0 : x2 = 0
      · refine at_tabIn C dX7_made_15 (by rw [hk0]; decide) (by rw [hk0]; decide) (by rw [hk0]; rfl) (tgt := 40) (by decide) ?_
        replace h := h.1 hk0
        refine at_iload_n C dX7_made_40 rfl (j := 1) rfl ?_
        refine at_cS0 C 1 (c_X2_turned X.l X.D X.E X.a1 X.a2 x1) gX7_made_X2_turned rfl (by decide +kernel) ⟨rfl, rfl⟩ rfl rfl rfl dX7_made_41 ?_
        exact at_iret C dX7_made_44 h
      replace h := h.2
      by_cases hk1 : x2 = 1
      · refine at_tabIn C dX7_made_15 (by rw [hk1]; decide) (by rw [hk1]; decide) (by rw [hk1]; rfl) (tgt := 45) (by decide) ?_
        replace h := h.1 hk1
        refine at_iload_n C dX7_made_45 rfl (j := 1) rfl ?_
        refine at_cS0 C 1 (c_X2_mirrored X.l X.D X.E X.a1 X.a2 x1) gX7_made_X2_mirrored rfl (by decide +kernel) ⟨rfl, rfl⟩ rfl rfl rfl dX7_made_46 ?_
        exact at_iret C dX7_made_49 h
      replace h := h.2
      by_cases hk2 : x2 = 2
      · refine at_tabIn C dX7_made_15 (by rw [hk2]; decide) (by rw [hk2]; decide) (by rw [hk2]; rfl) (tgt := 50) (by decide) ?_
        replace h := h.1 hk2
        refine at_iload_n C dX7_made_50 rfl (j := 1) rfl ?_
        refine at_cS0 C 1 (c_X2_movedUp X.l X.D X.E X.a1 X.a2 x1) gX7_made_X2_movedUp rfl (by decide +kernel) ⟨rfl, rfl⟩ rfl rfl rfl dX7_made_51 ?_
        exact at_iret C dX7_made_54 h
      replace h := h.2
      refine at_tabOut C dX7_made_15 (by have q0 := lv_neT hk0 (a := 0) rfl; have q1 := lv_neT hk1 (a := 1) rfl; have q2 := lv_neT hk2 (a := 2) rfl; omega) (tgt := 55) (by decide) ?_
      replace h := h hk0 hk1 hk2
      refine at_bipush C dX7_made_55 (v := (-2)) rfl ?_
      exact at_iret C dX7_made_57 h
    · replace h := h.2 hc3
      refine at_bipush C dX7_made_11 (v := (-2)) rfl ?_
      exact at_iret C dX7_made_13 h
def f_X7_made (S : MS) (x1 : Int32) (x2 : Int32) : Int32 := if x1 < 1 then (-2) else (if x1 ≤ 65535 then (if x2 = 0 then (f_X2_turned x1) else (if x2 = 1 then (f_X2_mirrored x1) else (if x2 = 2 then (f_X2_movedUp x1) else (-2)))) else (-2))
set_option maxRecDepth 100000 in
theorem c_X7_made (l : Launch) (D : va_G) (E : Nat → ClassId) (a1 a2 : Nat) (ad : Nat → Nat) (S : MS) (x1 : Int32) (x2 : Int32) : Fn l D E a1 a2 yX7_made wsX7_made 2 44 [.ref (ad 0), .int x1, .int x2] (cW E ad S) (some (.int (f_X7_made S x1 x2))) (cW E ad S) := by
  refine Fn.of (cc := cX7_made) (maxL := 3) (ret := (some .int)) (own := RX7) (by decide) rfl rfl rfl (Nat.le_of_ble_eq_true rfl) (fun X h1 h2 h3 h4 h5 C hE => ?_)
  subst h1 h2 h3 h4 h5
  refine r_X7_made_0 C ad S x1 x2 ?_
  refine ⟨fun hc0 => ?_, fun hc0 => ?_⟩
  · simp only [f_X7_made, if_pos hc0] at hE
    exact hE
  · refine ⟨fun hc1 => ?_, fun hc1 => ?_⟩
    · refine ⟨fun hc2_0_0 => ?_, fun hc2_1_0 => ?_, fun hc2_2_0 => ?_, fun hc2_3_0 hc2_3_1 hc2_3_2 => ?_⟩
      · simp only [f_X7_made, if_neg hc0, if_pos hc1, if_pos hc2_0_0] at hE
        exact hE
      · simp only [f_X7_made, if_neg hc0, if_pos hc1, if_neg (show ¬ x2 = 0 by rw [hc2_1_0]; decide), if_pos hc2_1_0] at hE
        exact hE
      · simp only [f_X7_made, if_neg hc0, if_pos hc1, if_neg (show ¬ x2 = 0 by rw [hc2_2_0]; decide), if_neg (show ¬ x2 = 1 by rw [hc2_2_0]; decide), if_pos hc2_2_0] at hE
        exact hE
      · simp only [f_X7_made, if_neg hc0, if_pos hc1, if_neg hc2_3_0, if_neg hc2_3_1, if_neg hc2_3_2] at hE
        exact hE
    · simp only [f_X7_made, if_neg hc0, if_neg hc1] at hE
      exact hE
set_option maxRecDepth 20000 in
theorem ggX7_sight_X7_isTurnedShape : GoodIn wsX7_sight wsX7_isTurnedShape := goodIn_r _ [6, 7, 8, 9, 5, 10, 1, 11, 12, 13, 14, 21, 22, 23, 24, 25, 26, 27, 28, 29, 30, 31, 32] (by decide +kernel) (by decide +kernel)
set_option maxRecDepth 20000 in
theorem gX7_sight_X7_isTurnedShape : GoodIn wsX7_sight (wsV RX7 82 RX7 yX7_isTurnedShape wsX7_isTurnedShape) := goodIn_app (goodIn_of _ (by decide +kernel)) ggX7_sight_X7_isTurnedShape
set_option maxRecDepth 20000 in
theorem ggX7_sight_X7_within : GoodIn wsX7_sight wsX7_within := goodIn_r _ [14] (by decide +kernel) (by decide +kernel)
set_option maxRecDepth 20000 in
theorem gX7_sight_X7_within : GoodIn wsX7_sight (va_wsS RX7 64 yX7_within wsX7_within) := goodIn_app (goodIn_of _ (by decide +kernel)) ggX7_sight_X7_within
set_option maxRecDepth 20000 in
theorem ggX7_sight_X3_sightOf : GoodIn wsX7_sight wsX3_sightOf := goodIn_r _ [19, 20, 29, 30, 31, 32] (by decide +kernel) (by decide +kernel)
set_option maxRecDepth 20000 in
theorem gX7_sight_X3_sightOf : GoodIn wsX7_sight (wsV RX7 102 RX3 yX3_sightOf wsX3_sightOf) := goodIn_app (goodIn_of _ (by decide +kernel)) ggX7_sight_X3_sightOf
theorem dX7_sight_0 : decode cX7_sight 0 = .ok (.aload_n 0, 1) := by decide +kernel
theorem dX7_sight_1 : decode cX7_sight 1 = .ok (.iload_n 1, 1) := by decide +kernel
theorem dX7_sight_2 : decode cX7_sight 2 = .ok (.iload_n 2, 1) := by decide +kernel
theorem dX7_sight_3 : decode cX7_sight 3 = .ok (.invokevirtual 82, 3) := by decide +kernel
theorem dX7_sight_6 : decode cX7_sight 6 = .ok (.ifCond .eq 11, 3) := by decide +kernel
theorem dX7_sight_9 : decode cX7_sight 9 = .ok (.iload_n 3, 1) := by decide +kernel
theorem dX7_sight_10 : decode cX7_sight 10 = .ok (.iconst 4, 1) := by decide +kernel
theorem dX7_sight_11 : decode cX7_sight 11 = .ok (.invokestatic 64, 3) := by decide +kernel
theorem dX7_sight_14 : decode cX7_sight 14 = .ok (.ifCond .ne 6, 3) := by decide +kernel
theorem dX7_sight_17 : decode cX7_sight 17 = .ok (.bipush (-2), 2) := by decide +kernel
theorem dX7_sight_19 : decode cX7_sight 19 = .ok (.ireturn, 1) := by decide +kernel
theorem dX7_sight_20 : decode cX7_sight 20 = .ok (.aload_n 0, 1) := by decide +kernel
theorem dX7_sight_21 : decode cX7_sight 21 = .ok (.getfield 24, 3) := by decide +kernel
theorem dX7_sight_24 : decode cX7_sight 24 = .ok (.iload_n 1, 1) := by decide +kernel
theorem dX7_sight_25 : decode cX7_sight 25 = .ok (.iload_n 2, 1) := by decide +kernel
theorem dX7_sight_26 : decode cX7_sight 26 = .ok (.iload_n 3, 1) := by decide +kernel
theorem dX7_sight_27 : decode cX7_sight 27 = .ok (.invokevirtual 102, 3) := by decide +kernel
theorem dX7_sight_30 : decode cX7_sight 30 = .ok (.ireturn, 1) := by decide +kernel
theorem iw_X7_sight_X7 : ∀ w ∈ u_ws RX7 TX7 8, w ∈ wsX7_sight := by decide +kernel
theorem lk_X7_sight_0 : Cond.fieldLink RX7 24 (TX7 2).1 (TX7 2).2.1 (TX7 2).2.2.1 ∈ wsX7_sight := by decide +kernel
set_option maxRecDepth 100000 in
theorem r_X7_sight_0 {X : Bn} (C : Cx X cX7_sight 4 RX7 wsX7_sight 3 64) (ad : Nat → Nat) (S : MS) (x1 : Int32) (x2 : Int32) (x3 : Int32) (h : (((f_X7_isTurnedShape S x1 x2) = true) → ((((f_X7_within x3 (4 : Int32)) = true) → (Ends X (some .int) (some (.int (f_X3_sightOf S x1 x2 x3))) (cW X.E ad S))) ∧ ((f_X7_within x3 (4 : Int32)) = false → (Ends X (some .int) (some (.int (-2))) (cW X.E ad S))))) ∧ ((f_X7_isTurnedShape S x1 x2) = false → (Ends X (some .int) (some (.int (-2))) (cW X.E ad S)))) : At X 4 (cW X.E ad S) 0 [(0, .ref (ad 0)), (1, .int x1), (2, .int x2), (3, .int x3)] [] := by
  refine at_aload_n C dX7_sight_0 rfl (j := 0) rfl ?_
  refine at_iload_n C dX7_sight_1 rfl (j := 1) rfl ?_
  refine at_iload_n C dX7_sight_2 rfl (j := 2) rfl ?_
  refine at_cV1 C 2 (c_X7_isTurnedShape X.l X.D X.E X.a1 X.a2 ad S x1 x2) gX7_sight_X7_isTurnedShape rfl (by decide +kernel) ⟨rfl, rfl⟩ rfl rfl rfl 0 cW_c0 rfl dX7_sight_3 ?_
  refine at_ifB_eq C dX7_sight_6 (tgt := 17) (by decide) (fun hc2 => ?_) (fun hc2 => ?_)
  · replace h := h.2 hc2
    refine at_bipush C dX7_sight_17 (v := (-2)) rfl ?_
    exact at_iret C dX7_sight_19 h
  · replace h := h.1 hc2
    refine at_iload_n C dX7_sight_9 rfl (j := 3) rfl ?_
    refine at_iconst C dX7_sight_10 (v := 4) rfl ?_
    refine at_cS0 C 2 (c_X7_within X.l X.D X.E X.a1 X.a2 x3 (4 : Int32)) gX7_sight_X7_within rfl (by decide +kernel) ⟨rfl, rfl⟩ rfl rfl rfl dX7_sight_11 ?_
    refine at_ifB_ne C dX7_sight_14 (tgt := 20) (by decide) (fun hc3 => ?_) (fun hc3 => ?_)
    · replace h := h.1 hc3
      refine at_aload_n C dX7_sight_20 rfl (j := 0) rfl ?_
      refine at_get C (K := RX7) (T := TX7) (N := 8) (ci := 6) (v := .ref (ad 5)) iw_X7_sight_X7 0 cW_c0 rfl 2 (by decide) lk_X7_sight_0 rfl dX7_sight_21 ?_
      refine at_iload_n C dX7_sight_24 rfl (j := 1) rfl ?_
      refine at_iload_n C dX7_sight_25 rfl (j := 2) rfl ?_
      refine at_iload_n C dX7_sight_26 rfl (j := 3) rfl ?_
      refine at_cV1 C 3 (e_X3_sightOf X.l X.D X.E X.a1 X.a2 ad S x1 x2 x3) gX7_sight_X3_sightOf rfl (by decide +kernel) ⟨rfl, rfl⟩ rfl rfl rfl 5 cW_c5 rfl dX7_sight_27 ?_
      exact at_iret C dX7_sight_30 h
    · replace h := h.2 hc3
      refine at_bipush C dX7_sight_17 (v := (-2)) rfl ?_
      exact at_iret C dX7_sight_19 h
def f_X7_sight (S : MS) (x1 : Int32) (x2 : Int32) (x3 : Int32) : Int32 := if (f_X7_isTurnedShape S x1 x2) then (if (f_X7_within x3 (4 : Int32)) then (f_X3_sightOf S x1 x2 x3) else (-2)) else (-2)
set_option maxRecDepth 100000 in
theorem c_X7_sight (l : Launch) (D : va_G) (E : Nat → ClassId) (a1 a2 : Nat) (ad : Nat → Nat) (S : MS) (x1 : Int32) (x2 : Int32) (x3 : Int32) : Fn l D E a1 a2 yX7_sight wsX7_sight 3 64 [.ref (ad 0), .int x1, .int x2, .int x3] (cW E ad S) (some (.int (f_X7_sight S x1 x2 x3))) (cW E ad S) := by
  refine Fn.of (cc := cX7_sight) (maxL := 4) (ret := (some .int)) (own := RX7) (by decide) rfl rfl rfl (Nat.le_of_ble_eq_true rfl) (fun X h1 h2 h3 h4 h5 C hE => ?_)
  subst h1 h2 h3 h4 h5
  refine r_X7_sight_0 C ad S x1 x2 x3 ?_
  refine ⟨fun hc0 => ?_, fun hc0 => ?_⟩
  · refine ⟨fun hc1 => ?_, fun hc1 => ?_⟩
    · simp only [f_X7_sight, if_pos hc0, if_pos hc1] at hE
      exact hE
    · simp only [f_X7_sight, if_pos hc0, if_neg (show ¬ (f_X7_within x3 (4 : Int32)) = true by rw [hc1]; decide)] at hE
      exact hE
  · simp only [f_X7_sight, if_neg (show ¬ (f_X7_isTurnedShape S x1 x2) = true by rw [hc0]; decide)] at hE
    exact hE
set_option maxRecDepth 20000 in
theorem ggX7_form_X7_isShape : GoodIn wsX7_form wsX7_isShape := goodIn_r _ [6, 1, 7, 8, 9, 5, 10, 34, 35, 36, 37, 38, 39, 40, 41, 42, 43, 44, 45] (by decide +kernel) (by decide +kernel)
set_option maxRecDepth 20000 in
theorem gX7_form_X7_isShape : GoodIn wsX7_form (wsV RX7 106 RX7 yX7_isShape wsX7_isShape) := goodIn_app (goodIn_of _ (by decide +kernel)) ggX7_form_X7_isShape
set_option maxRecDepth 20000 in
theorem ggX7_form_X3_rowsOf : GoodIn wsX7_form wsX3_rowsOf := goodIn_r _ [15, 16, 42, 43, 44, 45] (by decide +kernel) (by decide +kernel)
set_option maxRecDepth 20000 in
theorem gX7_form_X3_rowsOf : GoodIn wsX7_form (wsV RX7 85 RX3 yX3_rowsOf wsX3_rowsOf) := goodIn_app (goodIn_of _ (by decide +kernel)) ggX7_form_X3_rowsOf
set_option maxRecDepth 20000 in
theorem ggX7_form_X2_isWhole : GoodIn wsX7_form wsX2_isWhole := goodIn_r _ [20, 21, 22] (by decide +kernel) (by decide +kernel)
set_option maxRecDepth 20000 in
theorem gX7_form_X2_isWhole : GoodIn wsX7_form (va_wsS RX7 109 yX2_isWhole wsX2_isWhole) := goodIn_app (goodIn_of _ (by decide +kernel)) ggX7_form_X2_isWhole
set_option maxRecDepth 20000 in
theorem ggX7_form_X2_outline : GoodIn wsX7_form wsX2_outline := goodIn_r _ [25, 21, 26, 27, 28, 29, 30, 31, 32] (by decide +kernel) (by decide +kernel)
set_option maxRecDepth 20000 in
theorem gX7_form_X2_outline : GoodIn wsX7_form (va_wsS RX7 112 yX2_outline wsX2_outline) := goodIn_app (goodIn_of _ (by decide +kernel)) ggX7_form_X2_outline
set_option maxRecDepth 20000 in
theorem ggX7_form_J6_bitCount_0f7a4 : GoodIn wsX7_form wsJ6_bitCount_0f7a4 := goodIn_r _ [29, 30, 31, 32] (by decide +kernel) (by decide +kernel)
set_option maxRecDepth 20000 in
theorem gX7_form_J6_bitCount_0f7a4 : GoodIn wsX7_form (va_wsS RX7 115 yJ6_bitCount_0f7a4 wsJ6_bitCount_0f7a4) := goodIn_app (goodIn_of _ (by decide +kernel)) ggX7_form_J6_bitCount_0f7a4
theorem dX7_form_0 : decode cX7_form 0 = .ok (.aload_n 0, 1) := by decide +kernel
theorem dX7_form_1 : decode cX7_form 1 = .ok (.iload_n 1, 1) := by decide +kernel
theorem dX7_form_2 : decode cX7_form 2 = .ok (.invokevirtual 106, 3) := by decide +kernel
theorem dX7_form_5 : decode cX7_form 5 = .ok (.ifCond .ne 6, 3) := by decide +kernel
theorem dX7_form_8 : decode cX7_form 8 = .ok (.bipush (-2), 2) := by decide +kernel
theorem dX7_form_10 : decode cX7_form 10 = .ok (.ireturn, 1) := by decide +kernel
theorem dX7_form_11 : decode cX7_form 11 = .ok (.aload_n 0, 1) := by decide +kernel
theorem dX7_form_12 : decode cX7_form 12 = .ok (.getfield 24, 3) := by decide +kernel
theorem dX7_form_15 : decode cX7_form 15 = .ok (.iload_n 1, 1) := by decide +kernel
theorem dX7_form_16 : decode cX7_form 16 = .ok (.iconst 0, 1) := by decide +kernel
theorem dX7_form_17 : decode cX7_form 17 = .ok (.invokevirtual 85, 3) := by decide +kernel
theorem dX7_form_20 : decode cX7_form 20 = .ok (.istore_n 3, 1) := by decide +kernel
theorem dX7_form_21 : decode cX7_form 21 = .ok (.iload_n 2, 1) := by decide +kernel
theorem dX7_form_22 : decode cX7_form 22 = .ok (.tableswitch 49 0 2 #[26, 39, 44], 26) := by decide +kernel
theorem dX7_form_48 : decode cX7_form 48 = .ok (.iload_n 3, 1) := by decide +kernel
theorem dX7_form_49 : decode cX7_form 49 = .ok (.invokestatic 109, 3) := by decide +kernel
theorem dX7_form_52 : decode cX7_form 52 = .ok (.ifCond .eq 7, 3) := by decide +kernel
theorem dX7_form_55 : decode cX7_form 55 = .ok (.iconst 1, 1) := by decide +kernel
theorem dX7_form_56 : decode cX7_form 56 = .ok (.goto 4, 3) := by decide +kernel
theorem dX7_form_59 : decode cX7_form 59 = .ok (.iconst 0, 1) := by decide +kernel
theorem dX7_form_60 : decode cX7_form 60 = .ok (.ireturn, 1) := by decide +kernel
theorem dX7_form_61 : decode cX7_form 61 = .ok (.iload_n 3, 1) := by decide +kernel
theorem dX7_form_62 : decode cX7_form 62 = .ok (.invokestatic 112, 3) := by decide +kernel
theorem dX7_form_65 : decode cX7_form 65 = .ok (.ireturn, 1) := by decide +kernel
theorem dX7_form_66 : decode cX7_form 66 = .ok (.iload_n 3, 1) := by decide +kernel
theorem dX7_form_67 : decode cX7_form 67 = .ok (.invokestatic 115, 3) := by decide +kernel
theorem dX7_form_70 : decode cX7_form 70 = .ok (.ireturn, 1) := by decide +kernel
theorem dX7_form_71 : decode cX7_form 71 = .ok (.bipush (-2), 2) := by decide +kernel
theorem dX7_form_73 : decode cX7_form 73 = .ok (.ireturn, 1) := by decide +kernel
theorem iw_X7_form_X7 : ∀ w ∈ u_ws RX7 TX7 8, w ∈ wsX7_form := by decide +kernel
theorem lk_X7_form_0 : Cond.fieldLink RX7 24 (TX7 2).1 (TX7 2).2.1 (TX7 2).2.2.1 ∈ wsX7_form := by decide +kernel
set_option maxRecDepth 100000 in
theorem r_X7_form_0 {X : Bn} (C : Cx X cX7_form 4 RX7 wsX7_form 2 42) (ad : Nat → Nat) (S : MS) (x1 : Int32) (x2 : Int32) (h : (((f_X7_isShape S x1) = true) → ((x2 = 0 → (Ends X (some .int) (some (.int (b2i (if (f_X2_isWhole (f_X3_rowsOf S x1 (0 : Int32))) then true else false)))) (cW X.E ad S))) ∧ (x2 = 1 → (Ends X (some .int) (some (.int (f_X2_outline (f_X3_rowsOf S x1 (0 : Int32))))) (cW X.E ad S))) ∧ (x2 = 2 → (Ends X (some .int) (some (.int (f_J6_bitCount_0f7a4 (f_X3_rowsOf S x1 (0 : Int32))))) (cW X.E ad S))) ∧ (¬ x2 = 0 → ¬ x2 = 1 → ¬ x2 = 2 → (Ends X (some .int) (some (.int (-2))) (cW X.E ad S))))) ∧ ((f_X7_isShape S x1) = false → (Ends X (some .int) (some (.int (-2))) (cW X.E ad S)))) : At X 4 (cW X.E ad S) 0 [(0, .ref (ad 0)), (1, .int x1), (2, .int x2)] [] := by
  refine at_aload_n C dX7_form_0 rfl (j := 0) rfl ?_
  refine at_iload_n C dX7_form_1 rfl (j := 1) rfl ?_
  refine at_cV1 C 1 (c_X7_isShape X.l X.D X.E X.a1 X.a2 ad S x1) gX7_form_X7_isShape rfl (by decide +kernel) ⟨rfl, rfl⟩ rfl rfl rfl 0 cW_c0 rfl dX7_form_2 ?_
  refine at_ifB_ne C dX7_form_5 (tgt := 11) (by decide) (fun hc1 => ?_) (fun hc1 => ?_)
  · replace h := h.1 hc1
    refine at_aload_n C dX7_form_11 rfl (j := 0) rfl ?_
    refine at_get C (K := RX7) (T := TX7) (N := 8) (ci := 6) (v := .ref (ad 5)) iw_X7_form_X7 0 cW_c0 rfl 2 (by decide) lk_X7_form_0 rfl dX7_form_12 ?_
    refine at_iload_n C dX7_form_15 rfl (j := 1) rfl ?_
    refine at_iconst C dX7_form_16 (v := 0) rfl ?_
    refine at_cV1 C 2 (e_X3_rowsOf X.l X.D X.E X.a1 X.a2 ad S x1 (0 : Int32)) gX7_form_X3_rowsOf rfl (by decide +kernel) ⟨rfl, rfl⟩ rfl rfl rfl 5 cW_c5 rfl dX7_form_17 ?_
    refine at_istore_n C dX7_form_20 rfl (by decide) (lv' := [(3, .int (f_X3_rowsOf S x1 (0 : Int32))), (0, .ref (ad 0)), (1, .int x1), (2, .int x2)]) rfl ?_
    refine at_iload_n C dX7_form_21 rfl (j := 3) rfl ?_
    by_cases hk0 : x2 = 0
    · refine at_tabIn C dX7_form_22 (by rw [hk0]; decide) (by rw [hk0]; decide) (by rw [hk0]; rfl) (tgt := 48) (by decide) ?_
      replace h := h.1 hk0
      refine at_iload_n C dX7_form_48 rfl (j := 0) rfl ?_
      refine at_cS0 C 1 (c_X2_isWhole X.l X.D X.E X.a1 X.a2 (f_X3_rowsOf S x1 (0 : Int32))) gX7_form_X2_isWhole rfl (by decide +kernel) ⟨rfl, rfl⟩ rfl rfl rfl dX7_form_49 ?_
      have K : At X 4 (cW X.E ad S) 60 [] [.int (b2i (if (f_X2_isWhole (f_X3_rowsOf S x1 (0 : Int32))) then true else false))] := by
        exact at_iret C dX7_form_60 h
      refine at_ifB_eq C dX7_form_52 (tgt := 59) (by decide) (fun hc2 => ?_) (fun hc2 => ?_)
      · skip
        refine at_iconst C dX7_form_59 (v := 0) rfl ?_
        refine at_lv [] rfl ?_
        first | (simp only [if_neg (show ¬ (f_X2_isWhole (f_X3_rowsOf S x1 (0 : Int32))) = true by rw [hc2]; decide)] at K; exact K) | exact K
      · skip
        refine at_iconst C dX7_form_55 (v := 1) rfl ?_
        refine at_goto C dX7_form_56 (tgt := 60) (by decide) ?_
        refine at_lv [] rfl ?_
        first | (simp only [if_pos hc2] at K; exact K) | exact K
    replace h := h.2
    by_cases hk1 : x2 = 1
    · refine at_tabIn C dX7_form_22 (by rw [hk1]; decide) (by rw [hk1]; decide) (by rw [hk1]; rfl) (tgt := 61) (by decide) ?_
      replace h := h.1 hk1
      refine at_iload_n C dX7_form_61 rfl (j := 0) rfl ?_
      refine at_cS0 C 1 (c_X2_outline X.l X.D X.E X.a1 X.a2 (f_X3_rowsOf S x1 (0 : Int32))) gX7_form_X2_outline rfl (by decide +kernel) ⟨rfl, rfl⟩ rfl rfl rfl dX7_form_62 ?_
      exact at_iret C dX7_form_65 h
    replace h := h.2
    by_cases hk2 : x2 = 2
    · refine at_tabIn C dX7_form_22 (by rw [hk2]; decide) (by rw [hk2]; decide) (by rw [hk2]; rfl) (tgt := 66) (by decide) ?_
      replace h := h.1 hk2
      refine at_iload_n C dX7_form_66 rfl (j := 0) rfl ?_
      refine at_cS0 C 1 (c_J6_bitCount_0f7a4 X.l X.D X.E X.a1 X.a2 (f_X3_rowsOf S x1 (0 : Int32))) gX7_form_J6_bitCount_0f7a4 rfl (by decide +kernel) ⟨rfl, rfl⟩ rfl rfl rfl dX7_form_67 ?_
      exact at_iret C dX7_form_70 h
    replace h := h.2
    refine at_tabOut C dX7_form_22 (by have q0 := lv_neT hk0 (a := 0) rfl; have q1 := lv_neT hk1 (a := 1) rfl; have q2 := lv_neT hk2 (a := 2) rfl; omega) (tgt := 71) (by decide) ?_
    replace h := h hk0 hk1 hk2
    refine at_bipush C dX7_form_71 (v := (-2)) rfl ?_
    exact at_iret C dX7_form_73 h
  · replace h := h.2 hc1
    refine at_bipush C dX7_form_8 (v := (-2)) rfl ?_
    exact at_iret C dX7_form_10 h
def f_X7_form (S : MS) (x1 : Int32) (x2 : Int32) : Int32 := if (f_X7_isShape S x1) then (if x2 = 0 then (b2i (if (f_X2_isWhole (f_X3_rowsOf S x1 (0 : Int32))) then true else false)) else (if x2 = 1 then (f_X2_outline (f_X3_rowsOf S x1 (0 : Int32))) else (if x2 = 2 then (f_J6_bitCount_0f7a4 (f_X3_rowsOf S x1 (0 : Int32))) else (-2)))) else (-2)
set_option maxRecDepth 100000 in
theorem c_X7_form (l : Launch) (D : va_G) (E : Nat → ClassId) (a1 a2 : Nat) (ad : Nat → Nat) (S : MS) (x1 : Int32) (x2 : Int32) : Fn l D E a1 a2 yX7_form wsX7_form 2 42 [.ref (ad 0), .int x1, .int x2] (cW E ad S) (some (.int (f_X7_form S x1 x2))) (cW E ad S) := by
  refine Fn.of (cc := cX7_form) (maxL := 4) (ret := (some .int)) (own := RX7) (by decide) rfl rfl rfl (Nat.le_of_ble_eq_true rfl) (fun X h1 h2 h3 h4 h5 C hE => ?_)
  subst h1 h2 h3 h4 h5
  refine r_X7_form_0 C ad S x1 x2 ?_
  refine ⟨fun hc0 => ?_, fun hc0 => ?_⟩
  · refine ⟨fun hc1_0_0 => ?_, fun hc1_1_0 => ?_, fun hc1_2_0 => ?_, fun hc1_3_0 hc1_3_1 hc1_3_2 => ?_⟩
    · simp only [f_X7_form, if_pos hc0, if_pos hc1_0_0] at hE
      exact hE
    · simp only [f_X7_form, if_pos hc0, if_neg (show ¬ x2 = 0 by rw [hc1_1_0]; decide), if_pos hc1_1_0] at hE
      exact hE
    · simp only [f_X7_form, if_pos hc0, if_neg (show ¬ x2 = 0 by rw [hc1_2_0]; decide), if_neg (show ¬ x2 = 1 by rw [hc1_2_0]; decide), if_pos hc1_2_0] at hE
      exact hE
    · simp only [f_X7_form, if_pos hc0, if_neg hc1_3_0, if_neg hc1_3_1, if_neg hc1_3_2] at hE
      exact hE
  · simp only [f_X7_form, if_neg (show ¬ (f_X7_isShape S x1) = true by rw [hc0]; decide)] at hE
    exact hE
set_option maxRecDepth 20000 in
theorem ggX7_kin_X7_isShape : GoodIn wsX7_kin wsX7_isShape := goodIn_r _ [6, 1, 7, 8, 9, 5, 10, 42, 43, 44, 45, 46, 47, 48, 49, 50, 51, 52, 53] (by decide +kernel) (by decide +kernel)
set_option maxRecDepth 20000 in
theorem gX7_kin_X7_isShape : GoodIn wsX7_kin (wsV RX7 106 RX7 yX7_isShape wsX7_isShape) := goodIn_app (goodIn_of _ (by decide +kernel)) ggX7_kin_X7_isShape
set_option maxRecDepth 20000 in
theorem ggX7_kin_X7_within : GoodIn wsX7_kin wsX7_within := goodIn_r _ [10] (by decide +kernel) (by decide +kernel)
set_option maxRecDepth 20000 in
theorem gX7_kin_X7_within : GoodIn wsX7_kin (va_wsS RX7 64 yX7_within wsX7_within) := goodIn_app (goodIn_of _ (by decide +kernel)) ggX7_kin_X7_within
set_option maxRecDepth 20000 in
theorem ggX7_kin_X3_rowsOf : GoodIn wsX7_kin wsX3_rowsOf := goodIn_r _ [15, 16, 50, 51, 52, 53] (by decide +kernel) (by decide +kernel)
set_option maxRecDepth 20000 in
theorem gX7_kin_X3_rowsOf : GoodIn wsX7_kin (wsV RX7 85 RX3 yX3_rowsOf wsX3_rowsOf) := goodIn_app (goodIn_of _ (by decide +kernel)) ggX7_kin_X3_rowsOf
set_option maxRecDepth 20000 in
theorem ggX7_kin_X2_mirrored : GoodIn wsX7_kin wsX2_mirrored := goodIn_r _ [20, 21, 22, 19, 23, 24] (by decide +kernel) (by decide +kernel)
set_option maxRecDepth 20000 in
theorem gX7_kin_X2_mirrored : GoodIn wsX7_kin (va_wsS RX7 96 yX2_mirrored wsX2_mirrored) := goodIn_app (goodIn_of _ (by decide +kernel)) ggX7_kin_X2_mirrored
set_option maxRecDepth 20000 in
theorem ggX7_kin_X3_thoseOneWith : GoodIn wsX7_kin wsX3_thoseOneWith := goodIn_r _ [28, 29, 30, 12, 13, 14, 15, 16, 31, 32, 19, 33, 34, 35, 36, 37, 38, 39, 40, 41, 21, 22, 23, 24, 50, 51, 52, 53] (by decide +kernel) (by decide +kernel)
set_option maxRecDepth 20000 in
theorem gX7_kin_X3_thoseOneWith : GoodIn wsX7_kin (wsV RX7 120 RX3 yX3_thoseOneWith wsX3_thoseOneWith) := goodIn_app (goodIn_of _ (by decide +kernel)) ggX7_kin_X3_thoseOneWith
theorem dX7_kin_0 : decode cX7_kin 0 = .ok (.aload_n 0, 1) := by decide +kernel
theorem dX7_kin_1 : decode cX7_kin 1 = .ok (.iload_n 1, 1) := by decide +kernel
theorem dX7_kin_2 : decode cX7_kin 2 = .ok (.invokevirtual 106, 3) := by decide +kernel
theorem dX7_kin_5 : decode cX7_kin 5 = .ok (.ifCond .eq 11, 3) := by decide +kernel
theorem dX7_kin_8 : decode cX7_kin 8 = .ok (.iload_n 2, 1) := by decide +kernel
theorem dX7_kin_9 : decode cX7_kin 9 = .ok (.iconst 2, 1) := by decide +kernel
theorem dX7_kin_10 : decode cX7_kin 10 = .ok (.invokestatic 64, 3) := by decide +kernel
theorem dX7_kin_13 : decode cX7_kin 13 = .ok (.ifCond .ne 6, 3) := by decide +kernel
theorem dX7_kin_16 : decode cX7_kin 16 = .ok (.bipush (-2), 2) := by decide +kernel
theorem dX7_kin_18 : decode cX7_kin 18 = .ok (.ireturn, 1) := by decide +kernel
theorem dX7_kin_19 : decode cX7_kin 19 = .ok (.aload_n 0, 1) := by decide +kernel
theorem dX7_kin_20 : decode cX7_kin 20 = .ok (.getfield 24, 3) := by decide +kernel
theorem dX7_kin_23 : decode cX7_kin 23 = .ok (.iload_n 1, 1) := by decide +kernel
theorem dX7_kin_24 : decode cX7_kin 24 = .ok (.iconst 0, 1) := by decide +kernel
theorem dX7_kin_25 : decode cX7_kin 25 = .ok (.invokevirtual 85, 3) := by decide +kernel
theorem dX7_kin_28 : decode cX7_kin 28 = .ok (.istore_n 3, 1) := by decide +kernel
theorem dX7_kin_29 : decode cX7_kin 29 = .ok (.aload_n 0, 1) := by decide +kernel
theorem dX7_kin_30 : decode cX7_kin 30 = .ok (.getfield 24, 3) := by decide +kernel
theorem dX7_kin_33 : decode cX7_kin 33 = .ok (.iload_n 2, 1) := by decide +kernel
theorem dX7_kin_34 : decode cX7_kin 34 = .ok (.ifCond .ne 7, 3) := by decide +kernel
theorem dX7_kin_37 : decode cX7_kin 37 = .ok (.iload_n 3, 1) := by decide +kernel
theorem dX7_kin_38 : decode cX7_kin 38 = .ok (.goto 7, 3) := by decide +kernel
theorem dX7_kin_41 : decode cX7_kin 41 = .ok (.iload_n 3, 1) := by decide +kernel
theorem dX7_kin_42 : decode cX7_kin 42 = .ok (.invokestatic 96, 3) := by decide +kernel
theorem dX7_kin_45 : decode cX7_kin 45 = .ok (.invokevirtual 120, 3) := by decide +kernel
theorem dX7_kin_48 : decode cX7_kin 48 = .ok (.ireturn, 1) := by decide +kernel
theorem iw_X7_kin_X7 : ∀ w ∈ u_ws RX7 TX7 8, w ∈ wsX7_kin := by decide +kernel
theorem lk_X7_kin_0 : Cond.fieldLink RX7 24 (TX7 2).1 (TX7 2).2.1 (TX7 2).2.2.1 ∈ wsX7_kin := by decide +kernel
set_option maxRecDepth 100000 in
theorem r_X7_kin_0 {X : Bn} (C : Cx X cX7_kin 4 RX7 wsX7_kin 4 91) (ad : Nat → Nat) (S : MS) (x1 : Int32) (x2 : Int32) (h : (((f_X7_isShape S x1) = true) → ((((f_X7_within x2 (2 : Int32)) = true) → ((okC S) ∧ (Ends X (some .int) (some (.int (f_X3_thoseOneWith S (if x2 = 0 then f_X3_rowsOf S x1 (0 : Int32) else f_X2_mirrored (f_X3_rowsOf S x1 (0 : Int32)))))) (cW X.E ad S)))) ∧ ((f_X7_within x2 (2 : Int32)) = false → (Ends X (some .int) (some (.int (-2))) (cW X.E ad S))))) ∧ ((f_X7_isShape S x1) = false → (Ends X (some .int) (some (.int (-2))) (cW X.E ad S)))) : At X 4 (cW X.E ad S) 0 [(0, .ref (ad 0)), (1, .int x1), (2, .int x2)] [] := by
  refine at_aload_n C dX7_kin_0 rfl (j := 0) rfl ?_
  refine at_iload_n C dX7_kin_1 rfl (j := 1) rfl ?_
  refine at_cV1 C 1 (c_X7_isShape X.l X.D X.E X.a1 X.a2 ad S x1) gX7_kin_X7_isShape rfl (by decide +kernel) ⟨rfl, rfl⟩ rfl rfl rfl 0 cW_c0 rfl dX7_kin_2 ?_
  refine at_ifB_eq C dX7_kin_5 (tgt := 16) (by decide) (fun hc2 => ?_) (fun hc2 => ?_)
  · replace h := h.2 hc2
    refine at_bipush C dX7_kin_16 (v := (-2)) rfl ?_
    exact at_iret C dX7_kin_18 h
  · replace h := h.1 hc2
    refine at_iload_n C dX7_kin_8 rfl (j := 2) rfl ?_
    refine at_iconst C dX7_kin_9 (v := 2) rfl ?_
    refine at_cS0 C 2 (c_X7_within X.l X.D X.E X.a1 X.a2 x2 (2 : Int32)) gX7_kin_X7_within rfl (by decide +kernel) ⟨rfl, rfl⟩ rfl rfl rfl dX7_kin_10 ?_
    refine at_ifB_ne C dX7_kin_13 (tgt := 19) (by decide) (fun hc3 => ?_) (fun hc3 => ?_)
    · replace h := h.1 hc3
      refine at_aload_n C dX7_kin_19 rfl (j := 0) rfl ?_
      refine at_get C (K := RX7) (T := TX7) (N := 8) (ci := 6) (v := .ref (ad 5)) iw_X7_kin_X7 0 cW_c0 rfl 2 (by decide) lk_X7_kin_0 rfl dX7_kin_20 ?_
      refine at_iload_n C dX7_kin_23 rfl (j := 1) rfl ?_
      refine at_iconst C dX7_kin_24 (v := 0) rfl ?_
      refine at_cV1 C 2 (e_X3_rowsOf X.l X.D X.E X.a1 X.a2 ad S x1 (0 : Int32)) gX7_kin_X3_rowsOf rfl (by decide +kernel) ⟨rfl, rfl⟩ rfl rfl rfl 5 cW_c5 rfl dX7_kin_25 ?_
      refine at_istore_n C dX7_kin_28 rfl (by decide) (lv' := [(3, .int (f_X3_rowsOf S x1 (0 : Int32))), (0, .ref (ad 0)), (1, .int x1), (2, .int x2)]) rfl ?_
      refine at_aload_n C dX7_kin_29 rfl (j := 1) rfl ?_
      refine at_get C (K := RX7) (T := TX7) (N := 8) (ci := 6) (v := .ref (ad 5)) iw_X7_kin_X7 0 cW_c0 rfl 2 (by decide) lk_X7_kin_0 rfl dX7_kin_30 ?_
      refine at_iload_n C dX7_kin_33 rfl (j := 3) rfl ?_
      have K : At X 4 (cW X.E ad S) 45 [] [.int (if x2 = 0 then f_X3_rowsOf S x1 (0 : Int32) else f_X2_mirrored (f_X3_rowsOf S x1 (0 : Int32))), .ref (ad 5)] := by
        refine at_cV1 C 1 (c_X3_thoseOneWith X.l X.D X.E X.a1 X.a2 ad S (if x2 = 0 then f_X3_rowsOf S x1 (0 : Int32) else f_X2_mirrored (f_X3_rowsOf S x1 (0 : Int32))) h.1) gX7_kin_X3_thoseOneWith rfl (by decide +kernel) ⟨rfl, rfl⟩ rfl rfl rfl 5 cW_c5 rfl dX7_kin_45 ?_
        replace h := h.2
        exact at_iret C dX7_kin_48 h
      refine at_if_ne C dX7_kin_34 (tgt := 41) (by decide) (fun hc4 => ?_) (fun hc4 => ?_)
      · skip
        refine at_iload_n C dX7_kin_41 rfl (j := 0) rfl ?_
        refine at_cS0 C 1 (c_X2_mirrored X.l X.D X.E X.a1 X.a2 (f_X3_rowsOf S x1 (0 : Int32))) gX7_kin_X2_mirrored rfl (by decide +kernel) ⟨rfl, rfl⟩ rfl rfl rfl dX7_kin_42 ?_
        refine at_lv [] rfl ?_
        first | (simp only [if_neg hc4] at K; exact K) | exact K
      · skip
        refine at_iload_n C dX7_kin_37 rfl (j := 0) rfl ?_
        refine at_goto C dX7_kin_38 (tgt := 45) (by decide) ?_
        refine at_lv [] rfl ?_
        first | (simp only [if_pos hc4] at K; exact K) | exact K
    · replace h := h.2 hc3
      refine at_bipush C dX7_kin_16 (v := (-2)) rfl ?_
      exact at_iret C dX7_kin_18 h
def f_X7_kin (S : MS) (x1 : Int32) (x2 : Int32) : Int32 := if (f_X7_isShape S x1) then (if (f_X7_within x2 (2 : Int32)) then (f_X3_thoseOneWith S (if x2 = 0 then f_X3_rowsOf S x1 (0 : Int32) else f_X2_mirrored (f_X3_rowsOf S x1 (0 : Int32)))) else (-2)) else (-2)
def p_X7_kin (S : MS) (x1 : Int32) (x2 : Int32) : Prop := (((f_X7_isShape S x1) = true) → (((f_X7_within x2 (2 : Int32)) = true) → (okC S)))
set_option maxRecDepth 100000 in
theorem c_X7_kin (l : Launch) (D : va_G) (E : Nat → ClassId) (a1 a2 : Nat) (ad : Nat → Nat) (S : MS) (x1 : Int32) (x2 : Int32) (hp : p_X7_kin S x1 x2) : Fn l D E a1 a2 yX7_kin wsX7_kin 4 91 [.ref (ad 0), .int x1, .int x2] (cW E ad S) (some (.int (f_X7_kin S x1 x2))) (cW E ad S) := by
  refine Fn.of (cc := cX7_kin) (maxL := 4) (ret := (some .int)) (own := RX7) (by decide) rfl rfl rfl (Nat.le_of_ble_eq_true rfl) (fun X h1 h2 h3 h4 h5 C hE => ?_)
  subst h1 h2 h3 h4 h5
  refine r_X7_kin_0 C ad S x1 x2 ?_
  refine ⟨fun hc0 => ?_, fun hc0 => ?_⟩
  · refine ⟨fun hc1 => ?_, fun hc1 => ?_⟩
    · refine ⟨((hp hc0) hc1), ?_⟩
      simp only [f_X7_kin, if_pos hc0, if_pos hc1] at hE
      exact hE
    · simp only [f_X7_kin, if_pos hc0, if_neg (show ¬ (f_X7_within x2 (2 : Int32)) = true by rw [hc1]; decide)] at hE
      exact hE
  · simp only [f_X7_kin, if_neg (show ¬ (f_X7_isShape S x1) = true by rw [hc0]; decide)] at hE
    exact hE
set_option maxRecDepth 20000 in
theorem ggX7_self_X7_isShape : GoodIn wsX7_self wsX7_isShape := goodIn_r _ [6, 1, 7, 8, 9, 5, 10, 33, 34, 35, 36, 37, 38, 39, 40, 41, 42, 43, 44] (by decide +kernel) (by decide +kernel)
set_option maxRecDepth 20000 in
theorem gX7_self_X7_isShape : GoodIn wsX7_self (wsV RX7 106 RX7 yX7_isShape wsX7_isShape) := goodIn_app (goodIn_of _ (by decide +kernel)) ggX7_self_X7_isShape
set_option maxRecDepth 20000 in
theorem ggX7_self_X3_rowsOf : GoodIn wsX7_self wsX3_rowsOf := goodIn_r _ [15, 16, 41, 42, 43, 44] (by decide +kernel) (by decide +kernel)
set_option maxRecDepth 20000 in
theorem gX7_self_X3_rowsOf : GoodIn wsX7_self (wsV RX7 85 RX3 yX3_rowsOf wsX3_rowsOf) := goodIn_app (goodIn_of _ (by decide +kernel)) ggX7_self_X3_rowsOf
set_option maxRecDepth 20000 in
theorem ggX7_self_X2_turnsTillAlike : GoodIn wsX7_self wsX2_turnsTillAlike := goodIn_r _ [20, 21, 22, 19, 23, 24, 25, 26, 27, 28, 29, 30, 31, 32] (by decide +kernel) (by decide +kernel)
set_option maxRecDepth 20000 in
theorem gX7_self_X2_turnsTillAlike : GoodIn wsX7_self (va_wsS RX7 123 yX2_turnsTillAlike wsX2_turnsTillAlike) := goodIn_app (goodIn_of _ (by decide +kernel)) ggX7_self_X2_turnsTillAlike
theorem dX7_self_0 : decode cX7_self 0 = .ok (.aload_n 0, 1) := by decide +kernel
theorem dX7_self_1 : decode cX7_self 1 = .ok (.iload_n 1, 1) := by decide +kernel
theorem dX7_self_2 : decode cX7_self 2 = .ok (.invokevirtual 106, 3) := by decide +kernel
theorem dX7_self_5 : decode cX7_self 5 = .ok (.ifCond .eq 18, 3) := by decide +kernel
theorem dX7_self_8 : decode cX7_self 8 = .ok (.aload_n 0, 1) := by decide +kernel
theorem dX7_self_9 : decode cX7_self 9 = .ok (.getfield 24, 3) := by decide +kernel
theorem dX7_self_12 : decode cX7_self 12 = .ok (.iload_n 1, 1) := by decide +kernel
theorem dX7_self_13 : decode cX7_self 13 = .ok (.iconst 0, 1) := by decide +kernel
theorem dX7_self_14 : decode cX7_self 14 = .ok (.invokevirtual 85, 3) := by decide +kernel
theorem dX7_self_17 : decode cX7_self 17 = .ok (.invokestatic 123, 3) := by decide +kernel
theorem dX7_self_20 : decode cX7_self 20 = .ok (.goto 5, 3) := by decide +kernel
theorem dX7_self_23 : decode cX7_self 23 = .ok (.bipush (-2), 2) := by decide +kernel
theorem dX7_self_25 : decode cX7_self 25 = .ok (.ireturn, 1) := by decide +kernel
theorem iw_X7_self_X7 : ∀ w ∈ u_ws RX7 TX7 8, w ∈ wsX7_self := by decide +kernel
theorem lk_X7_self_0 : Cond.fieldLink RX7 24 (TX7 2).1 (TX7 2).2.1 (TX7 2).2.2.1 ∈ wsX7_self := by decide +kernel
set_option maxRecDepth 100000 in
theorem r_X7_self_0 {X : Bn} (C : Cx X cX7_self 2 RX7 wsX7_self 3 67) (ad : Nat → Nat) (S : MS) (x1 : Int32) (h : Ends X (some .int) (some (.int (if (f_X7_isShape S x1) then f_X2_turnsTillAlike (f_X3_rowsOf S x1 (0 : Int32)) else (-2)))) (cW X.E ad S)) : At X 2 (cW X.E ad S) 0 [(0, .ref (ad 0)), (1, .int x1)] [] := by
  refine at_aload_n C dX7_self_0 rfl (j := 0) rfl ?_
  refine at_iload_n C dX7_self_1 rfl (j := 1) rfl ?_
  refine at_cV1 C 1 (c_X7_isShape X.l X.D X.E X.a1 X.a2 ad S x1) gX7_self_X7_isShape rfl (by decide +kernel) ⟨rfl, rfl⟩ rfl rfl rfl 0 cW_c0 rfl dX7_self_2 ?_
  have K : At X 2 (cW X.E ad S) 25 [] [.int (if (f_X7_isShape S x1) then f_X2_turnsTillAlike (f_X3_rowsOf S x1 (0 : Int32)) else (-2))] := by
    exact at_iret C dX7_self_25 h
  refine at_ifB_eq C dX7_self_5 (tgt := 23) (by decide) (fun hc0 => ?_) (fun hc0 => ?_)
  · skip
    refine at_bipush C dX7_self_23 (v := (-2)) rfl ?_
    refine at_lv [] rfl ?_
    first | (simp only [if_neg (show ¬ (f_X7_isShape S x1) = true by rw [hc0]; decide)] at K; exact K) | exact K
  · skip
    refine at_aload_n C dX7_self_8 rfl (j := 0) rfl ?_
    refine at_get C (K := RX7) (T := TX7) (N := 8) (ci := 6) (v := .ref (ad 5)) iw_X7_self_X7 0 cW_c0 rfl 2 (by decide) lk_X7_self_0 rfl dX7_self_9 ?_
    refine at_iload_n C dX7_self_12 rfl (j := 1) rfl ?_
    refine at_iconst C dX7_self_13 (v := 0) rfl ?_
    refine at_cV1 C 2 (e_X3_rowsOf X.l X.D X.E X.a1 X.a2 ad S x1 (0 : Int32)) gX7_self_X3_rowsOf rfl (by decide +kernel) ⟨rfl, rfl⟩ rfl rfl rfl 5 cW_c5 rfl dX7_self_14 ?_
    refine at_cS0 C 1 (c_X2_turnsTillAlike X.l X.D X.E X.a1 X.a2 (f_X3_rowsOf S x1 (0 : Int32))) gX7_self_X2_turnsTillAlike rfl (by decide +kernel) ⟨rfl, rfl⟩ rfl rfl rfl dX7_self_17 ?_
    refine at_goto C dX7_self_20 (tgt := 25) (by decide) ?_
    refine at_lv [] rfl ?_
    first | (simp only [if_pos hc0] at K; exact K) | exact K
def f_X7_self (S : MS) (x1 : Int32) : Int32 := (if (f_X7_isShape S x1) then f_X2_turnsTillAlike (f_X3_rowsOf S x1 (0 : Int32)) else (-2))
set_option maxRecDepth 100000 in
theorem c_X7_self (l : Launch) (D : va_G) (E : Nat → ClassId) (a1 a2 : Nat) (ad : Nat → Nat) (S : MS) (x1 : Int32) : Fn l D E a1 a2 yX7_self wsX7_self 3 67 [.ref (ad 0), .int x1] (cW E ad S) (some (.int (f_X7_self S x1))) (cW E ad S) := by
  refine Fn.of (cc := cX7_self) (maxL := 2) (ret := (some .int)) (own := RX7) (by decide) rfl rfl rfl (Nat.le_of_ble_eq_true rfl) (fun X h1 h2 h3 h4 h5 C hE => ?_)
  subst h1 h2 h3 h4 h5
  refine r_X7_self_0 C ad S x1 ?_
  simp only [f_X7_self] at hE
  exact hE
set_option maxRecDepth 20000 in
theorem ggX7_stands_X7_isStand : GoodIn wsX7_stands wsX7_isStand := goodIn_r _ [5, 6, 7, 8, 4, 9, 10, 11, 12, 13, 14, 15, 16, 17, 18, 46, 47, 48, 49, 50, 51, 52, 53, 54, 55, 56, 57] (by decide +kernel) (by decide +kernel)
set_option maxRecDepth 20000 in
theorem gX7_stands_X7_isStand : GoodIn wsX7_stands (wsV RX7 126 RX7 yX7_isStand wsX7_isStand) := goodIn_app (goodIn_of _ (by decide +kernel)) ggX7_stands_X7_isStand
set_option maxRecDepth 20000 in
theorem ggX7_stands_X7_canStand : GoodIn wsX7_stands wsX7_canStand := goodIn_r _ [22, 23, 14, 24, 25, 26, 27, 28, 29, 30, 31, 32, 33, 34, 35, 36, 37, 38, 39, 40, 41, 42, 43, 44, 45, 17, 4, 18, 46, 47, 48, 49, 50, 51, 52, 53, 54, 55, 56, 57, 58, 59, 60, 61, 62, 63] (by decide +kernel) (by decide +kernel)
set_option maxRecDepth 20000 in
theorem gX7_stands_X7_canStand : GoodIn wsX7_stands (wsV RX7 130 RX7 yX7_canStand wsX7_canStand) := goodIn_app (goodIn_of _ (by decide +kernel)) ggX7_stands_X7_canStand
theorem dX7_stands_0 : decode cX7_stands 0 = .ok (.aload_n 0, 1) := by decide +kernel
theorem dX7_stands_1 : decode cX7_stands 1 = .ok (.iload_n 1, 1) := by decide +kernel
theorem dX7_stands_2 : decode cX7_stands 2 = .ok (.iload_n 2, 1) := by decide +kernel
theorem dX7_stands_3 : decode cX7_stands 3 = .ok (.iload_n 3, 1) := by decide +kernel
theorem dX7_stands_4 : decode cX7_stands 4 = .ok (.invokevirtual 126, 3) := by decide +kernel
theorem dX7_stands_7 : decode cX7_stands 7 = .ok (.ifCond .ne 6, 3) := by decide +kernel
theorem dX7_stands_10 : decode cX7_stands 10 = .ok (.bipush (-2), 2) := by decide +kernel
theorem dX7_stands_12 : decode cX7_stands 12 = .ok (.ireturn, 1) := by decide +kernel
theorem dX7_stands_13 : decode cX7_stands 13 = .ok (.aload_n 0, 1) := by decide +kernel
theorem dX7_stands_14 : decode cX7_stands 14 = .ok (.iload_n 1, 1) := by decide +kernel
theorem dX7_stands_15 : decode cX7_stands 15 = .ok (.iload_n 2, 1) := by decide +kernel
theorem dX7_stands_16 : decode cX7_stands 16 = .ok (.iload_n 3, 1) := by decide +kernel
theorem dX7_stands_17 : decode cX7_stands 17 = .ok (.invokevirtual 130, 3) := by decide +kernel
theorem dX7_stands_20 : decode cX7_stands 20 = .ok (.ifCond .eq 7, 3) := by decide +kernel
theorem dX7_stands_23 : decode cX7_stands 23 = .ok (.iconst 1, 1) := by decide +kernel
theorem dX7_stands_24 : decode cX7_stands 24 = .ok (.goto 4, 3) := by decide +kernel
theorem dX7_stands_27 : decode cX7_stands 27 = .ok (.iconst 0, 1) := by decide +kernel
theorem dX7_stands_28 : decode cX7_stands 28 = .ok (.ireturn, 1) := by decide +kernel
set_option maxRecDepth 100000 in
theorem r_X7_stands_0 {X : Bn} (C : Cx X cX7_stands 4 RX7 wsX7_stands 4 87) (ad : Nat → Nat) (S : MS) (x1 : Int32) (x2 : Int32) (x3 : Int32) (h : (((f_X7_isStand S x1 x2 x3) = true) → (Ends X (some .int) (some (.int (b2i (if (f_X7_canStand S x1 x2 x3) then true else false)))) (cW X.E ad S))) ∧ ((f_X7_isStand S x1 x2 x3) = false → (Ends X (some .int) (some (.int (-2))) (cW X.E ad S)))) : At X 4 (cW X.E ad S) 0 [(0, .ref (ad 0)), (1, .int x1), (2, .int x2), (3, .int x3)] [] := by
  refine at_aload_n C dX7_stands_0 rfl (j := 0) rfl ?_
  refine at_iload_n C dX7_stands_1 rfl (j := 1) rfl ?_
  refine at_iload_n C dX7_stands_2 rfl (j := 2) rfl ?_
  refine at_iload_n C dX7_stands_3 rfl (j := 3) rfl ?_
  refine at_cV1 C 3 (c_X7_isStand X.l X.D X.E X.a1 X.a2 ad S x1 x2 x3) gX7_stands_X7_isStand rfl (by decide +kernel) ⟨rfl, rfl⟩ rfl rfl rfl 0 cW_c0 rfl dX7_stands_4 ?_
  refine at_ifB_ne C dX7_stands_7 (tgt := 13) (by decide) (fun hc1 => ?_) (fun hc1 => ?_)
  · replace h := h.1 hc1
    refine at_aload_n C dX7_stands_13 rfl (j := 0) rfl ?_
    refine at_iload_n C dX7_stands_14 rfl (j := 1) rfl ?_
    refine at_iload_n C dX7_stands_15 rfl (j := 2) rfl ?_
    refine at_iload_n C dX7_stands_16 rfl (j := 3) rfl ?_
    refine at_cV1 C 3 (c_X7_canStand X.l X.D X.E X.a1 X.a2 ad S x1 x2 x3) gX7_stands_X7_canStand rfl (by decide +kernel) ⟨rfl, rfl⟩ rfl rfl rfl 0 cW_c0 rfl dX7_stands_17 ?_
    have K : At X 4 (cW X.E ad S) 28 [] [.int (b2i (if (f_X7_canStand S x1 x2 x3) then true else false))] := by
      exact at_iret C dX7_stands_28 h
    refine at_ifB_eq C dX7_stands_20 (tgt := 27) (by decide) (fun hc2 => ?_) (fun hc2 => ?_)
    · skip
      refine at_iconst C dX7_stands_27 (v := 0) rfl ?_
      refine at_lv [] rfl ?_
      first | (simp only [if_neg (show ¬ (f_X7_canStand S x1 x2 x3) = true by rw [hc2]; decide)] at K; exact K) | exact K
    · skip
      refine at_iconst C dX7_stands_23 (v := 1) rfl ?_
      refine at_goto C dX7_stands_24 (tgt := 28) (by decide) ?_
      refine at_lv [] rfl ?_
      first | (simp only [if_pos hc2] at K; exact K) | exact K
  · replace h := h.2 hc1
    refine at_bipush C dX7_stands_10 (v := (-2)) rfl ?_
    exact at_iret C dX7_stands_12 h
def f_X7_stands (S : MS) (x1 : Int32) (x2 : Int32) (x3 : Int32) : Int32 := if (f_X7_isStand S x1 x2 x3) then (b2i (if (f_X7_canStand S x1 x2 x3) then true else false)) else (-2)
set_option maxRecDepth 100000 in
theorem c_X7_stands (l : Launch) (D : va_G) (E : Nat → ClassId) (a1 a2 : Nat) (ad : Nat → Nat) (S : MS) (x1 : Int32) (x2 : Int32) (x3 : Int32) : Fn l D E a1 a2 yX7_stands wsX7_stands 4 87 [.ref (ad 0), .int x1, .int x2, .int x3] (cW E ad S) (some (.int (f_X7_stands S x1 x2 x3))) (cW E ad S) := by
  refine Fn.of (cc := cX7_stands) (maxL := 4) (ret := (some .int)) (own := RX7) (by decide) rfl rfl rfl (Nat.le_of_ble_eq_true rfl) (fun X h1 h2 h3 h4 h5 C hE => ?_)
  subst h1 h2 h3 h4 h5
  refine r_X7_stands_0 C ad S x1 x2 x3 ?_
  refine ⟨fun hc0 => ?_, fun hc0 => ?_⟩
  · simp only [f_X7_stands, if_pos hc0] at hE
    exact hE
  · simp only [f_X7_stands, if_neg (show ¬ (f_X7_isStand S x1 x2 x3) = true by rw [hc0]; decide)] at hE
    exact hE
set_option maxRecDepth 20000 in
theorem ggX7_meet_X7_isStand : GoodIn wsX7_meet wsX7_isStand := goodIn_r _ [6, 7, 8, 9, 5, 10, 11, 12, 13, 14, 1, 15, 16, 17, 18, 49, 50, 51, 52, 53, 54, 55, 56, 57, 58, 59, 60] (by decide +kernel) (by decide +kernel)
set_option maxRecDepth 20000 in
theorem gX7_meet_X7_isStand : GoodIn wsX7_meet (wsV RX7 126 RX7 yX7_isStand wsX7_isStand) := goodIn_app (goodIn_of _ (by decide +kernel)) ggX7_meet_X7_isStand
set_option maxRecDepth 20000 in
theorem ggX7_meet_X7_canStand : GoodIn wsX7_meet wsX7_canStand := goodIn_r _ [22, 23, 1, 24, 25, 26, 27, 28, 29, 30, 31, 32, 33, 34, 35, 36, 37, 38, 39, 40, 41, 42, 43, 44, 45, 17, 5, 18, 49, 50, 51, 52, 53, 54, 55, 56, 57, 58, 59, 60, 61, 62, 63, 64, 65, 66] (by decide +kernel) (by decide +kernel)
set_option maxRecDepth 20000 in
theorem gX7_meet_X7_canStand : GoodIn wsX7_meet (wsV RX7 130 RX7 yX7_canStand wsX7_canStand) := goodIn_app (goodIn_of _ (by decide +kernel)) ggX7_meet_X7_canStand
set_option maxRecDepth 20000 in
theorem ggX7_meet_X3_rowsOf : GoodIn wsX7_meet wsX3_rowsOf := goodIn_r _ [28, 29, 57, 58, 59, 60] (by decide +kernel) (by decide +kernel)
set_option maxRecDepth 20000 in
theorem gX7_meet_X3_rowsOf : GoodIn wsX7_meet (wsV RX7 85 RX3 yX3_rowsOf wsX3_rowsOf) := goodIn_app (goodIn_of _ (by decide +kernel)) ggX7_meet_X3_rowsOf
set_option maxRecDepth 20000 in
theorem ggX7_meet_X1_cellsCovered : GoodIn wsX7_meet wsX1_cellsCovered := goodIn_r _ [48, 38, 39, 40, 41, 42, 17, 5, 18] (by decide +kernel) (by decide +kernel)
set_option maxRecDepth 20000 in
theorem gX7_meet_X1_cellsCovered : GoodIn wsX7_meet (va_wsS RX7 144 yX1_cellsCovered wsX1_cellsCovered) := goodIn_app (goodIn_of _ (by decide +kernel)) ggX7_meet_X1_cellsCovered
theorem dX7_meet_0 : decode cX7_meet 0 = .ok (.aload_n 0, 1) := by decide +kernel
theorem dX7_meet_1 : decode cX7_meet 1 = .ok (.iload_n 1, 1) := by decide +kernel
theorem dX7_meet_2 : decode cX7_meet 2 = .ok (.iload_n 2, 1) := by decide +kernel
theorem dX7_meet_3 : decode cX7_meet 3 = .ok (.iload_n 3, 1) := by decide +kernel
theorem dX7_meet_4 : decode cX7_meet 4 = .ok (.invokevirtual 126, 3) := by decide +kernel
theorem dX7_meet_7 : decode cX7_meet 7 = .ok (.ifCond .eq 16, 3) := by decide +kernel
theorem dX7_meet_10 : decode cX7_meet 10 = .ok (.aload_n 0, 1) := by decide +kernel
theorem dX7_meet_11 : decode cX7_meet 11 = .ok (.iload 4, 2) := by decide +kernel
theorem dX7_meet_13 : decode cX7_meet 13 = .ok (.iload 5, 2) := by decide +kernel
theorem dX7_meet_15 : decode cX7_meet 15 = .ok (.iload 6, 2) := by decide +kernel
theorem dX7_meet_17 : decode cX7_meet 17 = .ok (.invokevirtual 126, 3) := by decide +kernel
theorem dX7_meet_20 : decode cX7_meet 20 = .ok (.ifCond .ne 6, 3) := by decide +kernel
theorem dX7_meet_23 : decode cX7_meet 23 = .ok (.bipush (-2), 2) := by decide +kernel
theorem dX7_meet_25 : decode cX7_meet 25 = .ok (.ireturn, 1) := by decide +kernel
theorem dX7_meet_26 : decode cX7_meet 26 = .ok (.aload_n 0, 1) := by decide +kernel
theorem dX7_meet_27 : decode cX7_meet 27 = .ok (.iload_n 1, 1) := by decide +kernel
theorem dX7_meet_28 : decode cX7_meet 28 = .ok (.iload_n 2, 1) := by decide +kernel
theorem dX7_meet_29 : decode cX7_meet 29 = .ok (.iload_n 3, 1) := by decide +kernel
theorem dX7_meet_30 : decode cX7_meet 30 = .ok (.invokevirtual 130, 3) := by decide +kernel
theorem dX7_meet_33 : decode cX7_meet 33 = .ok (.ifCond .eq 16, 3) := by decide +kernel
theorem dX7_meet_36 : decode cX7_meet 36 = .ok (.aload_n 0, 1) := by decide +kernel
theorem dX7_meet_37 : decode cX7_meet 37 = .ok (.iload 4, 2) := by decide +kernel
theorem dX7_meet_39 : decode cX7_meet 39 = .ok (.iload 5, 2) := by decide +kernel
theorem dX7_meet_41 : decode cX7_meet 41 = .ok (.iload 6, 2) := by decide +kernel
theorem dX7_meet_43 : decode cX7_meet 43 = .ok (.invokevirtual 130, 3) := by decide +kernel
theorem dX7_meet_46 : decode cX7_meet 46 = .ok (.ifCond .ne 5, 3) := by decide +kernel
theorem dX7_meet_49 : decode cX7_meet 49 = .ok (.iconst 0, 1) := by decide +kernel
theorem dX7_meet_50 : decode cX7_meet 50 = .ok (.ireturn, 1) := by decide +kernel
theorem dX7_meet_51 : decode cX7_meet 51 = .ok (.aload_n 0, 1) := by decide +kernel
theorem dX7_meet_52 : decode cX7_meet 52 = .ok (.getfield 24, 3) := by decide +kernel
theorem dX7_meet_55 : decode cX7_meet 55 = .ok (.iload_n 1, 1) := by decide +kernel
theorem dX7_meet_56 : decode cX7_meet 56 = .ok (.iload_n 2, 1) := by decide +kernel
theorem dX7_meet_57 : decode cX7_meet 57 = .ok (.invokevirtual 85, 3) := by decide +kernel
theorem dX7_meet_60 : decode cX7_meet 60 = .ok (.iload_n 3, 1) := by decide +kernel
theorem dX7_meet_61 : decode cX7_meet 61 = .ok (.invokestatic 144, 3) := by decide +kernel
theorem dX7_meet_64 : decode cX7_meet 64 = .ok (.lstore 7, 2) := by decide +kernel
theorem dX7_meet_66 : decode cX7_meet 66 = .ok (.aload_n 0, 1) := by decide +kernel
theorem dX7_meet_67 : decode cX7_meet 67 = .ok (.getfield 24, 3) := by decide +kernel
theorem dX7_meet_70 : decode cX7_meet 70 = .ok (.iload 4, 2) := by decide +kernel
theorem dX7_meet_72 : decode cX7_meet 72 = .ok (.iload 5, 2) := by decide +kernel
theorem dX7_meet_74 : decode cX7_meet 74 = .ok (.invokevirtual 85, 3) := by decide +kernel
theorem dX7_meet_77 : decode cX7_meet 77 = .ok (.iload 6, 2) := by decide +kernel
theorem dX7_meet_79 : decode cX7_meet 79 = .ok (.invokestatic 144, 3) := by decide +kernel
theorem dX7_meet_82 : decode cX7_meet 82 = .ok (.lstore 9, 2) := by decide +kernel
theorem dX7_meet_84 : decode cX7_meet 84 = .ok (.lload 7, 2) := by decide +kernel
theorem dX7_meet_86 : decode cX7_meet 86 = .ok (.lload 9, 2) := by decide +kernel
theorem dX7_meet_88 : decode cX7_meet 88 = .ok (.land, 1) := by decide +kernel
theorem dX7_meet_89 : decode cX7_meet 89 = .ok (.lconst 0, 1) := by decide +kernel
theorem dX7_meet_90 : decode cX7_meet 90 = .ok (.lcmp, 1) := by decide +kernel
theorem dX7_meet_91 : decode cX7_meet 91 = .ok (.ifCond .ne 7, 3) := by decide +kernel
theorem dX7_meet_94 : decode cX7_meet 94 = .ok (.iconst 1, 1) := by decide +kernel
theorem dX7_meet_95 : decode cX7_meet 95 = .ok (.goto 4, 3) := by decide +kernel
theorem dX7_meet_98 : decode cX7_meet 98 = .ok (.iconst 0, 1) := by decide +kernel
theorem dX7_meet_99 : decode cX7_meet 99 = .ok (.ireturn, 1) := by decide +kernel
theorem iw_X7_meet_X7 : ∀ w ∈ u_ws RX7 TX7 8, w ∈ wsX7_meet := by decide +kernel
theorem lk_X7_meet_0 : Cond.fieldLink RX7 24 (TX7 2).1 (TX7 2).2.1 (TX7 2).2.2.1 ∈ wsX7_meet := by decide +kernel
set_option maxRecDepth 100000 in
theorem r_X7_meet_0 {X : Bn} (C : Cx X cX7_meet 11 RX7 wsX7_meet 4 87) (ad : Nat → Nat) (S : MS) (x1 : Int32) (x2 : Int32) (x3 : Int32) (x4 : Int32) (x5 : Int32) (x6 : Int32) (h : (((f_X7_isStand S x1 x2 x3) = true) → ((((f_X7_isStand S x4 x5 x6) = true) → ((((f_X7_canStand S x1 x2 x3) = true) → ((((f_X7_canStand S x4 x5 x6) = true) → (Ends X (some .int) (some (.int (b2i (if (f_X1_cellsCovered (f_X3_rowsOf S x1 x2) x3) &&& (f_X1_cellsCovered (f_X3_rowsOf S x4 x5) x6) = 0 then true else false)))) (cW X.E ad S))) ∧ ((f_X7_canStand S x4 x5 x6) = false → (Ends X (some .int) (some (.int 0)) (cW X.E ad S))))) ∧ ((f_X7_canStand S x1 x2 x3) = false → (Ends X (some .int) (some (.int 0)) (cW X.E ad S))))) ∧ ((f_X7_isStand S x4 x5 x6) = false → (Ends X (some .int) (some (.int (-2))) (cW X.E ad S))))) ∧ ((f_X7_isStand S x1 x2 x3) = false → (Ends X (some .int) (some (.int (-2))) (cW X.E ad S)))) : At X 11 (cW X.E ad S) 0 [(0, .ref (ad 0)), (1, .int x1), (2, .int x2), (3, .int x3), (4, .int x4), (5, .int x5), (6, .int x6)] [] := by
  refine at_aload_n C dX7_meet_0 rfl (j := 0) rfl ?_
  refine at_iload_n C dX7_meet_1 rfl (j := 1) rfl ?_
  refine at_iload_n C dX7_meet_2 rfl (j := 2) rfl ?_
  refine at_iload_n C dX7_meet_3 rfl (j := 3) rfl ?_
  refine at_cV1 C 3 (c_X7_isStand X.l X.D X.E X.a1 X.a2 ad S x1 x2 x3) gX7_meet_X7_isStand rfl (by decide +kernel) ⟨rfl, rfl⟩ rfl rfl rfl 0 cW_c0 rfl dX7_meet_4 ?_
  refine at_ifB_eq C dX7_meet_7 (tgt := 23) (by decide) (fun hc4 => ?_) (fun hc4 => ?_)
  · replace h := h.2 hc4
    refine at_bipush C dX7_meet_23 (v := (-2)) rfl ?_
    exact at_iret C dX7_meet_25 h
  · replace h := h.1 hc4
    refine at_aload_n C dX7_meet_10 rfl (j := 0) rfl ?_
    refine at_iload C dX7_meet_11 (j := 4) rfl ?_
    refine at_iload C dX7_meet_13 (j := 5) rfl ?_
    refine at_iload C dX7_meet_15 (j := 6) rfl ?_
    refine at_cV1 C 3 (c_X7_isStand X.l X.D X.E X.a1 X.a2 ad S x4 x5 x6) gX7_meet_X7_isStand rfl (by decide +kernel) ⟨rfl, rfl⟩ rfl rfl rfl 0 cW_c0 rfl dX7_meet_17 ?_
    refine at_ifB_ne C dX7_meet_20 (tgt := 26) (by decide) (fun hc5 => ?_) (fun hc5 => ?_)
    · replace h := h.1 hc5
      refine at_aload_n C dX7_meet_26 rfl (j := 0) rfl ?_
      refine at_iload_n C dX7_meet_27 rfl (j := 1) rfl ?_
      refine at_iload_n C dX7_meet_28 rfl (j := 2) rfl ?_
      refine at_iload_n C dX7_meet_29 rfl (j := 3) rfl ?_
      refine at_cV1 C 3 (c_X7_canStand X.l X.D X.E X.a1 X.a2 ad S x1 x2 x3) gX7_meet_X7_canStand rfl (by decide +kernel) ⟨rfl, rfl⟩ rfl rfl rfl 0 cW_c0 rfl dX7_meet_30 ?_
      refine at_ifB_eq C dX7_meet_33 (tgt := 49) (by decide) (fun hc6 => ?_) (fun hc6 => ?_)
      · replace h := h.2 hc6
        refine at_iconst C dX7_meet_49 (v := 0) rfl ?_
        exact at_iret C dX7_meet_50 h
      · replace h := h.1 hc6
        refine at_aload_n C dX7_meet_36 rfl (j := 0) rfl ?_
        refine at_iload C dX7_meet_37 (j := 4) rfl ?_
        refine at_iload C dX7_meet_39 (j := 5) rfl ?_
        refine at_iload C dX7_meet_41 (j := 6) rfl ?_
        refine at_cV1 C 3 (c_X7_canStand X.l X.D X.E X.a1 X.a2 ad S x4 x5 x6) gX7_meet_X7_canStand rfl (by decide +kernel) ⟨rfl, rfl⟩ rfl rfl rfl 0 cW_c0 rfl dX7_meet_43 ?_
        refine at_ifB_ne C dX7_meet_46 (tgt := 51) (by decide) (fun hc7 => ?_) (fun hc7 => ?_)
        · replace h := h.1 hc7
          refine at_aload_n C dX7_meet_51 rfl (j := 0) rfl ?_
          refine at_get C (K := RX7) (T := TX7) (N := 8) (ci := 6) (v := .ref (ad 5)) iw_X7_meet_X7 0 cW_c0 rfl 2 (by decide) lk_X7_meet_0 rfl dX7_meet_52 ?_
          refine at_iload_n C dX7_meet_55 rfl (j := 1) rfl ?_
          refine at_iload_n C dX7_meet_56 rfl (j := 2) rfl ?_
          refine at_cV1 C 2 (e_X3_rowsOf X.l X.D X.E X.a1 X.a2 ad S x1 x2) gX7_meet_X3_rowsOf rfl (by decide +kernel) ⟨rfl, rfl⟩ rfl rfl rfl 5 cW_c5 rfl dX7_meet_57 ?_
          refine at_iload_n C dX7_meet_60 rfl (j := 3) rfl ?_
          refine at_cS0 C 2 (c_X1_cellsCovered X.l X.D X.E X.a1 X.a2 (f_X3_rowsOf S x1 x2) x3) gX7_meet_X1_cellsCovered rfl (by decide +kernel) ⟨rfl, rfl⟩ rfl rfl rfl dX7_meet_61 ?_
          refine at_lstore C dX7_meet_64 (by decide) (lv' := [(7, .long (f_X1_cellsCovered (f_X3_rowsOf S x1 x2) x3)), (0, .ref (ad 0)), (1, .int x1), (2, .int x2), (3, .int x3), (4, .int x4), (5, .int x5), (6, .int x6)]) rfl ?_
          refine at_aload_n C dX7_meet_66 rfl (j := 1) rfl ?_
          refine at_get C (K := RX7) (T := TX7) (N := 8) (ci := 6) (v := .ref (ad 5)) iw_X7_meet_X7 0 cW_c0 rfl 2 (by decide) lk_X7_meet_0 rfl dX7_meet_67 ?_
          refine at_iload C dX7_meet_70 (j := 5) rfl ?_
          refine at_iload C dX7_meet_72 (j := 6) rfl ?_
          refine at_cV1 C 2 (e_X3_rowsOf X.l X.D X.E X.a1 X.a2 ad S x4 x5) gX7_meet_X3_rowsOf rfl (by decide +kernel) ⟨rfl, rfl⟩ rfl rfl rfl 5 cW_c5 rfl dX7_meet_74 ?_
          refine at_iload C dX7_meet_77 (j := 7) rfl ?_
          refine at_cS0 C 2 (c_X1_cellsCovered X.l X.D X.E X.a1 X.a2 (f_X3_rowsOf S x4 x5) x6) gX7_meet_X1_cellsCovered rfl (by decide +kernel) ⟨rfl, rfl⟩ rfl rfl rfl dX7_meet_79 ?_
          refine at_lstore C dX7_meet_82 (by decide) (lv' := [(9, .long (f_X1_cellsCovered (f_X3_rowsOf S x4 x5) x6)), (7, .long (f_X1_cellsCovered (f_X3_rowsOf S x1 x2) x3)), (0, .ref (ad 0)), (1, .int x1), (2, .int x2), (3, .int x3), (4, .int x4), (5, .int x5), (6, .int x6)]) rfl ?_
          refine at_lload C dX7_meet_84 (j := 1) rfl ?_
          refine at_lload C dX7_meet_86 (j := 0) rfl ?_
          refine at_land C dX7_meet_88 ?_
          refine at_lconst C dX7_meet_89 (v := 0) rfl ?_
          have K : At X 11 (cW X.E ad S) 99 [] [.int (b2i (if (f_X1_cellsCovered (f_X3_rowsOf S x1 x2) x3) &&& (f_X1_cellsCovered (f_X3_rowsOf S x4 x5) x6) = 0 then true else false))] := by
            exact at_iret C dX7_meet_99 h
          refine at_lif_ne C dX7_meet_90 dX7_meet_91 (tgt := 98) (by decide) (fun hc8 => ?_) (fun hc8 => ?_)
          · skip
            refine at_iconst C dX7_meet_98 (v := 0) rfl ?_
            refine at_lv [] rfl ?_
            first | (simp only [if_neg hc8] at K; exact K) | exact K
          · skip
            refine at_iconst C dX7_meet_94 (v := 1) rfl ?_
            refine at_goto C dX7_meet_95 (tgt := 99) (by decide) ?_
            refine at_lv [] rfl ?_
            first | (simp only [if_pos hc8] at K; exact K) | exact K
        · replace h := h.2 hc7
          refine at_iconst C dX7_meet_49 (v := 0) rfl ?_
          exact at_iret C dX7_meet_50 h
    · replace h := h.2 hc5
      refine at_bipush C dX7_meet_23 (v := (-2)) rfl ?_
      exact at_iret C dX7_meet_25 h
def f_X7_meet (S : MS) (x1 : Int32) (x2 : Int32) (x3 : Int32) (x4 : Int32) (x5 : Int32) (x6 : Int32) : Int32 := if (f_X7_isStand S x1 x2 x3) then (if (f_X7_isStand S x4 x5 x6) then (if (f_X7_canStand S x1 x2 x3) then (if (f_X7_canStand S x4 x5 x6) then (b2i (if (f_X1_cellsCovered (f_X3_rowsOf S x1 x2) x3) &&& (f_X1_cellsCovered (f_X3_rowsOf S x4 x5) x6) = 0 then true else false)) else 0) else 0) else (-2)) else (-2)
set_option maxRecDepth 100000 in
theorem c_X7_meet (l : Launch) (D : va_G) (E : Nat → ClassId) (a1 a2 : Nat) (ad : Nat → Nat) (S : MS) (x1 : Int32) (x2 : Int32) (x3 : Int32) (x4 : Int32) (x5 : Int32) (x6 : Int32) : Fn l D E a1 a2 yX7_meet wsX7_meet 4 87 [.ref (ad 0), .int x1, .int x2, .int x3, .int x4, .int x5, .int x6] (cW E ad S) (some (.int (f_X7_meet S x1 x2 x3 x4 x5 x6))) (cW E ad S) := by
  refine Fn.of (cc := cX7_meet) (maxL := 11) (ret := (some .int)) (own := RX7) (by decide) rfl rfl rfl (Nat.le_of_ble_eq_true rfl) (fun X h1 h2 h3 h4 h5 C hE => ?_)
  subst h1 h2 h3 h4 h5
  refine r_X7_meet_0 C ad S x1 x2 x3 x4 x5 x6 ?_
  refine ⟨fun hc0 => ?_, fun hc0 => ?_⟩
  · refine ⟨fun hc1 => ?_, fun hc1 => ?_⟩
    · refine ⟨fun hc2 => ?_, fun hc2 => ?_⟩
      · refine ⟨fun hc3 => ?_, fun hc3 => ?_⟩
        · simp only [f_X7_meet, if_pos hc0, if_pos hc1, if_pos hc2, if_pos hc3] at hE
          exact hE
        · simp only [f_X7_meet, if_pos hc0, if_pos hc1, if_pos hc2, if_neg (show ¬ (f_X7_canStand S x4 x5 x6) = true by rw [hc3]; decide)] at hE
          exact hE
      · simp only [f_X7_meet, if_pos hc0, if_pos hc1, if_neg (show ¬ (f_X7_canStand S x1 x2 x3) = true by rw [hc2]; decide)] at hE
        exact hE
    · simp only [f_X7_meet, if_pos hc0, if_neg (show ¬ (f_X7_isStand S x4 x5 x6) = true by rw [hc1]; decide)] at hE
      exact hE
  · simp only [f_X7_meet, if_neg (show ¬ (f_X7_isStand S x1 x2 x3) = true by rw [hc0]; decide)] at hE
    exact hE
set_option maxRecDepth 20000 in
theorem ggX7_seen_X0_mayBe : GoodIn wsX7_seen wsX0_mayBe := goodIn_r _ [6, 7, 8, 9] (by decide +kernel) (by decide +kernel)
set_option maxRecDepth 20000 in
theorem gX7_seen_X0_mayBe : GoodIn wsX7_seen (va_wsS RX7 148 yX0_mayBe wsX0_mayBe) := goodIn_app (goodIn_of _ (by decide +kernel)) ggX7_seen_X0_mayBe
set_option maxRecDepth 20000 in
theorem ggX7_seen_X0_add : GoodIn wsX7_seen wsX0_add := goodIn_r _ [13, 14, 15, 16, 7, 8, 9, 25, 26, 27, 28] (by decide +kernel) (by decide +kernel)
set_option maxRecDepth 20000 in
theorem gX7_seen_X0_add : GoodIn wsX7_seen (wsV RX7 151 RX0 yX0_add wsX0_add) := goodIn_app (goodIn_of _ (by decide +kernel)) ggX7_seen_X0_add
theorem dX7_seen_0 : decode cX7_seen 0 = .ok (.iload_n 1, 1) := by decide +kernel
theorem dX7_seen_1 : decode cX7_seen 1 = .ok (.iload_n 2, 1) := by decide +kernel
theorem dX7_seen_2 : decode cX7_seen 2 = .ok (.invokestatic 148, 3) := by decide +kernel
theorem dX7_seen_5 : decode cX7_seen 5 = .ok (.ifCond .ne 6, 3) := by decide +kernel
theorem dX7_seen_8 : decode cX7_seen 8 = .ok (.bipush (-2), 2) := by decide +kernel
theorem dX7_seen_10 : decode cX7_seen 10 = .ok (.ireturn, 1) := by decide +kernel
theorem dX7_seen_11 : decode cX7_seen 11 = .ok (.aload_n 0, 1) := by decide +kernel
theorem dX7_seen_12 : decode cX7_seen 12 = .ok (.getfield 45, 3) := by decide +kernel
theorem dX7_seen_15 : decode cX7_seen 15 = .ok (.iload_n 1, 1) := by decide +kernel
theorem dX7_seen_16 : decode cX7_seen 16 = .ok (.iload_n 2, 1) := by decide +kernel
theorem dX7_seen_17 : decode cX7_seen 17 = .ok (.invokevirtual 151, 3) := by decide +kernel
theorem dX7_seen_20 : decode cX7_seen 20 = .ok (.ifCond .eq 13, 3) := by decide +kernel
theorem dX7_seen_23 : decode cX7_seen 23 = .ok (.aload_n 0, 1) := by decide +kernel
theorem dX7_seen_24 : decode cX7_seen 24 = .ok (.getfield 45, 3) := by decide +kernel
theorem dX7_seen_27 : decode cX7_seen 27 = .ok (.getfield 154, 3) := by decide +kernel
theorem dX7_seen_30 : decode cX7_seen 30 = .ok (.goto 5, 3) := by decide +kernel
theorem dX7_seen_33 : decode cX7_seen 33 = .ok (.bipush (-4), 2) := by decide +kernel
theorem dX7_seen_35 : decode cX7_seen 35 = .ok (.ireturn, 1) := by decide +kernel
theorem iw_X7_seen_X0 : ∀ w ∈ u_ws RX0 TX0 4, w ∈ wsX7_seen := by decide +kernel
theorem iw_X7_seen_X7 : ∀ w ∈ u_ws RX7 TX7 8, w ∈ wsX7_seen := by decide +kernel
theorem lk_X7_seen_0 : Cond.fieldLink RX7 45 (TX7 5).1 (TX7 5).2.1 (TX7 5).2.2.1 ∈ wsX7_seen := by decide +kernel
theorem lk_X7_seen_1 : Cond.fieldLink RX7 154 (TX0 3).1 (TX0 3).2.1 (TX0 3).2.2.1 ∈ wsX7_seen := by decide +kernel
set_option maxRecDepth 100000 in
theorem r_X7_seen_0 {X : Bn} (C : Cx X cX7_seen 3 RX7 wsX7_seen 2 43) (ad : Nat → Nat) (S : MS) (x1 : Int32) (x2 : Int32) (h : (((f_X0_mayBe x1 x2) = true) → (Ends X (some .int) (some (.int (if (f_X0_add S x1 x2) then (s_X0_add S x1 x2).1 15 0 else (-4)))) (cW X.E ad (s_X0_add S x1 x2)))) ∧ ((f_X0_mayBe x1 x2) = false → (Ends X (some .int) (some (.int (-2))) (cW X.E ad S)))) : At X 3 (cW X.E ad S) 0 [(0, .ref (ad 0)), (1, .int x1), (2, .int x2)] [] := by
  refine at_iload_n C dX7_seen_0 rfl (j := 1) rfl ?_
  refine at_iload_n C dX7_seen_1 rfl (j := 2) rfl ?_
  refine at_cS0 C 2 (c_X0_mayBe X.l X.D X.E X.a1 X.a2 x1 x2) gX7_seen_X0_mayBe rfl (by decide +kernel) ⟨rfl, rfl⟩ rfl rfl rfl dX7_seen_2 ?_
  refine at_ifB_ne C dX7_seen_5 (tgt := 11) (by decide) (fun hc1 => ?_) (fun hc1 => ?_)
  · replace h := h.1 hc1
    refine at_aload_n C dX7_seen_11 rfl (j := 0) rfl ?_
    refine at_get C (K := RX7) (T := TX7) (N := 8) (ci := 6) (v := .ref (ad 15)) iw_X7_seen_X7 0 cW_c0 rfl 5 (by decide) lk_X7_seen_0 rfl dX7_seen_12 ?_
    refine at_iload_n C dX7_seen_15 rfl (j := 1) rfl ?_
    refine at_iload_n C dX7_seen_16 rfl (j := 2) rfl ?_
    refine at_cV1 C 2 (e_X0_add X.l X.D X.E X.a1 X.a2 ad S x1 x2) gX7_seen_X0_add rfl (by decide +kernel) ⟨rfl, rfl⟩ rfl rfl rfl 15 cW_c15 rfl dX7_seen_17 ?_
    have K : At X 3 (cW X.E ad (s_X0_add S x1 x2)) 35 [] [.int (if (f_X0_add S x1 x2) then (s_X0_add S x1 x2).1 15 0 else (-4))] := by
      exact at_iret C dX7_seen_35 h
    refine at_ifB_eq C dX7_seen_20 (tgt := 33) (by decide) (fun hc2 => ?_) (fun hc2 => ?_)
    · skip
      refine at_bipush C dX7_seen_33 (v := (-4)) rfl ?_
      refine at_lv [] rfl ?_
      first | (simp only [if_neg (show ¬ (f_X0_add S x1 x2) = true by rw [hc2]; decide)] at K; exact K) | exact K
    · skip
      refine at_aload_n C dX7_seen_23 rfl (j := 0) rfl ?_
      refine at_get C (K := RX7) (T := TX7) (N := 8) (ci := 6) (v := .ref (ad 15)) iw_X7_seen_X7 0 cW_c0 rfl 5 (by decide) lk_X7_seen_0 rfl dX7_seen_24 ?_
      refine at_get C (K := RX0) (T := TX0) (N := 4) (ci := 0) (v := .int ((s_X0_add S x1 x2).1 15 0)) iw_X7_seen_X0 15 cW_c15 rfl 3 (by decide) lk_X7_seen_1 rfl dX7_seen_27 ?_
      refine at_goto C dX7_seen_30 (tgt := 35) (by decide) ?_
      refine at_lv [] rfl ?_
      first | (simp only [if_pos hc2] at K; exact K) | exact K
  · replace h := h.2 hc1
    refine at_bipush C dX7_seen_8 (v := (-2)) rfl ?_
    exact at_iret C dX7_seen_10 h
def f_X7_seen (S : MS) (x1 : Int32) (x2 : Int32) : Int32 := if (f_X0_mayBe x1 x2) then (if (f_X0_add S x1 x2) then (s_X0_add S x1 x2).1 15 0 else (-4)) else (-2)
def s_X7_seen (S : MS) (x1 : Int32) (x2 : Int32) : MS := if (f_X0_mayBe x1 x2) then (s_X0_add S x1 x2) else S
set_option maxRecDepth 100000 in
theorem c_X7_seen (l : Launch) (D : va_G) (E : Nat → ClassId) (a1 a2 : Nat) (ad : Nat → Nat) (S : MS) (x1 : Int32) (x2 : Int32) : Fn l D E a1 a2 yX7_seen wsX7_seen 2 43 [.ref (ad 0), .int x1, .int x2] (cW E ad S) (some (.int (f_X7_seen S x1 x2))) (cW E ad (s_X7_seen S x1 x2)) := by
  refine Fn.of (cc := cX7_seen) (maxL := 3) (ret := (some .int)) (own := RX7) (by decide) rfl rfl (sameC _ _ _ _) (Nat.le_of_ble_eq_true rfl) (fun X h1 h2 h3 h4 h5 C hE => ?_)
  subst h1 h2 h3 h4 h5
  refine r_X7_seen_0 C ad S x1 x2 ?_
  refine ⟨fun hc0 => ?_, fun hc0 => ?_⟩
  · simp only [f_X7_seen, s_X7_seen, if_pos hc0] at hE
    exact hE
  · simp only [f_X7_seen, s_X7_seen, if_neg (show ¬ (f_X0_mayBe x1 x2) = true by rw [hc0]; decide)] at hE
    exact hE
set_option maxRecDepth 20000 in
theorem ggX7_fits_X7_within : GoodIn wsX7_fits wsX7_within := goodIn_r _ [6] (by decide +kernel) (by decide +kernel)
set_option maxRecDepth 20000 in
theorem gX7_fits_X7_within : GoodIn wsX7_fits (va_wsS RX7 64 yX7_within wsX7_within) := goodIn_app (goodIn_of _ (by decide +kernel)) ggX7_fits_X7_within
set_option maxRecDepth 20000 in
theorem ggX7_fits_X0_fittingPairs : GoodIn wsX7_fits wsX0_fittingPairs := goodIn_r _ [11, 12, 13, 14, 15, 10, 16, 17, 18, 19, 20, 21, 22, 23, 24, 25, 38, 39, 40, 41, 42, 43, 44, 45] (by decide +kernel) (by decide +kernel)
set_option maxRecDepth 20000 in
theorem gX7_fits_X0_fittingPairs : GoodIn wsX7_fits (wsV RX7 157 RX0 yX0_fittingPairs wsX0_fittingPairs) := goodIn_app (goodIn_of _ (by decide +kernel)) ggX7_fits_X0_fittingPairs
set_option maxRecDepth 20000 in
theorem ggX7_fits_X0_fittingShapes : GoodIn wsX7_fits wsX0_fittingShapes := goodIn_r _ [29, 12, 13, 14, 15, 10, 16, 17, 18, 19, 20, 21, 22, 23, 24, 25, 38, 39, 40, 41, 42, 43, 44, 45] (by decide +kernel) (by decide +kernel)
set_option maxRecDepth 20000 in
theorem gX7_fits_X0_fittingShapes : GoodIn wsX7_fits (wsV RX7 161 RX0 yX0_fittingShapes wsX0_fittingShapes) := goodIn_app (goodIn_of _ (by decide +kernel)) ggX7_fits_X0_fittingShapes
theorem dX7_fits_0 : decode cX7_fits 0 = .ok (.iload_n 1, 1) := by decide +kernel
theorem dX7_fits_1 : decode cX7_fits 1 = .ok (.iconst 2, 1) := by decide +kernel
theorem dX7_fits_2 : decode cX7_fits 2 = .ok (.invokestatic 64, 3) := by decide +kernel
theorem dX7_fits_5 : decode cX7_fits 5 = .ok (.ifCond .ne 6, 3) := by decide +kernel
theorem dX7_fits_8 : decode cX7_fits 8 = .ok (.bipush (-2), 2) := by decide +kernel
theorem dX7_fits_10 : decode cX7_fits 10 = .ok (.ireturn, 1) := by decide +kernel
theorem dX7_fits_11 : decode cX7_fits 11 = .ok (.iload_n 1, 1) := by decide +kernel
theorem dX7_fits_12 : decode cX7_fits 12 = .ok (.ifCond .ne 17, 3) := by decide +kernel
theorem dX7_fits_15 : decode cX7_fits 15 = .ok (.aload_n 0, 1) := by decide +kernel
theorem dX7_fits_16 : decode cX7_fits 16 = .ok (.getfield 45, 3) := by decide +kernel
theorem dX7_fits_19 : decode cX7_fits 19 = .ok (.aload_n 0, 1) := by decide +kernel
theorem dX7_fits_20 : decode cX7_fits 20 = .ok (.getfield 24, 3) := by decide +kernel
theorem dX7_fits_23 : decode cX7_fits 23 = .ok (.invokevirtual 157, 3) := by decide +kernel
theorem dX7_fits_26 : decode cX7_fits 26 = .ok (.goto 14, 3) := by decide +kernel
theorem dX7_fits_29 : decode cX7_fits 29 = .ok (.aload_n 0, 1) := by decide +kernel
theorem dX7_fits_30 : decode cX7_fits 30 = .ok (.getfield 45, 3) := by decide +kernel
theorem dX7_fits_33 : decode cX7_fits 33 = .ok (.aload_n 0, 1) := by decide +kernel
theorem dX7_fits_34 : decode cX7_fits 34 = .ok (.getfield 24, 3) := by decide +kernel
theorem dX7_fits_37 : decode cX7_fits 37 = .ok (.invokevirtual 161, 3) := by decide +kernel
theorem dX7_fits_40 : decode cX7_fits 40 = .ok (.ireturn, 1) := by decide +kernel
theorem iw_X7_fits_X7 : ∀ w ∈ u_ws RX7 TX7 8, w ∈ wsX7_fits := by decide +kernel
theorem lk_X7_fits_0 : Cond.fieldLink RX7 45 (TX7 5).1 (TX7 5).2.1 (TX7 5).2.2.1 ∈ wsX7_fits := by decide +kernel
theorem lk_X7_fits_1 : Cond.fieldLink RX7 24 (TX7 2).1 (TX7 2).2.1 (TX7 2).2.2.1 ∈ wsX7_fits := by decide +kernel
set_option maxRecDepth 100000 in
theorem r_X7_fits_0 {X : Bn} (C : Cx X cX7_fits 2 RX7 wsX7_fits 3 72) (ad : Nat → Nat) (S : MS) (x1 : Int32) (h : (((f_X7_within x1 (2 : Int32)) = true) → (((((x1 = 0) → (okC S ∧ okK S)) ∧ ((¬ x1 = 0) → (okC S ∧ okK S)))) ∧ (Ends X (some .int) (some (.int (if x1 = 0 then f_X0_fittingPairs S else f_X0_fittingShapes S))) (cW X.E ad S)))) ∧ ((f_X7_within x1 (2 : Int32)) = false → (Ends X (some .int) (some (.int (-2))) (cW X.E ad S)))) : At X 2 (cW X.E ad S) 0 [(0, .ref (ad 0)), (1, .int x1)] [] := by
  refine at_iload_n C dX7_fits_0 rfl (j := 1) rfl ?_
  refine at_iconst C dX7_fits_1 (v := 2) rfl ?_
  refine at_cS0 C 2 (c_X7_within X.l X.D X.E X.a1 X.a2 x1 (2 : Int32)) gX7_fits_X7_within rfl (by decide +kernel) ⟨rfl, rfl⟩ rfl rfl rfl dX7_fits_2 ?_
  refine at_ifB_ne C dX7_fits_5 (tgt := 11) (by decide) (fun hc1 => ?_) (fun hc1 => ?_)
  · replace h := h.1 hc1
    refine at_iload_n C dX7_fits_11 rfl (j := 1) rfl ?_
    have hq := h.1
    replace h := h.2
    have K : At X 2 (cW X.E ad S) 40 [] [.int (if x1 = 0 then f_X0_fittingPairs S else f_X0_fittingShapes S)] := by
      exact at_iret C dX7_fits_40 h
    replace h := hq
    refine at_if_ne C dX7_fits_12 (tgt := 29) (by decide) (fun hc2 => ?_) (fun hc2 => ?_)
    · replace h := h.2 hc2
      refine at_aload_n C dX7_fits_29 rfl (j := 0) rfl ?_
      refine at_get C (K := RX7) (T := TX7) (N := 8) (ci := 6) (v := .ref (ad 15)) iw_X7_fits_X7 0 cW_c0 rfl 5 (by decide) lk_X7_fits_0 rfl dX7_fits_30 ?_
      refine at_aload_n C dX7_fits_33 rfl (j := 0) rfl ?_
      refine at_get C (K := RX7) (T := TX7) (N := 8) (ci := 6) (v := .ref (ad 5)) iw_X7_fits_X7 0 cW_c0 rfl 2 (by decide) lk_X7_fits_1 rfl dX7_fits_34 ?_
      refine at_cV1 C 1 (c_X0_fittingShapes X.l X.D X.E X.a1 X.a2 ad S h) gX7_fits_X0_fittingShapes rfl (by decide +kernel) ⟨rfl, rfl⟩ rfl rfl rfl 15 cW_c15 rfl dX7_fits_37 ?_
      refine at_lv [] rfl ?_
      first | (simp only [if_neg hc2] at K; exact K) | exact K
    · replace h := h.1 hc2
      refine at_aload_n C dX7_fits_15 rfl (j := 0) rfl ?_
      refine at_get C (K := RX7) (T := TX7) (N := 8) (ci := 6) (v := .ref (ad 15)) iw_X7_fits_X7 0 cW_c0 rfl 5 (by decide) lk_X7_fits_0 rfl dX7_fits_16 ?_
      refine at_aload_n C dX7_fits_19 rfl (j := 0) rfl ?_
      refine at_get C (K := RX7) (T := TX7) (N := 8) (ci := 6) (v := .ref (ad 5)) iw_X7_fits_X7 0 cW_c0 rfl 2 (by decide) lk_X7_fits_1 rfl dX7_fits_20 ?_
      refine at_cV1 C 1 (c_X0_fittingPairs X.l X.D X.E X.a1 X.a2 ad S h) gX7_fits_X0_fittingPairs rfl (by decide +kernel) ⟨rfl, rfl⟩ rfl rfl rfl 15 cW_c15 rfl dX7_fits_23 ?_
      refine at_goto C dX7_fits_26 (tgt := 40) (by decide) ?_
      refine at_lv [] rfl ?_
      first | (simp only [if_pos hc2] at K; exact K) | exact K
  · replace h := h.2 hc1
    refine at_bipush C dX7_fits_8 (v := (-2)) rfl ?_
    exact at_iret C dX7_fits_10 h
def f_X7_fits (S : MS) (x1 : Int32) : Int32 := if (f_X7_within x1 (2 : Int32)) then (if x1 = 0 then f_X0_fittingPairs S else f_X0_fittingShapes S) else (-2)
def p_X7_fits (S : MS) (x1 : Int32) : Prop := (((f_X7_within x1 (2 : Int32)) = true) → ((((x1 = 0) → (okC S ∧ okK S)) ∧ ((¬ x1 = 0) → (okC S ∧ okK S)))))
set_option maxRecDepth 100000 in
theorem c_X7_fits (l : Launch) (D : va_G) (E : Nat → ClassId) (a1 a2 : Nat) (ad : Nat → Nat) (S : MS) (x1 : Int32) (hp : p_X7_fits S x1) : Fn l D E a1 a2 yX7_fits wsX7_fits 3 72 [.ref (ad 0), .int x1] (cW E ad S) (some (.int (f_X7_fits S x1))) (cW E ad S) := by
  refine Fn.of (cc := cX7_fits) (maxL := 2) (ret := (some .int)) (own := RX7) (by decide) rfl rfl rfl (Nat.le_of_ble_eq_true rfl) (fun X h1 h2 h3 h4 h5 C hE => ?_)
  subst h1 h2 h3 h4 h5
  refine r_X7_fits_0 C ad S x1 ?_
  refine ⟨fun hc0 => ?_, fun hc0 => ?_⟩
  · refine ⟨(hp hc0), ?_⟩
    simp only [f_X7_fits, if_pos hc0] at hE
    exact hE
  · simp only [f_X7_fits, if_neg (show ¬ (f_X7_within x1 (2 : Int32)) = true by rw [hc0]; decide)] at hE
    exact hE
set_option maxRecDepth 20000 in
theorem ggX7_view_X1_isFree : GoodIn wsX7_view wsX1_isFree := goodIn_r _ [6, 7, 8, 9, 5, 10, 11, 12, 13, 39, 40, 41, 42, 43, 44] (by decide +kernel) (by decide +kernel)
set_option maxRecDepth 20000 in
theorem gX7_view_X1_isFree : GoodIn wsX7_view (wsV RX7 168 RX1 yX1_isFree wsX1_isFree) := goodIn_app (goodIn_of _ (by decide +kernel)) ggX7_view_X1_isFree
set_option maxRecDepth 20000 in
theorem ggX7_view_X1_viewFrom : GoodIn wsX7_view wsX1_viewFrom := goodIn_r _ [17, 18, 19, 20, 21, 22, 5, 23, 7, 11, 12, 13, 39, 40, 41, 42, 43, 44] (by decide +kernel) (by decide +kernel)
set_option maxRecDepth 20000 in
theorem gX7_view_X1_viewFrom : GoodIn wsX7_view (wsV RX7 171 RX1 yX1_viewFrom wsX1_viewFrom) := goodIn_app (goodIn_of _ (by decide +kernel)) ggX7_view_X1_viewFrom
set_option maxRecDepth 20000 in
theorem ggX7_view_J13_bitCount_95d88 : GoodIn wsX7_view wsJ13_bitCount_95d88 := goodIn_r _ [27, 28, 29, 30] (by decide +kernel) (by decide +kernel)
set_option maxRecDepth 20000 in
theorem gX7_view_J13_bitCount_95d88 : GoodIn wsX7_view (va_wsS RX7 175 yJ13_bitCount_95d88 wsJ13_bitCount_95d88) := goodIn_app (goodIn_of _ (by decide +kernel)) ggX7_view_J13_bitCount_95d88
theorem dX7_view_0 : decode cX7_view 0 = .ok (.aload_n 0, 1) := by decide +kernel
theorem dX7_view_1 : decode cX7_view 1 = .ok (.getfield 31, 3) := by decide +kernel
theorem dX7_view_4 : decode cX7_view 4 = .ok (.iload_n 1, 1) := by decide +kernel
theorem dX7_view_5 : decode cX7_view 5 = .ok (.invokevirtual 168, 3) := by decide +kernel
theorem dX7_view_8 : decode cX7_view 8 = .ok (.ifCond .eq 17, 3) := by decide +kernel
theorem dX7_view_11 : decode cX7_view 11 = .ok (.aload_n 0, 1) := by decide +kernel
theorem dX7_view_12 : decode cX7_view 12 = .ok (.getfield 31, 3) := by decide +kernel
theorem dX7_view_15 : decode cX7_view 15 = .ok (.iload_n 1, 1) := by decide +kernel
theorem dX7_view_16 : decode cX7_view 16 = .ok (.invokevirtual 171, 3) := by decide +kernel
theorem dX7_view_19 : decode cX7_view 19 = .ok (.invokestatic 175, 3) := by decide +kernel
theorem dX7_view_22 : decode cX7_view 22 = .ok (.goto 5, 3) := by decide +kernel
theorem dX7_view_25 : decode cX7_view 25 = .ok (.bipush (-2), 2) := by decide +kernel
theorem dX7_view_27 : decode cX7_view 27 = .ok (.ireturn, 1) := by decide +kernel
theorem iw_X7_view_X7 : ∀ w ∈ u_ws RX7 TX7 8, w ∈ wsX7_view := by decide +kernel
theorem lk_X7_view_0 : Cond.fieldLink RX7 31 (TX7 3).1 (TX7 3).2.1 (TX7 3).2.2.1 ∈ wsX7_view := by decide +kernel
set_option maxRecDepth 100000 in
theorem r_X7_view_0 {X : Bn} (C : Cx X cX7_view 2 RX7 wsX7_view 3 75) (ad : Nat → Nat) (S : MS) (x1 : Int32) (h : ((((f_X1_isFree S x1) = true) → (p_X1_viewFrom x1))) ∧ (Ends X (some .int) (some (.int (if (f_X1_isFree S x1) then f_J13_bitCount_95d88 (f_X1_viewFrom S x1) else (-2)))) (cW X.E ad S))) : At X 2 (cW X.E ad S) 0 [(0, .ref (ad 0)), (1, .int x1)] [] := by
  refine at_aload_n C dX7_view_0 rfl (j := 0) rfl ?_
  refine at_get C (K := RX7) (T := TX7) (N := 8) (ci := 6) (v := .ref (ad 8)) iw_X7_view_X7 0 cW_c0 rfl 3 (by decide) lk_X7_view_0 rfl dX7_view_1 ?_
  refine at_iload_n C dX7_view_4 rfl (j := 1) rfl ?_
  refine at_cV1 C 1 (c_X1_isFree X.l X.D X.E X.a1 X.a2 ad S x1) gX7_view_X1_isFree rfl (by decide +kernel) ⟨rfl, rfl⟩ rfl rfl rfl 8 cW_c8 rfl dX7_view_5 ?_
  have hq := h.1
  replace h := h.2
  have K : At X 2 (cW X.E ad S) 27 [] [.int (if (f_X1_isFree S x1) then f_J13_bitCount_95d88 (f_X1_viewFrom S x1) else (-2))] := by
    exact at_iret C dX7_view_27 h
  replace h := hq
  refine at_ifB_eq C dX7_view_8 (tgt := 25) (by decide) (fun hc0 => ?_) (fun hc0 => ?_)
  · skip
    refine at_bipush C dX7_view_25 (v := (-2)) rfl ?_
    refine at_lv [] rfl ?_
    first | (simp only [if_neg (show ¬ (f_X1_isFree S x1) = true by rw [hc0]; decide)] at K; exact K) | exact K
  · replace h := h hc0
    refine at_aload_n C dX7_view_11 rfl (j := 0) rfl ?_
    refine at_get C (K := RX7) (T := TX7) (N := 8) (ci := 6) (v := .ref (ad 8)) iw_X7_view_X7 0 cW_c0 rfl 3 (by decide) lk_X7_view_0 rfl dX7_view_12 ?_
    refine at_iload_n C dX7_view_15 rfl (j := 1) rfl ?_
    refine at_cV1 C 1 (c_X1_viewFrom X.l X.D X.E X.a1 X.a2 ad S x1 h) gX7_view_X1_viewFrom rfl (by decide +kernel) ⟨rfl, rfl⟩ rfl rfl rfl 8 cW_c8 rfl dX7_view_16 ?_
    refine at_cS0 C 1 (c_J13_bitCount_95d88 X.l X.D X.E X.a1 X.a2 (f_X1_viewFrom S x1)) gX7_view_J13_bitCount_95d88 rfl (by decide +kernel) ⟨rfl, rfl⟩ rfl rfl rfl dX7_view_19 ?_
    refine at_goto C dX7_view_22 (tgt := 27) (by decide) ?_
    refine at_lv [] rfl ?_
    first | (simp only [if_pos hc0] at K; exact K) | exact K
def f_X7_view (S : MS) (x1 : Int32) : Int32 := (if (f_X1_isFree S x1) then f_J13_bitCount_95d88 (f_X1_viewFrom S x1) else (-2))
def p_X7_view (S : MS) (x1 : Int32) : Prop := ((((f_X1_isFree S x1) = true) → (p_X1_viewFrom x1)))
set_option maxRecDepth 100000 in
theorem c_X7_view (l : Launch) (D : va_G) (E : Nat → ClassId) (a1 a2 : Nat) (ad : Nat → Nat) (S : MS) (x1 : Int32) (hp : p_X7_view S x1) : Fn l D E a1 a2 yX7_view wsX7_view 3 75 [.ref (ad 0), .int x1] (cW E ad S) (some (.int (f_X7_view S x1))) (cW E ad S) := by
  refine Fn.of (cc := cX7_view) (maxL := 2) (ret := (some .int)) (own := RX7) (by decide) rfl rfl rfl (Nat.le_of_ble_eq_true rfl) (fun X h1 h2 h3 h4 h5 C hE => ?_)
  subst h1 h2 h3 h4 h5
  refine r_X7_view_0 C ad S x1 ?_
  refine ⟨hp, ?_⟩
  simp only [f_X7_view] at hE
  exact hE
set_option maxRecDepth 20000 in
theorem ggX7_sees_X1_isFree : GoodIn wsX7_sees wsX1_isFree := goodIn_r _ [6, 7, 8, 9, 5, 10, 11, 12, 13, 33, 34, 35, 36, 37, 38] (by decide +kernel) (by decide +kernel)
set_option maxRecDepth 20000 in
theorem gX7_sees_X1_isFree : GoodIn wsX7_sees (wsV RX7 168 RX1 yX1_isFree wsX1_isFree) := goodIn_app (goodIn_of _ (by decide +kernel)) ggX7_sees_X1_isFree
set_option maxRecDepth 20000 in
theorem ggX7_sees_X1_viewFrom : GoodIn wsX7_sees wsX1_viewFrom := goodIn_r _ [17, 18, 19, 20, 21, 22, 5, 23, 7, 11, 12, 13, 33, 34, 35, 36, 37, 38] (by decide +kernel) (by decide +kernel)
set_option maxRecDepth 20000 in
theorem gX7_sees_X1_viewFrom : GoodIn wsX7_sees (wsV RX7 171 RX1 yX1_viewFrom wsX1_viewFrom) := goodIn_app (goodIn_of _ (by decide +kernel)) ggX7_sees_X1_viewFrom
set_option maxRecDepth 20000 in
theorem ggX7_sees_X1_has : GoodIn wsX7_sees wsX1_has := goodIn_r _ [10, 11, 12, 13] (by decide +kernel) (by decide +kernel)
set_option maxRecDepth 20000 in
theorem gX7_sees_X1_has : GoodIn wsX7_sees (va_wsS RX7 180 yX1_has wsX1_has) := goodIn_app (goodIn_of _ (by decide +kernel)) ggX7_sees_X1_has
theorem dX7_sees_0 : decode cX7_sees 0 = .ok (.aload_n 0, 1) := by decide +kernel
theorem dX7_sees_1 : decode cX7_sees 1 = .ok (.getfield 31, 3) := by decide +kernel
theorem dX7_sees_4 : decode cX7_sees 4 = .ok (.iload_n 1, 1) := by decide +kernel
theorem dX7_sees_5 : decode cX7_sees 5 = .ok (.invokevirtual 168, 3) := by decide +kernel
theorem dX7_sees_8 : decode cX7_sees 8 = .ok (.ifCond .eq 14, 3) := by decide +kernel
theorem dX7_sees_11 : decode cX7_sees 11 = .ok (.aload_n 0, 1) := by decide +kernel
theorem dX7_sees_12 : decode cX7_sees 12 = .ok (.getfield 31, 3) := by decide +kernel
theorem dX7_sees_15 : decode cX7_sees 15 = .ok (.iload_n 2, 1) := by decide +kernel
theorem dX7_sees_16 : decode cX7_sees 16 = .ok (.invokevirtual 168, 3) := by decide +kernel
theorem dX7_sees_19 : decode cX7_sees 19 = .ok (.ifCond .ne 6, 3) := by decide +kernel
theorem dX7_sees_22 : decode cX7_sees 22 = .ok (.bipush (-2), 2) := by decide +kernel
theorem dX7_sees_24 : decode cX7_sees 24 = .ok (.ireturn, 1) := by decide +kernel
theorem dX7_sees_25 : decode cX7_sees 25 = .ok (.aload_n 0, 1) := by decide +kernel
theorem dX7_sees_26 : decode cX7_sees 26 = .ok (.getfield 31, 3) := by decide +kernel
theorem dX7_sees_29 : decode cX7_sees 29 = .ok (.iload_n 1, 1) := by decide +kernel
theorem dX7_sees_30 : decode cX7_sees 30 = .ok (.invokevirtual 171, 3) := by decide +kernel
theorem dX7_sees_33 : decode cX7_sees 33 = .ok (.iload_n 2, 1) := by decide +kernel
theorem dX7_sees_34 : decode cX7_sees 34 = .ok (.invokestatic 180, 3) := by decide +kernel
theorem dX7_sees_37 : decode cX7_sees 37 = .ok (.ifCond .eq 7, 3) := by decide +kernel
theorem dX7_sees_40 : decode cX7_sees 40 = .ok (.iconst 1, 1) := by decide +kernel
theorem dX7_sees_41 : decode cX7_sees 41 = .ok (.goto 4, 3) := by decide +kernel
theorem dX7_sees_44 : decode cX7_sees 44 = .ok (.iconst 0, 1) := by decide +kernel
theorem dX7_sees_45 : decode cX7_sees 45 = .ok (.ireturn, 1) := by decide +kernel
theorem iw_X7_sees_X7 : ∀ w ∈ u_ws RX7 TX7 8, w ∈ wsX7_sees := by decide +kernel
theorem lk_X7_sees_0 : Cond.fieldLink RX7 31 (TX7 3).1 (TX7 3).2.1 (TX7 3).2.2.1 ∈ wsX7_sees := by decide +kernel
set_option maxRecDepth 100000 in
theorem r_X7_sees_0 {X : Bn} (C : Cx X cX7_sees 3 RX7 wsX7_sees 3 75) (ad : Nat → Nat) (S : MS) (x1 : Int32) (x2 : Int32) (h : (((f_X1_isFree S x1) = true) → ((((f_X1_isFree S x2) = true) → ((p_X1_viewFrom x1) ∧ (Ends X (some .int) (some (.int (b2i (if (f_X1_has (f_X1_viewFrom S x1) x2) then true else false)))) (cW X.E ad S)))) ∧ ((f_X1_isFree S x2) = false → (Ends X (some .int) (some (.int (-2))) (cW X.E ad S))))) ∧ ((f_X1_isFree S x1) = false → (Ends X (some .int) (some (.int (-2))) (cW X.E ad S)))) : At X 3 (cW X.E ad S) 0 [(0, .ref (ad 0)), (1, .int x1), (2, .int x2)] [] := by
  refine at_aload_n C dX7_sees_0 rfl (j := 0) rfl ?_
  refine at_get C (K := RX7) (T := TX7) (N := 8) (ci := 6) (v := .ref (ad 8)) iw_X7_sees_X7 0 cW_c0 rfl 3 (by decide) lk_X7_sees_0 rfl dX7_sees_1 ?_
  refine at_iload_n C dX7_sees_4 rfl (j := 1) rfl ?_
  refine at_cV1 C 1 (c_X1_isFree X.l X.D X.E X.a1 X.a2 ad S x1) gX7_sees_X1_isFree rfl (by decide +kernel) ⟨rfl, rfl⟩ rfl rfl rfl 8 cW_c8 rfl dX7_sees_5 ?_
  refine at_ifB_eq C dX7_sees_8 (tgt := 22) (by decide) (fun hc2 => ?_) (fun hc2 => ?_)
  · replace h := h.2 hc2
    refine at_bipush C dX7_sees_22 (v := (-2)) rfl ?_
    exact at_iret C dX7_sees_24 h
  · replace h := h.1 hc2
    refine at_aload_n C dX7_sees_11 rfl (j := 0) rfl ?_
    refine at_get C (K := RX7) (T := TX7) (N := 8) (ci := 6) (v := .ref (ad 8)) iw_X7_sees_X7 0 cW_c0 rfl 3 (by decide) lk_X7_sees_0 rfl dX7_sees_12 ?_
    refine at_iload_n C dX7_sees_15 rfl (j := 2) rfl ?_
    refine at_cV1 C 1 (c_X1_isFree X.l X.D X.E X.a1 X.a2 ad S x2) gX7_sees_X1_isFree rfl (by decide +kernel) ⟨rfl, rfl⟩ rfl rfl rfl 8 cW_c8 rfl dX7_sees_16 ?_
    refine at_ifB_ne C dX7_sees_19 (tgt := 25) (by decide) (fun hc3 => ?_) (fun hc3 => ?_)
    · replace h := h.1 hc3
      refine at_aload_n C dX7_sees_25 rfl (j := 0) rfl ?_
      refine at_get C (K := RX7) (T := TX7) (N := 8) (ci := 6) (v := .ref (ad 8)) iw_X7_sees_X7 0 cW_c0 rfl 3 (by decide) lk_X7_sees_0 rfl dX7_sees_26 ?_
      refine at_iload_n C dX7_sees_29 rfl (j := 1) rfl ?_
      refine at_cV1 C 1 (c_X1_viewFrom X.l X.D X.E X.a1 X.a2 ad S x1 h.1) gX7_sees_X1_viewFrom rfl (by decide +kernel) ⟨rfl, rfl⟩ rfl rfl rfl 8 cW_c8 rfl dX7_sees_30 ?_
      replace h := h.2
      refine at_iload_n C dX7_sees_33 rfl (j := 2) rfl ?_
      refine at_cS0 C 2 (c_X1_has X.l X.D X.E X.a1 X.a2 (f_X1_viewFrom S x1) x2) gX7_sees_X1_has rfl (by decide +kernel) ⟨rfl, rfl⟩ rfl rfl rfl dX7_sees_34 ?_
      have K : At X 3 (cW X.E ad S) 45 [] [.int (b2i (if (f_X1_has (f_X1_viewFrom S x1) x2) then true else false))] := by
        exact at_iret C dX7_sees_45 h
      refine at_ifB_eq C dX7_sees_37 (tgt := 44) (by decide) (fun hc4 => ?_) (fun hc4 => ?_)
      · skip
        refine at_iconst C dX7_sees_44 (v := 0) rfl ?_
        refine at_lv [] rfl ?_
        first | (simp only [if_neg (show ¬ (f_X1_has (f_X1_viewFrom S x1) x2) = true by rw [hc4]; decide)] at K; exact K) | exact K
      · skip
        refine at_iconst C dX7_sees_40 (v := 1) rfl ?_
        refine at_goto C dX7_sees_41 (tgt := 45) (by decide) ?_
        refine at_lv [] rfl ?_
        first | (simp only [if_pos hc4] at K; exact K) | exact K
    · replace h := h.2 hc3
      refine at_bipush C dX7_sees_22 (v := (-2)) rfl ?_
      exact at_iret C dX7_sees_24 h
def f_X7_sees (S : MS) (x1 : Int32) (x2 : Int32) : Int32 := if (f_X1_isFree S x1) then (if (f_X1_isFree S x2) then (b2i (if (f_X1_has (f_X1_viewFrom S x1) x2) then true else false)) else (-2)) else (-2)
def p_X7_sees (S : MS) (x1 : Int32) (x2 : Int32) : Prop := (((f_X1_isFree S x1) = true) → (((f_X1_isFree S x2) = true) → (p_X1_viewFrom x1)))
set_option maxRecDepth 100000 in
theorem c_X7_sees (l : Launch) (D : va_G) (E : Nat → ClassId) (a1 a2 : Nat) (ad : Nat → Nat) (S : MS) (x1 : Int32) (x2 : Int32) (hp : p_X7_sees S x1 x2) : Fn l D E a1 a2 yX7_sees wsX7_sees 3 75 [.ref (ad 0), .int x1, .int x2] (cW E ad S) (some (.int (f_X7_sees S x1 x2))) (cW E ad S) := by
  refine Fn.of (cc := cX7_sees) (maxL := 3) (ret := (some .int)) (own := RX7) (by decide) rfl rfl rfl (Nat.le_of_ble_eq_true rfl) (fun X h1 h2 h3 h4 h5 C hE => ?_)
  subst h1 h2 h3 h4 h5
  refine r_X7_sees_0 C ad S x1 x2 ?_
  refine ⟨fun hc0 => ?_, fun hc0 => ?_⟩
  · refine ⟨fun hc1 => ?_, fun hc1 => ?_⟩
    · refine ⟨((hp hc0) hc1), ?_⟩
      simp only [f_X7_sees, if_pos hc0, if_pos hc1] at hE
      exact hE
    · simp only [f_X7_sees, if_pos hc0, if_neg (show ¬ (f_X1_isFree S x2) = true by rw [hc1]; decide)] at hE
      exact hE
  · simp only [f_X7_sees, if_neg (show ¬ (f_X1_isFree S x1) = true by rw [hc0]; decide)] at hE
    exact hE
