set_option maxRecDepth 20000 in
theorem ggX8_sheet_X8_isSheet : GoodIn wsX8_sheet wsX8_isSheet := goodIn_r _ [8, 9, 10, 11, 7, 12] (by decide +kernel) (by decide +kernel)
set_option maxRecDepth 20000 in
theorem gX8_sheet_X8_isSheet : GoodIn wsX8_sheet (va_wsS RX8 63 yX8_isSheet wsX8_isSheet) := goodIn_app (goodIn_of _ (by decide +kernel)) ggX8_sheet_X8_isSheet
set_option maxRecDepth 20000 in
theorem ggX8_sheet_X8_in : GoodIn wsX8_sheet wsX8_in := goodIn_r _ [12] (by decide +kernel) (by decide +kernel)
set_option maxRecDepth 20000 in
theorem gX8_sheet_X8_in : GoodIn wsX8_sheet (va_wsS RX8 53 yX8_in wsX8_in) := goodIn_app (goodIn_of _ (by decide +kernel)) ggX8_sheet_X8_in
set_option maxRecDepth 20000 in
theorem ggX8_sheet_X8_met : GoodIn wsX8_sheet wsX8_met := goodIn_r _ [16, 17, 18, 19, 20, 21, 22, 23, 24, 25, 26, 27, 28, 29, 30, 31, 32, 33, 34, 35] (by decide +kernel) (by decide +kernel)
set_option maxRecDepth 20000 in
theorem gX8_sheet_X8_met : GoodIn wsX8_sheet (wsV RX8 69 RX8 yX8_met wsX8_met) := goodIn_app (goodIn_of _ (by decide +kernel)) ggX8_sheet_X8_met
theorem dX8_sheet_0 : decode cX8_sheet 0 = .ok (.iload_n 1, 1) := by decide +kernel
theorem dX8_sheet_1 : decode cX8_sheet 1 = .ok (.invokestatic 63, 3) := by decide +kernel
theorem dX8_sheet_4 : decode cX8_sheet 4 = .ok (.ifCond .eq 21, 3) := by decide +kernel
theorem dX8_sheet_7 : decode cX8_sheet 7 = .ok (.iload_n 2, 1) := by decide +kernel
theorem dX8_sheet_8 : decode cX8_sheet 8 = .ok (.i2l, 1) := by decide +kernel
theorem dX8_sheet_9 : decode cX8_sheet 9 = .ok (.lconst 0, 1) := by decide +kernel
theorem dX8_sheet_10 : decode cX8_sheet 10 = .ok (.ldc2_w 67, 3) := by decide +kernel
theorem dX8_sheet_13 : decode cX8_sheet 13 = .ok (.invokestatic 53, 3) := by decide +kernel
theorem dX8_sheet_16 : decode cX8_sheet 16 = .ok (.ifCond .eq 9, 3) := by decide +kernel
theorem dX8_sheet_19 : decode cX8_sheet 19 = .ok (.iload_n 3, 1) := by decide +kernel
theorem dX8_sheet_20 : decode cX8_sheet 20 = .ok (.bipush 64, 2) := by decide +kernel
theorem dX8_sheet_22 : decode cX8_sheet 22 = .ok (.if_icmp .le 6, 3) := by decide +kernel
theorem dX8_sheet_25 : decode cX8_sheet 25 = .ok (.bipush (-2), 2) := by decide +kernel
theorem dX8_sheet_27 : decode cX8_sheet 27 = .ok (.ireturn, 1) := by decide +kernel
theorem dX8_sheet_28 : decode cX8_sheet 28 = .ok (.iload_n 3, 1) := by decide +kernel
theorem dX8_sheet_29 : decode cX8_sheet 29 = .ok (.ifCond .ge 9, 3) := by decide +kernel
theorem dX8_sheet_32 : decode cX8_sheet 32 = .ok (.aload_n 0, 1) := by decide +kernel
theorem dX8_sheet_33 : decode cX8_sheet 33 = .ok (.iconst 5, 1) := by decide +kernel
theorem dX8_sheet_34 : decode cX8_sheet 34 = .ok (.invokevirtual 69, 3) := by decide +kernel
theorem dX8_sheet_37 : decode cX8_sheet 37 = .ok (.ireturn, 1) := by decide +kernel
theorem dX8_sheet_38 : decode cX8_sheet 38 = .ok (.aload_n 0, 1) := by decide +kernel
theorem dX8_sheet_39 : decode cX8_sheet 39 = .ok (.getfield 7, 3) := by decide +kernel
theorem dX8_sheet_42 : decode cX8_sheet 42 = .ok (.iload_n 1, 1) := by decide +kernel
theorem dX8_sheet_43 : decode cX8_sheet 43 = .ok (.iload_n 2, 1) := by decide +kernel
theorem dX8_sheet_44 : decode cX8_sheet 44 = .ok (.iastore, 1) := by decide +kernel
theorem dX8_sheet_45 : decode cX8_sheet 45 = .ok (.aload_n 0, 1) := by decide +kernel
theorem dX8_sheet_46 : decode cX8_sheet 46 = .ok (.getfield 13, 3) := by decide +kernel
theorem dX8_sheet_49 : decode cX8_sheet 49 = .ok (.iload_n 1, 1) := by decide +kernel
theorem dX8_sheet_50 : decode cX8_sheet 50 = .ok (.iload_n 3, 1) := by decide +kernel
theorem dX8_sheet_51 : decode cX8_sheet 51 = .ok (.iastore, 1) := by decide +kernel
theorem dX8_sheet_52 : decode cX8_sheet 52 = .ok (.iconst 0, 1) := by decide +kernel
theorem dX8_sheet_53 : decode cX8_sheet 53 = .ok (.istore 4, 2) := by decide +kernel
theorem dX8_sheet_55 : decode cX8_sheet 55 = .ok (.iload 4, 2) := by decide +kernel
theorem dX8_sheet_57 : decode cX8_sheet 57 = .ok (.iload_n 3, 1) := by decide +kernel
theorem dX8_sheet_58 : decode cX8_sheet 58 = .ok (.if_icmp .ge 22, 3) := by decide +kernel
theorem dX8_sheet_61 : decode cX8_sheet 61 = .ok (.aload_n 0, 1) := by decide +kernel
theorem dX8_sheet_62 : decode cX8_sheet 62 = .ok (.getfield 16, 3) := by decide +kernel
theorem dX8_sheet_65 : decode cX8_sheet 65 = .ok (.bipush 64, 2) := by decide +kernel
theorem dX8_sheet_67 : decode cX8_sheet 67 = .ok (.iload_n 1, 1) := by decide +kernel
theorem dX8_sheet_68 : decode cX8_sheet 68 = .ok (.imul, 1) := by decide +kernel
theorem dX8_sheet_69 : decode cX8_sheet 69 = .ok (.iload 4, 2) := by decide +kernel
theorem dX8_sheet_71 : decode cX8_sheet 71 = .ok (.iadd, 1) := by decide +kernel
theorem dX8_sheet_72 : decode cX8_sheet 72 = .ok (.iconst 0, 1) := by decide +kernel
theorem dX8_sheet_73 : decode cX8_sheet 73 = .ok (.iastore, 1) := by decide +kernel
theorem dX8_sheet_74 : decode cX8_sheet 74 = .ok (.iinc 4 1, 3) := by decide +kernel
theorem dX8_sheet_77 : decode cX8_sheet 77 = .ok (.goto (-22), 3) := by decide +kernel
theorem dX8_sheet_80 : decode cX8_sheet 80 = .ok (.iload_n 3, 1) := by decide +kernel
theorem dX8_sheet_81 : decode cX8_sheet 81 = .ok (.ireturn, 1) := by decide +kernel
theorem iw_X8_sheet_X8 : ∀ w ∈ u_ws RX8 TX8 18, w ∈ wsX8_sheet := by decide +kernel
theorem lk_X8_sheet_0 : Cond.constantLong RX8 67 2 ∈ wsX8_sheet := by decide +kernel
theorem lk_X8_sheet_1 : Cond.fieldLink RX8 7 (TX8 0).1 (TX8 0).2.1 (TX8 0).2.2.1 ∈ wsX8_sheet := by decide +kernel
theorem lk_X8_sheet_2 : Cond.fieldLink RX8 13 (TX8 1).1 (TX8 1).2.1 (TX8 1).2.2.1 ∈ wsX8_sheet := by decide +kernel
theorem lk_X8_sheet_3 : Cond.fieldLink RX8 16 (TX8 2).1 (TX8 2).2.1 (TX8 2).2.2.1 ∈ wsX8_sheet := by decide +kernel
set_option maxRecDepth 100000 in
theorem r_X8_sheet_0 {X : Bn} (C : Cx X cX8_sheet 5 RX8 wsX8_sheet 2 45) (ad : Nat → Nat) (S : MS) (x1 : Int32) (x2 : Int32) (x3 : Int32) (h : (((f_X8_isSheet x1) = true) → ((((f_X8_in x2.toInt64 (0 : Int64) (2 : Int64)) = true) → (((x3 ≤ 64) → (((0 ≤ x3) → ((vp_in x1 4) ∧ ((vp_in x1 4) ∧ (At X 5 (mW X.E ad (pg (pg S 0 x1.toNatClampNeg x2) 1 x1.toNatClampNeg x3)) 55 [(0, .ref (ad 0)), (1, .int x1), (3, .int x3), (4, .int 0)] [])))) ∧ (¬ 0 ≤ x3 → (Ends X (some .int) (some (.int (f_X8_met S (5 : Int32)))) (mW X.E ad (s_X8_met S (5 : Int32))))))) ∧ (¬ x3 ≤ 64 → (Ends X (some .int) (some (.int (-2))) (mW X.E ad S))))) ∧ ((f_X8_in x2.toInt64 (0 : Int64) (2 : Int64)) = false → (Ends X (some .int) (some (.int (-2))) (mW X.E ad S))))) ∧ ((f_X8_isSheet x1) = false → (Ends X (some .int) (some (.int (-2))) (mW X.E ad S)))) : At X 5 (mW X.E ad S) 0 [(0, .ref (ad 0)), (1, .int x1), (2, .int x2), (3, .int x3)] [] := by
  refine at_iload_n C dX8_sheet_0 rfl (j := 1) rfl ?_
  refine at_cS0 C 1 (c_X8_isSheet X.l X.D X.E X.a1 X.a2 x1) gX8_sheet_X8_isSheet rfl (by decide +kernel) ⟨rfl, rfl⟩ rfl rfl rfl dX8_sheet_1 ?_
  refine at_ifB_eq C dX8_sheet_4 (tgt := 25) (by decide) (fun hc0 => ?_) (fun hc0 => ?_)
  · replace h := h.2 hc0
    refine at_bipush C dX8_sheet_25 (v := (-2)) rfl ?_
    exact at_iret C dX8_sheet_27 h
  · replace h := h.1 hc0
    refine at_iload_n C dX8_sheet_7 rfl (j := 2) rfl ?_
    refine at_i2l C dX8_sheet_8 ?_
    refine at_lconst C dX8_sheet_9 (v := 0) rfl ?_
    refine at_ldc2 C lk_X8_sheet_0 dX8_sheet_10 ?_
    refine at_cS0 C 3 (c_X8_in X.l X.D X.E X.a1 X.a2 x2.toInt64 (0 : Int64) (2 : Int64)) gX8_sheet_X8_in rfl (by decide +kernel) ⟨rfl, rfl⟩ rfl rfl rfl dX8_sheet_13 ?_
    refine at_ifB_eq C dX8_sheet_16 (tgt := 25) (by decide) (fun hc1 => ?_) (fun hc1 => ?_)
    · replace h := h.2 hc1
      refine at_bipush C dX8_sheet_25 (v := (-2)) rfl ?_
      exact at_iret C dX8_sheet_27 h
    · replace h := h.1 hc1
      refine at_iload_n C dX8_sheet_19 rfl (j := 3) rfl ?_
      refine at_bipush C dX8_sheet_20 (v := 64) rfl ?_
      refine at_icmp_le C dX8_sheet_22 (tgt := 28) (by decide) (fun hc2 => ?_) (fun hc2 => ?_)
      · replace h := h.1 hc2
        refine at_iload_n C dX8_sheet_28 rfl (j := 3) rfl ?_
        refine at_if_ge C dX8_sheet_29 (tgt := 38) (by decide) (fun hc3 => ?_) (fun hc3 => ?_)
        · replace h := h.1 hc3
          refine at_aload_n C dX8_sheet_38 rfl (j := 0) rfl ?_
          refine at_get C (K := RX8) (T := TX8) (N := 18) (ci := 7) (v := .ref (ad 1)) iw_X8_sheet_X8 0 mW_c0 rfl 0 (by decide) lk_X8_sheet_1 rfl dX8_sheet_39 ?_
          refine at_iload_n C dX8_sheet_42 rfl (j := 1) rfl ?_
          refine at_iload_n C dX8_sheet_43 rfl (j := 2) rfl ?_
          refine at_iast C 1 mW_c1 h.1 mW_s1 dX8_sheet_44 ?_
          replace h := h.2
          refine at_aload_n C dX8_sheet_45 rfl (j := 0) rfl ?_
          refine at_get C (K := RX8) (T := TX8) (N := 18) (ci := 7) (v := .ref (ad 2)) iw_X8_sheet_X8 0 mW_c0 rfl 1 (by decide) lk_X8_sheet_2 rfl dX8_sheet_46 ?_
          refine at_iload_n C dX8_sheet_49 rfl (j := 1) rfl ?_
          refine at_iload_n C dX8_sheet_50 rfl (j := 3) rfl ?_
          refine at_iast C 2 mW_c2 h.1 mW_s2 dX8_sheet_51 ?_
          replace h := h.2
          refine at_iconst C dX8_sheet_52 (v := 0) rfl ?_
          refine at_istore C dX8_sheet_53 (by decide) (lv' := [(4, .int 0), (0, .ref (ad 0)), (1, .int x1), (2, .int x2), (3, .int x3)]) rfl ?_
          refine at_lv [1, 2, 4, 0] rfl ?_
          exact h
        · replace h := h.2 hc3
          refine at_aload_n C dX8_sheet_32 rfl (j := 0) rfl ?_
          refine at_iconst C dX8_sheet_33 (v := 5) rfl ?_
          refine at_cV1 C 1 (c_X8_met X.l X.D X.E X.a1 X.a2 ad S (5 : Int32)) gX8_sheet_X8_met rfl (by decide +kernel) ⟨rfl, rfl⟩ rfl rfl rfl 0 mW_c0 rfl dX8_sheet_34 ?_
          exact at_iret C dX8_sheet_37 h
      · replace h := h.2 hc2
        refine at_bipush C dX8_sheet_25 (v := (-2)) rfl ?_
        exact at_iret C dX8_sheet_27 h
set_option maxRecDepth 100000 in
theorem r_X8_sheet_55 {X : Bn} (C : Cx X cX8_sheet 5 RX8 wsX8_sheet 2 45) (ad : Nat → Nat) (S : MS) (x1 : Int32) (x3 : Int32) (x4 : Int32) (h : ((x3 ≤ x4) → (Ends X (some .int) (some (.int x3)) (mW X.E ad S))) ∧ (¬ x3 ≤ x4 → ((vp_in ((64 * x1) + x4) 256) ∧ (At X 5 (mW X.E ad (pg S 2 (((64 * x1) + x4).toNatClampNeg) 0)) 55 [(0, .ref (ad 0)), (1, .int x1), (3, .int x3), (4, .int (x4 + 1))] [])))) : At X 5 (mW X.E ad S) 55 [(0, .ref (ad 0)), (1, .int x1), (3, .int x3), (4, .int x4)] [] := by
  refine at_iload C dX8_sheet_55 (j := 3) rfl ?_
  refine at_iload_n C dX8_sheet_57 rfl (j := 2) rfl ?_
  refine at_icmp_ge C dX8_sheet_58 (tgt := 80) (by decide) (fun hc4 => ?_) (fun hc4 => ?_)
  · replace h := h.1 hc4
    refine at_iload_n C dX8_sheet_80 rfl (j := 2) rfl ?_
    exact at_iret C dX8_sheet_81 h
  · replace h := h.2 hc4
    refine at_aload_n C dX8_sheet_61 rfl (j := 0) rfl ?_
    refine at_get C (K := RX8) (T := TX8) (N := 18) (ci := 7) (v := .ref (ad 3)) iw_X8_sheet_X8 0 mW_c0 rfl 2 (by decide) lk_X8_sheet_3 rfl dX8_sheet_62 ?_
    refine at_bipush C dX8_sheet_65 (v := 64) rfl ?_
    refine at_iload_n C dX8_sheet_67 rfl (j := 1) rfl ?_
    refine at_imul C dX8_sheet_68 ?_
    refine at_iload C dX8_sheet_69 (j := 3) rfl ?_
    refine at_iadd C dX8_sheet_71 ?_
    refine at_iconst C dX8_sheet_72 (v := 0) rfl ?_
    refine at_iast C 3 mW_c3 h.1 mW_s3 dX8_sheet_73 ?_
    replace h := h.2
    refine at_iinc C dX8_sheet_74 (j := 3) (v := x4 + 1) rfl rfl (by decide) (lv' := [(4, .int (x4 + 1)), (0, .ref (ad 0)), (1, .int x1), (3, .int x3)]) rfl ?_
    refine at_goto C dX8_sheet_77 (tgt := 55) (by decide) ?_
    refine at_lv [1, 2, 3, 0] rfl ?_
    exact h
def shClr (s n : Nat) (S : MS) : MS := itF (fun i S => pg S 2 (64 * s + i) 0) 0 n S
def f_X8_sheet (S : MS) (x1 x2 x3 : Int32) : Int32 := if f_X8_isSheet x1 then (if f_X8_in x2.toInt64 0 2 then (if x3 ≤ 64 then (if 0 ≤ x3 then x3 else f_X8_met S 5) else (-2)) else (-2)) else (-2)
def s_X8_sheet (S : MS) (x1 x2 x3 : Int32) : MS := if f_X8_isSheet x1 then (if f_X8_in x2.toInt64 0 2 then (if x3 ≤ 64 then (if 0 ≤ x3 then shClr x1.toNatClampNeg x3.toNatClampNeg (pg (pg S 0 x1.toNatClampNeg x2) 1 x1.toNatClampNeg x3) else s_X8_met S 5) else S) else S) else S
theorem in_nI {x : Int32} {m : Nat} (hm : m < 2 ^ 31) : f_X8_in x.toInt64 0 (lN m) = true ↔ ∃ n, n ≤ m ∧ x = nI n := by
  rw [f_X8_in]
  constructor
  · intro h
    by_cases h1 : x.toInt64 < 0
    · rw [if_pos h1] at h; cases h
    · rw [if_neg h1] at h
      by_cases h2 : lN m < x.toInt64
      · rw [if_pos h2] at h; cases h
      · have h3 : ¬ x < 0 := fun q => h1 (by
          rw [Int64.lt_iff_toInt_lt, Int32.toInt_toInt64]
          rw [Int32.lt_iff_toInt_lt] at q
          exact q)
        obtain ⟨n, hn, rfl⟩ := nI_of h3
        refine ⟨n, ?_, rfl⟩
        rw [nI_l hn] at h2
        rcases Nat.lt_or_ge m n with q | q
        · exact absurd ((lN_lt hm hn).mpr q) h2
        · exact q
  · rintro ⟨n, hn, rfl⟩
    rw [nI_l (by omega), if_neg (fun q => by
      have := (lN_lt (a := n) (b := 0) (by omega) (by decide)).mp q
      omega), if_neg (fun q => by
      have := (lN_lt (a := m) (b := n) (by omega) (by omega)).mp q
      omega)]
theorem isSheet_nI {x : Int32} (h : f_X8_isSheet x = true) : ∃ s, s < 4 ∧ x = nI s := by
  obtain ⟨n, hn, e⟩ := (in_nI (m := 3) (by decide)).mp h
  exact ⟨n, by omega, e⟩
set_option maxRecDepth 100000 in
theorem c_X8_sheet (l : Launch) (D : va_G) (E : Nat → ClassId) (a1 a2 : Nat) (ad : Nat → Nat) (S : MS) (x1 x2 x3 : Int32) : Fn l D E a1 a2 yX8_sheet wsX8_sheet 2 45 [.ref (ad 0), .int x1, .int x2, .int x3] (mW E ad S) (some (.int (f_X8_sheet S x1 x2 x3))) (mW E ad (s_X8_sheet S x1 x2 x3)) := by
  refine Fn.of (cc := cX8_sheet) (maxL := 5) (ret := (some .int)) (own := RX8) (by decide) rfl rfl (sameM _ _ _ _) (Nat.le_of_ble_eq_true rfl) (fun X h1 h2 h3 h4 h5 C hE => ?_)
  subst h1 h2 h3 h4 h5
  refine r_X8_sheet_0 C ad S x1 x2 x3 ⟨fun a1 => ⟨fun a2 => ⟨fun a3 => ⟨fun a4 => ?_, fun a4 => ?_⟩, fun a3 => ?_⟩, fun a2 => ?_⟩, fun a1 => ?_⟩
  · obtain ⟨s, hs, rfl⟩ := isSheet_nI a1
    obtain ⟨n, hn, rfl⟩ : ∃ n, n ≤ 64 ∧ x3 = nI n := nI_of2 (M := 64) rfl (fun q => absurd q (i32_le.mp a4)) a3
    simp only [f_X8_sheet, s_X8_sheet, if_pos a1, if_pos a2, if_pos a3, if_pos a4, nI_clamp (show s < 2 ^ 31 by omega), nI_clamp (show n < 2 ^ 31 by omega)] at hE
    refine ⟨vp_in_nI (by omega) (by decide), vp_in_nI (by omega) (by decide), ?_⟩
    rw [nI_clamp (by omega)]
    refine for_go (P := fun i S => At X 5 (mW X.E ad S) 55 [(0, .ref (ad 0)), (1, .int (nI s)), (3, .int (nI n)), (4, .int (nI i))] []) (N := n) (fun i S => pg S 2 (64 * s + i) 0) (fun i S hi h => ?_) n 0 _ (Nat.zero_add n) ?_
    · have e : 64 * nI s + nI i = nI (64 * s + i) := by rw [show (64 : Int32) = nI 64 from rfl, pk_mul, nI_add]
      refine r_X8_sheet_55 C ad S (nI s) (nI n) (nI i) ⟨fun q => nlt_no (by omega) hi q, fun _ => ?_⟩
      rw [e, nI_clamp (by omega), nI_1 i]
      exact ⟨vp_in_nI (by omega) (by decide), h⟩
    · exact r_X8_sheet_55 C ad _ (nI s) (nI n) (nI n) ⟨fun _ => hE, fun q => nle_no q⟩
  · simp only [f_X8_sheet, s_X8_sheet, if_pos a1, if_pos a2, if_pos a3, if_neg a4] at hE
    exact hE
  · simp only [f_X8_sheet, s_X8_sheet, if_pos a1, if_pos a2, if_neg a3] at hE
    exact hE
  · simp only [f_X8_sheet, s_X8_sheet, if_pos a1, if_neg (show ¬ f_X8_in x2.toInt64 0 2 = true by rw [a2]; decide)] at hE
    exact hE
  · simp only [f_X8_sheet, s_X8_sheet, if_neg (show ¬ f_X8_isSheet x1 = true by rw [a1]; decide)] at hE
    exact hE
set_option maxRecDepth 20000 in
theorem ggX8_copy_X8_isSheet : GoodIn wsX8_copy wsX8_isSheet := goodIn_r _ [8, 9, 10, 11, 7, 12] (by decide +kernel) (by decide +kernel)
set_option maxRecDepth 20000 in
theorem gX8_copy_X8_isSheet : GoodIn wsX8_copy (va_wsS RX8 63 yX8_isSheet wsX8_isSheet) := goodIn_app (goodIn_of _ (by decide +kernel)) ggX8_copy_X8_isSheet
set_option maxRecDepth 20000 in
theorem ggX8_copy_X8_met : GoodIn wsX8_copy wsX8_met := goodIn_r _ [16, 17, 18, 19, 20, 21, 22, 23, 24, 25, 26, 27, 28, 29, 30, 31, 32, 33, 34, 35] (by decide +kernel) (by decide +kernel)
set_option maxRecDepth 20000 in
theorem gX8_copy_X8_met : GoodIn wsX8_copy (wsV RX8 69 RX8 yX8_met wsX8_met) := goodIn_app (goodIn_of _ (by decide +kernel)) ggX8_copy_X8_met
theorem dX8_copy_0 : decode cX8_copy 0 = .ok (.iload_n 1, 1) := by decide +kernel
theorem dX8_copy_1 : decode cX8_copy 1 = .ok (.invokestatic 63, 3) := by decide +kernel
theorem dX8_copy_4 : decode cX8_copy 4 = .ok (.ifCond .eq 10, 3) := by decide +kernel
theorem dX8_copy_7 : decode cX8_copy 7 = .ok (.iload_n 3, 1) := by decide +kernel
theorem dX8_copy_8 : decode cX8_copy 8 = .ok (.invokestatic 63, 3) := by decide +kernel
theorem dX8_copy_11 : decode cX8_copy 11 = .ok (.ifCond .ne 6, 3) := by decide +kernel
theorem dX8_copy_14 : decode cX8_copy 14 = .ok (.bipush (-2), 2) := by decide +kernel
theorem dX8_copy_16 : decode cX8_copy 16 = .ok (.ireturn, 1) := by decide +kernel
theorem dX8_copy_17 : decode cX8_copy 17 = .ok (.aload_n 0, 1) := by decide +kernel
theorem dX8_copy_18 : decode cX8_copy 18 = .ok (.getfield 7, 3) := by decide +kernel
theorem dX8_copy_21 : decode cX8_copy 21 = .ok (.iload_n 1, 1) := by decide +kernel
theorem dX8_copy_22 : decode cX8_copy 22 = .ok (.iaload, 1) := by decide +kernel
theorem dX8_copy_23 : decode cX8_copy 23 = .ok (.ifCond .lt 12, 3) := by decide +kernel
theorem dX8_copy_26 : decode cX8_copy 26 = .ok (.aload_n 0, 1) := by decide +kernel
theorem dX8_copy_27 : decode cX8_copy 27 = .ok (.getfield 7, 3) := by decide +kernel
theorem dX8_copy_30 : decode cX8_copy 30 = .ok (.iload_n 3, 1) := by decide +kernel
theorem dX8_copy_31 : decode cX8_copy 31 = .ok (.iaload, 1) := by decide +kernel
theorem dX8_copy_32 : decode cX8_copy 32 = .ok (.ifCond .ge 9, 3) := by decide +kernel
theorem dX8_copy_35 : decode cX8_copy 35 = .ok (.aload_n 0, 1) := by decide +kernel
theorem dX8_copy_36 : decode cX8_copy 36 = .ok (.iconst 1, 1) := by decide +kernel
theorem dX8_copy_37 : decode cX8_copy 37 = .ok (.invokevirtual 69, 3) := by decide +kernel
theorem dX8_copy_40 : decode cX8_copy 40 = .ok (.ireturn, 1) := by decide +kernel
theorem dX8_copy_41 : decode cX8_copy 41 = .ok (.aload_n 0, 1) := by decide +kernel
theorem dX8_copy_42 : decode cX8_copy 42 = .ok (.getfield 7, 3) := by decide +kernel
theorem dX8_copy_45 : decode cX8_copy 45 = .ok (.iload_n 1, 1) := by decide +kernel
theorem dX8_copy_46 : decode cX8_copy 46 = .ok (.iaload, 1) := by decide +kernel
theorem dX8_copy_47 : decode cX8_copy 47 = .ok (.aload_n 0, 1) := by decide +kernel
theorem dX8_copy_48 : decode cX8_copy 48 = .ok (.getfield 7, 3) := by decide +kernel
theorem dX8_copy_51 : decode cX8_copy 51 = .ok (.iload_n 3, 1) := by decide +kernel
theorem dX8_copy_52 : decode cX8_copy 52 = .ok (.iaload, 1) := by decide +kernel
theorem dX8_copy_53 : decode cX8_copy 53 = .ok (.if_icmp .eq 9, 3) := by decide +kernel
theorem dX8_copy_56 : decode cX8_copy 56 = .ok (.aload_n 0, 1) := by decide +kernel
theorem dX8_copy_57 : decode cX8_copy 57 = .ok (.iconst 4, 1) := by decide +kernel
theorem dX8_copy_58 : decode cX8_copy 58 = .ok (.invokevirtual 69, 3) := by decide +kernel
theorem dX8_copy_61 : decode cX8_copy 61 = .ok (.ireturn, 1) := by decide +kernel
theorem dX8_copy_62 : decode cX8_copy 62 = .ok (.iload_n 2, 1) := by decide +kernel
theorem dX8_copy_63 : decode cX8_copy 63 = .ok (.ifCond .lt 48, 3) := by decide +kernel
theorem dX8_copy_66 : decode cX8_copy 66 = .ok (.iload 4, 2) := by decide +kernel
theorem dX8_copy_68 : decode cX8_copy 68 = .ok (.ifCond .lt 43, 3) := by decide +kernel
theorem dX8_copy_71 : decode cX8_copy 71 = .ok (.iload 5, 2) := by decide +kernel
theorem dX8_copy_73 : decode cX8_copy 73 = .ok (.ifCond .lt 38, 3) := by decide +kernel
theorem dX8_copy_76 : decode cX8_copy 76 = .ok (.iload_n 2, 1) := by decide +kernel
theorem dX8_copy_77 : decode cX8_copy 77 = .ok (.i2l, 1) := by decide +kernel
theorem dX8_copy_78 : decode cX8_copy 78 = .ok (.iload 5, 2) := by decide +kernel
theorem dX8_copy_80 : decode cX8_copy 80 = .ok (.i2l, 1) := by decide +kernel
theorem dX8_copy_81 : decode cX8_copy 81 = .ok (.ladd, 1) := by decide +kernel
theorem dX8_copy_82 : decode cX8_copy 82 = .ok (.aload_n 0, 1) := by decide +kernel
theorem dX8_copy_83 : decode cX8_copy 83 = .ok (.getfield 13, 3) := by decide +kernel
theorem dX8_copy_86 : decode cX8_copy 86 = .ok (.iload_n 1, 1) := by decide +kernel
theorem dX8_copy_87 : decode cX8_copy 87 = .ok (.iaload, 1) := by decide +kernel
theorem dX8_copy_88 : decode cX8_copy 88 = .ok (.i2l, 1) := by decide +kernel
theorem dX8_copy_89 : decode cX8_copy 89 = .ok (.lcmp, 1) := by decide +kernel
theorem dX8_copy_90 : decode cX8_copy 90 = .ok (.ifCond .gt 21, 3) := by decide +kernel
theorem dX8_copy_93 : decode cX8_copy 93 = .ok (.iload 4, 2) := by decide +kernel
theorem dX8_copy_95 : decode cX8_copy 95 = .ok (.i2l, 1) := by decide +kernel
theorem dX8_copy_96 : decode cX8_copy 96 = .ok (.iload 5, 2) := by decide +kernel
theorem dX8_copy_98 : decode cX8_copy 98 = .ok (.i2l, 1) := by decide +kernel
theorem dX8_copy_99 : decode cX8_copy 99 = .ok (.ladd, 1) := by decide +kernel
theorem dX8_copy_100 : decode cX8_copy 100 = .ok (.aload_n 0, 1) := by decide +kernel
theorem dX8_copy_101 : decode cX8_copy 101 = .ok (.getfield 13, 3) := by decide +kernel
theorem dX8_copy_104 : decode cX8_copy 104 = .ok (.iload_n 3, 1) := by decide +kernel
theorem dX8_copy_105 : decode cX8_copy 105 = .ok (.iaload, 1) := by decide +kernel
theorem dX8_copy_106 : decode cX8_copy 106 = .ok (.i2l, 1) := by decide +kernel
theorem dX8_copy_107 : decode cX8_copy 107 = .ok (.lcmp, 1) := by decide +kernel
theorem dX8_copy_108 : decode cX8_copy 108 = .ok (.ifCond .le 9, 3) := by decide +kernel
theorem dX8_copy_111 : decode cX8_copy 111 = .ok (.aload_n 0, 1) := by decide +kernel
theorem dX8_copy_112 : decode cX8_copy 112 = .ok (.iconst 2, 1) := by decide +kernel
theorem dX8_copy_113 : decode cX8_copy 113 = .ok (.invokevirtual 69, 3) := by decide +kernel
theorem dX8_copy_116 : decode cX8_copy 116 = .ok (.ireturn, 1) := by decide +kernel
theorem dX8_copy_117 : decode cX8_copy 117 = .ok (.iconst 0, 1) := by decide +kernel
theorem dX8_copy_118 : decode cX8_copy 118 = .ok (.istore 6, 2) := by decide +kernel
theorem dX8_copy_120 : decode cX8_copy 120 = .ok (.iload 6, 2) := by decide +kernel
theorem dX8_copy_122 : decode cX8_copy 122 = .ok (.iload 5, 2) := by decide +kernel
theorem dX8_copy_124 : decode cX8_copy 124 = .ok (.if_icmp .ge 30, 3) := by decide +kernel
theorem dX8_copy_127 : decode cX8_copy 127 = .ok (.aload_n 0, 1) := by decide +kernel
theorem dX8_copy_128 : decode cX8_copy 128 = .ok (.getfield 19, 3) := by decide +kernel
theorem dX8_copy_131 : decode cX8_copy 131 = .ok (.iload 6, 2) := by decide +kernel
theorem dX8_copy_133 : decode cX8_copy 133 = .ok (.aload_n 0, 1) := by decide +kernel
theorem dX8_copy_134 : decode cX8_copy 134 = .ok (.getfield 16, 3) := by decide +kernel
theorem dX8_copy_137 : decode cX8_copy 137 = .ok (.bipush 64, 2) := by decide +kernel
theorem dX8_copy_139 : decode cX8_copy 139 = .ok (.iload_n 1, 1) := by decide +kernel
theorem dX8_copy_140 : decode cX8_copy 140 = .ok (.imul, 1) := by decide +kernel
theorem dX8_copy_141 : decode cX8_copy 141 = .ok (.iload_n 2, 1) := by decide +kernel
theorem dX8_copy_142 : decode cX8_copy 142 = .ok (.iadd, 1) := by decide +kernel
theorem dX8_copy_143 : decode cX8_copy 143 = .ok (.iload 6, 2) := by decide +kernel
theorem dX8_copy_145 : decode cX8_copy 145 = .ok (.iadd, 1) := by decide +kernel
theorem dX8_copy_146 : decode cX8_copy 146 = .ok (.iaload, 1) := by decide +kernel
theorem dX8_copy_147 : decode cX8_copy 147 = .ok (.iastore, 1) := by decide +kernel
theorem dX8_copy_148 : decode cX8_copy 148 = .ok (.iinc 6 1, 3) := by decide +kernel
theorem dX8_copy_151 : decode cX8_copy 151 = .ok (.goto (-31), 3) := by decide +kernel
theorem dX8_copy_154 : decode cX8_copy 154 = .ok (.iconst 0, 1) := by decide +kernel
theorem dX8_copy_155 : decode cX8_copy 155 = .ok (.istore 6, 2) := by decide +kernel
theorem dX8_copy_157 : decode cX8_copy 157 = .ok (.iload 6, 2) := by decide +kernel
theorem dX8_copy_159 : decode cX8_copy 159 = .ok (.iload 5, 2) := by decide +kernel
theorem dX8_copy_161 : decode cX8_copy 161 = .ok (.if_icmp .ge 31, 3) := by decide +kernel
theorem dX8_copy_164 : decode cX8_copy 164 = .ok (.aload_n 0, 1) := by decide +kernel
theorem dX8_copy_165 : decode cX8_copy 165 = .ok (.getfield 16, 3) := by decide +kernel
theorem dX8_copy_168 : decode cX8_copy 168 = .ok (.bipush 64, 2) := by decide +kernel
theorem dX8_copy_170 : decode cX8_copy 170 = .ok (.iload_n 3, 1) := by decide +kernel
theorem dX8_copy_171 : decode cX8_copy 171 = .ok (.imul, 1) := by decide +kernel
theorem dX8_copy_172 : decode cX8_copy 172 = .ok (.iload 4, 2) := by decide +kernel
theorem dX8_copy_174 : decode cX8_copy 174 = .ok (.iadd, 1) := by decide +kernel
theorem dX8_copy_175 : decode cX8_copy 175 = .ok (.iload 6, 2) := by decide +kernel
theorem dX8_copy_177 : decode cX8_copy 177 = .ok (.iadd, 1) := by decide +kernel
theorem dX8_copy_178 : decode cX8_copy 178 = .ok (.aload_n 0, 1) := by decide +kernel
theorem dX8_copy_179 : decode cX8_copy 179 = .ok (.getfield 19, 3) := by decide +kernel
theorem dX8_copy_182 : decode cX8_copy 182 = .ok (.iload 6, 2) := by decide +kernel
theorem dX8_copy_184 : decode cX8_copy 184 = .ok (.iaload, 1) := by decide +kernel
theorem dX8_copy_185 : decode cX8_copy 185 = .ok (.iastore, 1) := by decide +kernel
theorem dX8_copy_186 : decode cX8_copy 186 = .ok (.iinc 6 1, 3) := by decide +kernel
theorem dX8_copy_189 : decode cX8_copy 189 = .ok (.goto (-32), 3) := by decide +kernel
theorem dX8_copy_192 : decode cX8_copy 192 = .ok (.iconst 1, 1) := by decide +kernel
theorem dX8_copy_193 : decode cX8_copy 193 = .ok (.ireturn, 1) := by decide +kernel
theorem iw_X8_copy_X8 : ∀ w ∈ u_ws RX8 TX8 18, w ∈ wsX8_copy := by decide +kernel
theorem lk_X8_copy_0 : Cond.fieldLink RX8 7 (TX8 0).1 (TX8 0).2.1 (TX8 0).2.2.1 ∈ wsX8_copy := by decide +kernel
theorem lk_X8_copy_1 : Cond.fieldLink RX8 13 (TX8 1).1 (TX8 1).2.1 (TX8 1).2.2.1 ∈ wsX8_copy := by decide +kernel
theorem lk_X8_copy_2 : Cond.fieldLink RX8 19 (TX8 3).1 (TX8 3).2.1 (TX8 3).2.2.1 ∈ wsX8_copy := by decide +kernel
theorem lk_X8_copy_3 : Cond.fieldLink RX8 16 (TX8 2).1 (TX8 2).2.1 (TX8 2).2.2.1 ∈ wsX8_copy := by decide +kernel
set_option maxRecDepth 100000 in
theorem r_X8_copy_0 {X : Bn} (C : Cx X cX8_copy 7 RX8 wsX8_copy 2 45) (ad : Nat → Nat) (S : MS) (x1 : Int32) (x2 : Int32) (x3 : Int32) (x4 : Int32) (x5 : Int32) (h : (((f_X8_isSheet x1) = true) → ((((f_X8_isSheet x3) = true) → ((vp_in x1 4) ∧ (((S.1 0 x1.toNatClampNeg < 0) → (Ends X (some .int) (some (.int (f_X8_met S (1 : Int32)))) (mW X.E ad (s_X8_met S (1 : Int32))))) ∧ (¬ S.1 0 x1.toNatClampNeg < 0 → ((vp_in x3 4) ∧ (((0 ≤ S.1 0 x3.toNatClampNeg) → ((vp_in x1 4) ∧ ((vp_in x3 4) ∧ (((S.1 0 x1.toNatClampNeg = S.1 0 x3.toNatClampNeg) → (((x2 < 0) → (Ends X (some .int) (some (.int (f_X8_met S (2 : Int32)))) (mW X.E ad (s_X8_met S (2 : Int32))))) ∧ (¬ x2 < 0 → (((x4 < 0) → (Ends X (some .int) (some (.int (f_X8_met S (2 : Int32)))) (mW X.E ad (s_X8_met S (2 : Int32))))) ∧ (¬ x4 < 0 → (((x5 < 0) → (Ends X (some .int) (some (.int (f_X8_met S (2 : Int32)))) (mW X.E ad (s_X8_met S (2 : Int32))))) ∧ (¬ x5 < 0 → ((vp_in x1 4) ∧ ((((S.1 1 x1.toNatClampNeg).toInt64 < x2.toInt64 + x5.toInt64) → (Ends X (some .int) (some (.int (f_X8_met S (2 : Int32)))) (mW X.E ad (s_X8_met S (2 : Int32))))) ∧ (¬ (S.1 1 x1.toNatClampNeg).toInt64 < x2.toInt64 + x5.toInt64 → ((vp_in x3 4) ∧ ((((S.1 1 x3.toNatClampNeg).toInt64 < x4.toInt64 + x5.toInt64) → (Ends X (some .int) (some (.int (f_X8_met S (2 : Int32)))) (mW X.E ad (s_X8_met S (2 : Int32))))) ∧ (¬ (S.1 1 x3.toNatClampNeg).toInt64 < x4.toInt64 + x5.toInt64 → (At X 7 (mW X.E ad S) 120 [(0, .ref (ad 0)), (1, .int x1), (2, .int x2), (3, .int x3), (4, .int x4), (5, .int x5), (6, .int 0)] [])))))))))))))) ∧ (¬ S.1 0 x1.toNatClampNeg = S.1 0 x3.toNatClampNeg → (Ends X (some .int) (some (.int (f_X8_met S (4 : Int32)))) (mW X.E ad (s_X8_met S (4 : Int32))))))))) ∧ (¬ 0 ≤ S.1 0 x3.toNatClampNeg → (Ends X (some .int) (some (.int (f_X8_met S (1 : Int32)))) (mW X.E ad (s_X8_met S (1 : Int32))))))))))) ∧ ((f_X8_isSheet x3) = false → (Ends X (some .int) (some (.int (-2))) (mW X.E ad S))))) ∧ ((f_X8_isSheet x1) = false → (Ends X (some .int) (some (.int (-2))) (mW X.E ad S)))) : At X 7 (mW X.E ad S) 0 [(0, .ref (ad 0)), (1, .int x1), (2, .int x2), (3, .int x3), (4, .int x4), (5, .int x5)] [] := by
  refine at_iload_n C dX8_copy_0 rfl (j := 1) rfl ?_
  refine at_cS0 C 1 (c_X8_isSheet X.l X.D X.E X.a1 X.a2 x1) gX8_copy_X8_isSheet rfl (by decide +kernel) ⟨rfl, rfl⟩ rfl rfl rfl dX8_copy_1 ?_
  refine at_ifB_eq C dX8_copy_4 (tgt := 14) (by decide) (fun hc0 => ?_) (fun hc0 => ?_)
  · replace h := h.2 hc0
    refine at_bipush C dX8_copy_14 (v := (-2)) rfl ?_
    exact at_iret C dX8_copy_16 h
  · replace h := h.1 hc0
    refine at_iload_n C dX8_copy_7 rfl (j := 3) rfl ?_
    refine at_cS0 C 1 (c_X8_isSheet X.l X.D X.E X.a1 X.a2 x3) gX8_copy_X8_isSheet rfl (by decide +kernel) ⟨rfl, rfl⟩ rfl rfl rfl dX8_copy_8 ?_
    refine at_ifB_ne C dX8_copy_11 (tgt := 17) (by decide) (fun hc1 => ?_) (fun hc1 => ?_)
    · replace h := h.1 hc1
      refine at_aload_n C dX8_copy_17 rfl (j := 0) rfl ?_
      refine at_get C (K := RX8) (T := TX8) (N := 18) (ci := 7) (v := .ref (ad 1)) iw_X8_copy_X8 0 mW_c0 rfl 0 (by decide) lk_X8_copy_0 rfl dX8_copy_18 ?_
      refine at_iload_n C dX8_copy_21 rfl (j := 1) rfl ?_
      refine at_iald C 1 mW_c1 h.1 dX8_copy_22 ?_
      replace h := h.2
      refine at_if_lt C dX8_copy_23 (tgt := 35) (by decide) (fun hc2 => ?_) (fun hc2 => ?_)
      · replace h := h.1 hc2
        refine at_aload_n C dX8_copy_35 rfl (j := 0) rfl ?_
        refine at_iconst C dX8_copy_36 (v := 1) rfl ?_
        refine at_cV1 C 1 (c_X8_met X.l X.D X.E X.a1 X.a2 ad S (1 : Int32)) gX8_copy_X8_met rfl (by decide +kernel) ⟨rfl, rfl⟩ rfl rfl rfl 0 mW_c0 rfl dX8_copy_37 ?_
        exact at_iret C dX8_copy_40 h
      · replace h := h.2 hc2
        refine at_aload_n C dX8_copy_26 rfl (j := 0) rfl ?_
        refine at_get C (K := RX8) (T := TX8) (N := 18) (ci := 7) (v := .ref (ad 1)) iw_X8_copy_X8 0 mW_c0 rfl 0 (by decide) lk_X8_copy_0 rfl dX8_copy_27 ?_
        refine at_iload_n C dX8_copy_30 rfl (j := 3) rfl ?_
        refine at_iald C 1 mW_c1 h.1 dX8_copy_31 ?_
        replace h := h.2
        refine at_if_ge C dX8_copy_32 (tgt := 41) (by decide) (fun hc3 => ?_) (fun hc3 => ?_)
        · replace h := h.1 hc3
          refine at_aload_n C dX8_copy_41 rfl (j := 0) rfl ?_
          refine at_get C (K := RX8) (T := TX8) (N := 18) (ci := 7) (v := .ref (ad 1)) iw_X8_copy_X8 0 mW_c0 rfl 0 (by decide) lk_X8_copy_0 rfl dX8_copy_42 ?_
          refine at_iload_n C dX8_copy_45 rfl (j := 1) rfl ?_
          refine at_iald C 1 mW_c1 h.1 dX8_copy_46 ?_
          replace h := h.2
          refine at_aload_n C dX8_copy_47 rfl (j := 0) rfl ?_
          refine at_get C (K := RX8) (T := TX8) (N := 18) (ci := 7) (v := .ref (ad 1)) iw_X8_copy_X8 0 mW_c0 rfl 0 (by decide) lk_X8_copy_0 rfl dX8_copy_48 ?_
          refine at_iload_n C dX8_copy_51 rfl (j := 3) rfl ?_
          refine at_iald C 1 mW_c1 h.1 dX8_copy_52 ?_
          replace h := h.2
          refine at_icmp_eq C dX8_copy_53 (tgt := 62) (by decide) (fun hc4 => ?_) (fun hc4 => ?_)
          · replace h := h.1 hc4
            refine at_iload_n C dX8_copy_62 rfl (j := 2) rfl ?_
            refine at_if_lt C dX8_copy_63 (tgt := 111) (by decide) (fun hc5 => ?_) (fun hc5 => ?_)
            · replace h := h.1 hc5
              refine at_aload_n C dX8_copy_111 rfl (j := 0) rfl ?_
              refine at_iconst C dX8_copy_112 (v := 2) rfl ?_
              refine at_cV1 C 1 (c_X8_met X.l X.D X.E X.a1 X.a2 ad S (2 : Int32)) gX8_copy_X8_met rfl (by decide +kernel) ⟨rfl, rfl⟩ rfl rfl rfl 0 mW_c0 rfl dX8_copy_113 ?_
              exact at_iret C dX8_copy_116 h
            · replace h := h.2 hc5
              refine at_iload C dX8_copy_66 (j := 4) rfl ?_
              refine at_if_lt C dX8_copy_68 (tgt := 111) (by decide) (fun hc6 => ?_) (fun hc6 => ?_)
              · replace h := h.1 hc6
                refine at_aload_n C dX8_copy_111 rfl (j := 0) rfl ?_
                refine at_iconst C dX8_copy_112 (v := 2) rfl ?_
                refine at_cV1 C 1 (c_X8_met X.l X.D X.E X.a1 X.a2 ad S (2 : Int32)) gX8_copy_X8_met rfl (by decide +kernel) ⟨rfl, rfl⟩ rfl rfl rfl 0 mW_c0 rfl dX8_copy_113 ?_
                exact at_iret C dX8_copy_116 h
              · replace h := h.2 hc6
                refine at_iload C dX8_copy_71 (j := 5) rfl ?_
                refine at_if_lt C dX8_copy_73 (tgt := 111) (by decide) (fun hc7 => ?_) (fun hc7 => ?_)
                · replace h := h.1 hc7
                  refine at_aload_n C dX8_copy_111 rfl (j := 0) rfl ?_
                  refine at_iconst C dX8_copy_112 (v := 2) rfl ?_
                  refine at_cV1 C 1 (c_X8_met X.l X.D X.E X.a1 X.a2 ad S (2 : Int32)) gX8_copy_X8_met rfl (by decide +kernel) ⟨rfl, rfl⟩ rfl rfl rfl 0 mW_c0 rfl dX8_copy_113 ?_
                  exact at_iret C dX8_copy_116 h
                · replace h := h.2 hc7
                  refine at_iload_n C dX8_copy_76 rfl (j := 2) rfl ?_
                  refine at_i2l C dX8_copy_77 ?_
                  refine at_iload C dX8_copy_78 (j := 5) rfl ?_
                  refine at_i2l C dX8_copy_80 ?_
                  refine at_ladd C dX8_copy_81 ?_
                  refine at_aload_n C dX8_copy_82 rfl (j := 0) rfl ?_
                  refine at_get C (K := RX8) (T := TX8) (N := 18) (ci := 7) (v := .ref (ad 2)) iw_X8_copy_X8 0 mW_c0 rfl 1 (by decide) lk_X8_copy_1 rfl dX8_copy_83 ?_
                  refine at_iload_n C dX8_copy_86 rfl (j := 1) rfl ?_
                  refine at_iald C 2 mW_c2 h.1 dX8_copy_87 ?_
                  replace h := h.2
                  refine at_i2l C dX8_copy_88 ?_
                  refine at_lif_gt C dX8_copy_89 dX8_copy_90 (tgt := 111) (by decide) (fun hc8 => ?_) (fun hc8 => ?_)
                  · replace h := h.1 hc8
                    refine at_aload_n C dX8_copy_111 rfl (j := 0) rfl ?_
                    refine at_iconst C dX8_copy_112 (v := 2) rfl ?_
                    refine at_cV1 C 1 (c_X8_met X.l X.D X.E X.a1 X.a2 ad S (2 : Int32)) gX8_copy_X8_met rfl (by decide +kernel) ⟨rfl, rfl⟩ rfl rfl rfl 0 mW_c0 rfl dX8_copy_113 ?_
                    exact at_iret C dX8_copy_116 h
                  · replace h := h.2 hc8
                    refine at_iload C dX8_copy_93 (j := 4) rfl ?_
                    refine at_i2l C dX8_copy_95 ?_
                    refine at_iload C dX8_copy_96 (j := 5) rfl ?_
                    refine at_i2l C dX8_copy_98 ?_
                    refine at_ladd C dX8_copy_99 ?_
                    refine at_aload_n C dX8_copy_100 rfl (j := 0) rfl ?_
                    refine at_get C (K := RX8) (T := TX8) (N := 18) (ci := 7) (v := .ref (ad 2)) iw_X8_copy_X8 0 mW_c0 rfl 1 (by decide) lk_X8_copy_1 rfl dX8_copy_101 ?_
                    refine at_iload_n C dX8_copy_104 rfl (j := 3) rfl ?_
                    refine at_iald C 2 mW_c2 h.1 dX8_copy_105 ?_
                    replace h := h.2
                    refine at_i2l C dX8_copy_106 ?_
                    refine at_lif_le C dX8_copy_107 dX8_copy_108 (tgt := 117) (by decide) (fun hc9 => ?_) (fun hc9 => ?_)
                    · replace h := h.2 hc9
                      refine at_iconst C dX8_copy_117 (v := 0) rfl ?_
                      refine at_istore C dX8_copy_118 (by decide) (lv' := [(6, .int 0), (0, .ref (ad 0)), (1, .int x1), (2, .int x2), (3, .int x3), (4, .int x4), (5, .int x5)]) rfl ?_
                      refine at_lv [1, 2, 3, 4, 5, 6, 0] rfl ?_
                      exact h
                    · replace h := h.1 hc9
                      refine at_aload_n C dX8_copy_111 rfl (j := 0) rfl ?_
                      refine at_iconst C dX8_copy_112 (v := 2) rfl ?_
                      refine at_cV1 C 1 (c_X8_met X.l X.D X.E X.a1 X.a2 ad S (2 : Int32)) gX8_copy_X8_met rfl (by decide +kernel) ⟨rfl, rfl⟩ rfl rfl rfl 0 mW_c0 rfl dX8_copy_113 ?_
                      exact at_iret C dX8_copy_116 h
          · replace h := h.2 hc4
            refine at_aload_n C dX8_copy_56 rfl (j := 0) rfl ?_
            refine at_iconst C dX8_copy_57 (v := 4) rfl ?_
            refine at_cV1 C 1 (c_X8_met X.l X.D X.E X.a1 X.a2 ad S (4 : Int32)) gX8_copy_X8_met rfl (by decide +kernel) ⟨rfl, rfl⟩ rfl rfl rfl 0 mW_c0 rfl dX8_copy_58 ?_
            exact at_iret C dX8_copy_61 h
        · replace h := h.2 hc3
          refine at_aload_n C dX8_copy_35 rfl (j := 0) rfl ?_
          refine at_iconst C dX8_copy_36 (v := 1) rfl ?_
          refine at_cV1 C 1 (c_X8_met X.l X.D X.E X.a1 X.a2 ad S (1 : Int32)) gX8_copy_X8_met rfl (by decide +kernel) ⟨rfl, rfl⟩ rfl rfl rfl 0 mW_c0 rfl dX8_copy_37 ?_
          exact at_iret C dX8_copy_40 h
    · replace h := h.2 hc1
      refine at_bipush C dX8_copy_14 (v := (-2)) rfl ?_
      exact at_iret C dX8_copy_16 h
set_option maxRecDepth 100000 in
theorem r_X8_copy_120 {X : Bn} (C : Cx X cX8_copy 7 RX8 wsX8_copy 2 45) (ad : Nat → Nat) (S : MS) (x1 : Int32) (x2 : Int32) (x3 : Int32) (x4 : Int32) (x5 : Int32) (x6 : Int32) (h : ((x5 ≤ x6) → (At X 7 (mW X.E ad S) 157 [(0, .ref (ad 0)), (3, .int x3), (4, .int x4), (5, .int x5), (6, .int 0)] [])) ∧ (¬ x5 ≤ x6 → ((vp_in (((64 * x1) + x2) + x6) 256) ∧ ((vp_in x6 64) ∧ (At X 7 (mW X.E ad (pg S 3 x6.toNatClampNeg (S.1 2 ((((64 * x1) + x2) + x6).toNatClampNeg)))) 120 [(0, .ref (ad 0)), (1, .int x1), (2, .int x2), (3, .int x3), (4, .int x4), (5, .int x5), (6, .int (x6 + 1))] []))))) : At X 7 (mW X.E ad S) 120 [(0, .ref (ad 0)), (1, .int x1), (2, .int x2), (3, .int x3), (4, .int x4), (5, .int x5), (6, .int x6)] [] := by
  refine at_iload C dX8_copy_120 (j := 6) rfl ?_
  refine at_iload C dX8_copy_122 (j := 5) rfl ?_
  refine at_icmp_ge C dX8_copy_124 (tgt := 154) (by decide) (fun hc10 => ?_) (fun hc10 => ?_)
  · replace h := h.1 hc10
    refine at_iconst C dX8_copy_154 (v := 0) rfl ?_
    refine at_istore C dX8_copy_155 (by decide) (lv' := [(6, .int 0), (0, .ref (ad 0)), (1, .int x1), (2, .int x2), (3, .int x3), (4, .int x4), (5, .int x5)]) rfl ?_
    refine at_lv [1, 4, 5, 6, 0] rfl ?_
    exact h
  · replace h := h.2 hc10
    refine at_aload_n C dX8_copy_127 rfl (j := 0) rfl ?_
    refine at_get C (K := RX8) (T := TX8) (N := 18) (ci := 7) (v := .ref (ad 4)) iw_X8_copy_X8 0 mW_c0 rfl 3 (by decide) lk_X8_copy_2 rfl dX8_copy_128 ?_
    refine at_iload C dX8_copy_131 (j := 6) rfl ?_
    refine at_aload_n C dX8_copy_133 rfl (j := 0) rfl ?_
    refine at_get C (K := RX8) (T := TX8) (N := 18) (ci := 7) (v := .ref (ad 3)) iw_X8_copy_X8 0 mW_c0 rfl 2 (by decide) lk_X8_copy_3 rfl dX8_copy_134 ?_
    refine at_bipush C dX8_copy_137 (v := 64) rfl ?_
    refine at_iload_n C dX8_copy_139 rfl (j := 1) rfl ?_
    refine at_imul C dX8_copy_140 ?_
    refine at_iload_n C dX8_copy_141 rfl (j := 2) rfl ?_
    refine at_iadd C dX8_copy_142 ?_
    refine at_iload C dX8_copy_143 (j := 6) rfl ?_
    refine at_iadd C dX8_copy_145 ?_
    refine at_iald C 3 mW_c3 h.1 dX8_copy_146 ?_
    replace h := h.2
    refine at_iast C 4 mW_c4 h.1 mW_s4 dX8_copy_147 ?_
    replace h := h.2
    refine at_iinc C dX8_copy_148 (j := 6) (v := x6 + 1) rfl rfl (by decide) (lv' := [(6, .int (x6 + 1)), (0, .ref (ad 0)), (1, .int x1), (2, .int x2), (3, .int x3), (4, .int x4), (5, .int x5)]) rfl ?_
    refine at_goto C dX8_copy_151 (tgt := 120) (by decide) ?_
    refine at_lv [1, 2, 3, 4, 5, 6, 0] rfl ?_
    exact h
set_option maxRecDepth 100000 in
theorem r_X8_copy_157 {X : Bn} (C : Cx X cX8_copy 7 RX8 wsX8_copy 2 45) (ad : Nat → Nat) (S : MS) (x3 : Int32) (x4 : Int32) (x5 : Int32) (x6 : Int32) (h : ((x5 ≤ x6) → (Ends X (some .int) (some (.int 1)) (mW X.E ad S))) ∧ (¬ x5 ≤ x6 → ((vp_in x6 64) ∧ ((vp_in (((64 * x3) + x4) + x6) 256) ∧ (At X 7 (mW X.E ad (pg S 2 ((((64 * x3) + x4) + x6).toNatClampNeg) (S.1 3 x6.toNatClampNeg))) 157 [(0, .ref (ad 0)), (3, .int x3), (4, .int x4), (5, .int x5), (6, .int (x6 + 1))] []))))) : At X 7 (mW X.E ad S) 157 [(0, .ref (ad 0)), (3, .int x3), (4, .int x4), (5, .int x5), (6, .int x6)] [] := by
  refine at_iload C dX8_copy_157 (j := 4) rfl ?_
  refine at_iload C dX8_copy_159 (j := 3) rfl ?_
  refine at_icmp_ge C dX8_copy_161 (tgt := 192) (by decide) (fun hc11 => ?_) (fun hc11 => ?_)
  · replace h := h.1 hc11
    refine at_iconst C dX8_copy_192 (v := 1) rfl ?_
    exact at_iret C dX8_copy_193 h
  · replace h := h.2 hc11
    refine at_aload_n C dX8_copy_164 rfl (j := 0) rfl ?_
    refine at_get C (K := RX8) (T := TX8) (N := 18) (ci := 7) (v := .ref (ad 3)) iw_X8_copy_X8 0 mW_c0 rfl 2 (by decide) lk_X8_copy_3 rfl dX8_copy_165 ?_
    refine at_bipush C dX8_copy_168 (v := 64) rfl ?_
    refine at_iload_n C dX8_copy_170 rfl (j := 1) rfl ?_
    refine at_imul C dX8_copy_171 ?_
    refine at_iload C dX8_copy_172 (j := 2) rfl ?_
    refine at_iadd C dX8_copy_174 ?_
    refine at_iload C dX8_copy_175 (j := 4) rfl ?_
    refine at_iadd C dX8_copy_177 ?_
    refine at_aload_n C dX8_copy_178 rfl (j := 0) rfl ?_
    refine at_get C (K := RX8) (T := TX8) (N := 18) (ci := 7) (v := .ref (ad 4)) iw_X8_copy_X8 0 mW_c0 rfl 3 (by decide) lk_X8_copy_2 rfl dX8_copy_179 ?_
    refine at_iload C dX8_copy_182 (j := 4) rfl ?_
    refine at_iald C 4 mW_c4 h.1 dX8_copy_184 ?_
    replace h := h.2
    refine at_iast C 3 mW_c3 h.1 mW_s3 dX8_copy_185 ?_
    replace h := h.2
    refine at_iinc C dX8_copy_186 (j := 4) (v := x6 + 1) rfl rfl (by decide) (lv' := [(6, .int (x6 + 1)), (0, .ref (ad 0)), (3, .int x3), (4, .int x4), (5, .int x5)]) rfl ?_
    refine at_goto C dX8_copy_189 (tgt := 157) (by decide) ?_
    refine at_lv [1, 2, 3, 4, 0] rfl ?_
    exact h
def cpA (p n : Nat) (S : MS) : MS := itF (fun a S => pg S 3 a (S.1 2 (p + a))) 0 n S
def cpB (p n : Nat) (S : MS) : MS := itF (fun a S => pg S 2 (p + a) (S.1 3 a)) 0 n S
/-- what keeps one from copying: the finding, 0 if nothing does -/
def cpNo (S : MS) (x1 x2 x3 x4 x5 : Int32) : Int32 := if S.1 0 x1.toNatClampNeg < 0 then 1 else (if 0 ≤ S.1 0 x3.toNatClampNeg then (if S.1 0 x1.toNatClampNeg = S.1 0 x3.toNatClampNeg then (if x2 < 0 then 2 else (if x4 < 0 then 2 else (if x5 < 0 then 2 else (if (S.1 1 x1.toNatClampNeg).toInt64 < x2.toInt64 + x5.toInt64 then 2 else (if (S.1 1 x3.toNatClampNeg).toInt64 < x4.toInt64 + x5.toInt64 then 2 else 0))))) else 4) else 1)
def f_X8_copy (S : MS) (x1 x2 x3 x4 x5 : Int32) : Int32 := if f_X8_isSheet x1 then (if f_X8_isSheet x3 then (if cpNo S x1 x2 x3 x4 x5 = 0 then 1 else f_X8_met S (cpNo S x1 x2 x3 x4 x5)) else (-2)) else (-2)
def s_X8_copy (S : MS) (x1 x2 x3 x4 x5 : Int32) : MS := if f_X8_isSheet x1 then (if f_X8_isSheet x3 then (if cpNo S x1 x2 x3 x4 x5 = 0 then cpB (64 * x3.toNatClampNeg + x4.toNatClampNeg) x5.toNatClampNeg (cpA (64 * x1.toNatClampNeg + x2.toNatClampNeg) x5.toNatClampNeg S) else s_X8_met S (cpNo S x1 x2 x3 x4 x5)) else S) else S
/-- the sizes are as they may be -/
def okSz (S : MS) : Prop := ∀ s, s < 4 → ∃ z, z ≤ 64 ∧ S.1 1 s = nI z
theorem sum_nI {i n z : Nat} (hi : i < 2 ^ 31) (hn : n < 2 ^ 31) (hz : z < 2 ^ 31) : ((nI z).toInt64 < (nI i).toInt64 + (nI n).toInt64) ↔ z < i + n := by
  rw [nI_l hi, nI_l hn, nI_l hz, lN_add]
  exact pk_lLT (by omega) (by omega)
set_option maxRecDepth 100000 in
theorem c_X8_copy (l : Launch) (D : va_G) (E : Nat → ClassId) (a1 a2 : Nat) (ad : Nat → Nat) (S : MS) (x1 x2 x3 x4 x5 : Int32) (hp : okSz S) : Fn l D E a1 a2 yX8_copy wsX8_copy 2 45 [.ref (ad 0), .int x1, .int x2, .int x3, .int x4, .int x5] (mW E ad S) (some (.int (f_X8_copy S x1 x2 x3 x4 x5))) (mW E ad (s_X8_copy S x1 x2 x3 x4 x5)) := by
  refine Fn.of (cc := cX8_copy) (maxL := 7) (ret := (some .int)) (own := RX8) (by decide) rfl rfl (sameM _ _ _ _) (Nat.le_of_ble_eq_true rfl) (fun X h1 h2 h3 h4 h5 C hE => ?_)
  subst h1 h2 h3 h4 h5
  have fin : ∀ v : Int32, f_X8_isSheet x1 = true → f_X8_isSheet x3 = true → cpNo S x1 x2 x3 x4 x5 = v → ¬ v = 0 → Ends X (some .int) (some (.int (f_X8_met S v))) (mW X.E ad (s_X8_met S v)) := by
    intro v a1 a2 e h0
    simp only [f_X8_copy, s_X8_copy, if_pos a1, if_pos a2, e, if_neg h0] at hE
    exact hE
  refine r_X8_copy_0 C ad S x1 x2 x3 x4 x5 ⟨fun a1 => ⟨fun a2 => ?_, fun a2 => ?_⟩, fun a1 => ?_⟩
  rotate_left
  · simp only [f_X8_copy, s_X8_copy, if_pos a1, if_neg (show ¬ f_X8_isSheet x3 = true by rw [a2]; decide)] at hE
    exact hE
  · simp only [f_X8_copy, s_X8_copy, if_neg (show ¬ f_X8_isSheet x1 = true by rw [a1]; decide)] at hE
    exact hE
  have fin := fun v => fin v a1 a2
  obtain ⟨s, hs, rfl⟩ := isSheet_nI a1
  obtain ⟨t, ht, rfl⟩ := isSheet_nI a2
  have v1 : vp_in (nI s) 4 := vp_in_nI (by omega) (by decide)
  have v3 : vp_in (nI t) 4 := vp_in_nI (by omega) (by decide)
  refine ⟨v1, fun b1 => fin 1 (by rw [cpNo, if_pos b1]) (by decide), fun b1 => ⟨v3, fun b2 => ⟨v1, v3, fun b3 => ?_, fun b3 => fin 4 (by rw [cpNo, if_neg b1, if_pos b2, if_neg b3]) (by decide)⟩, fun b2 => fin 1 (by rw [cpNo, if_neg b1, if_neg b2]) (by decide)⟩⟩
  refine ⟨fun b4 => fin 2 (by rw [cpNo, if_neg b1, if_pos b2, if_pos b3, if_pos b4]) (by decide), fun b4 => ⟨fun b5 => fin 2 (by rw [cpNo, if_neg b1, if_pos b2, if_pos b3, if_neg b4, if_pos b5]) (by decide), fun b5 => ⟨fun b6 => fin 2 (by rw [cpNo, if_neg b1, if_pos b2, if_pos b3, if_neg b4, if_neg b5, if_pos b6]) (by decide), fun b6 => ⟨v1, fun b7 => fin 2 (by rw [cpNo, if_neg b1, if_pos b2, if_pos b3, if_neg b4, if_neg b5, if_neg b6, if_pos b7]) (by decide), fun b7 => ⟨v3, fun b8 => fin 2 (by rw [cpNo, if_neg b1, if_pos b2, if_pos b3, if_neg b4, if_neg b5, if_neg b6, if_neg b7, if_pos b8]) (by decide), fun b8 => ?_⟩⟩⟩⟩⟩
  have e0 : cpNo S (nI s) x2 (nI t) x4 x5 = 0 := by rw [cpNo, if_neg b1, if_pos b2, if_pos b3, if_neg b4, if_neg b5, if_neg b6, if_neg b7, if_neg b8]
  simp only [f_X8_copy, s_X8_copy, if_pos a1, if_pos a2, if_pos e0] at hE
  obtain ⟨i, hi, rfl⟩ := nI_of b4
  obtain ⟨j, hj, rfl⟩ := nI_of b5
  obtain ⟨n, hn, rfl⟩ := nI_of b6
  rw [nI_clamp (show s < 2 ^ 31 by omega)] at b7
  rw [nI_clamp (show t < 2 ^ 31 by omega)] at b8
  obtain ⟨z1, hz1, ez1⟩ := hp s hs
  obtain ⟨z2, hz2, ez2⟩ := hp t ht
  rw [ez1, sum_nI hi hn (by omega)] at b7
  rw [ez2, sum_nI hj hn (by omega)] at b8
  rw [nI_clamp (show s < 2 ^ 31 by omega), nI_clamp (show t < 2 ^ 31 by omega), nI_clamp hi, nI_clamp hj, nI_clamp hn] at hE
  refine for_go (P := fun a S => At X 7 (mW X.E ad S) 120 [(0, .ref (ad 0)), (1, .int (nI s)), (2, .int (nI i)), (3, .int (nI t)), (4, .int (nI j)), (5, .int (nI n)), (6, .int (nI a))] []) (N := n) (fun a S => pg S 3 a (S.1 2 (64 * s + i + a))) (fun a S ha h => ?_) n 0 S (Nat.zero_add n) ?_
  · have e : 64 * nI s + nI i + nI a = nI (64 * s + i + a) := by rw [show (64 : Int32) = nI 64 from rfl, pk_mul, nI_add, nI_add]
    refine r_X8_copy_120 C ad S (nI s) (nI i) (nI t) (nI j) (nI n) (nI a) ⟨fun q => nlt_no hn ha q, fun _ => ?_⟩
    rw [e, nI_clamp (show a < 2 ^ 31 by omega), nI_clamp (show 64 * s + i + a < 2 ^ 31 by omega), nI_1 a]
    exact ⟨vp_in_nI (by omega) (by decide), vp_in_nI (by omega) (by decide), h⟩
  · refine r_X8_copy_120 C ad _ (nI s) (nI i) (nI t) (nI j) (nI n) (nI n) ⟨fun _ => ?_, fun q => nle_no q⟩
    refine for_go (P := fun a S => At X 7 (mW X.E ad S) 157 [(0, .ref (ad 0)), (3, .int (nI t)), (4, .int (nI j)), (5, .int (nI n)), (6, .int (nI a))] []) (N := n) (fun a S => pg S 2 (64 * t + j + a) (S.1 3 a)) (fun a S ha h => ?_) n 0 _ (Nat.zero_add n) ?_
    · have e : 64 * nI t + nI j + nI a = nI (64 * t + j + a) := by rw [show (64 : Int32) = nI 64 from rfl, pk_mul, nI_add, nI_add]
      refine r_X8_copy_157 C ad S (nI t) (nI j) (nI n) (nI a) ⟨fun q => nlt_no hn ha q, fun _ => ?_⟩
      rw [e, nI_clamp (show a < 2 ^ 31 by omega), nI_clamp (show 64 * t + j + a < 2 ^ 31 by omega), nI_1 a]
      exact ⟨vp_in_nI (by omega) (by decide), vp_in_nI (by omega) (by decide), h⟩
    · exact r_X8_copy_157 C ad _ (nI t) (nI j) (nI n) (nI n) ⟨fun _ => hE, fun q => nle_no q⟩
theorem dX8_clears_0 : decode cX8_clears 0 = .ok (.iconst 0, 1) := by decide +kernel
theorem dX8_clears_1 : decode cX8_clears 1 = .ok (.istore_n 1, 1) := by decide +kernel
theorem dX8_clears_2 : decode cX8_clears 2 = .ok (.iload_n 1, 1) := by decide +kernel
theorem dX8_clears_3 : decode cX8_clears 3 = .ok (.bipush 64, 2) := by decide +kernel
theorem dX8_clears_5 : decode cX8_clears 5 = .ok (.if_icmp .ge 16, 3) := by decide +kernel
theorem dX8_clears_8 : decode cX8_clears 8 = .ok (.aload_n 0, 1) := by decide +kernel
theorem dX8_clears_9 : decode cX8_clears 9 = .ok (.getfield 31, 3) := by decide +kernel
theorem dX8_clears_12 : decode cX8_clears 12 = .ok (.iload_n 1, 1) := by decide +kernel
theorem dX8_clears_13 : decode cX8_clears 13 = .ok (.iconst 0, 1) := by decide +kernel
theorem dX8_clears_14 : decode cX8_clears 14 = .ok (.bastore, 1) := by decide +kernel
theorem dX8_clears_15 : decode cX8_clears 15 = .ok (.iinc 1 1, 3) := by decide +kernel
theorem dX8_clears_18 : decode cX8_clears 18 = .ok (.goto (-16), 3) := by decide +kernel
theorem dX8_clears_21 : decode cX8_clears 21 = .ok (.return_, 1) := by decide +kernel
theorem iw_X8_clears_X8 : ∀ w ∈ u_ws RX8 TX8 18, w ∈ wsX8_clears := by decide +kernel
theorem lk_X8_clears_0 : Cond.fieldLink RX8 31 (TX8 10).1 (TX8 10).2.1 (TX8 10).2.2.1 ∈ wsX8_clears := by decide +kernel
set_option maxRecDepth 100000 in
theorem r_X8_clears_0 {X : Bn} (C : Cx X cX8_clears 2 RX8 wsX8_clears 0 0) (ad : Nat → Nat) (S : MS) (h : At X 2 (mW X.E ad S) 2 [(0, .ref (ad 0)), (1, .int 0)] []) : At X 2 (mW X.E ad S) 0 [(0, .ref (ad 0))] [] := by
  refine at_iconst C dX8_clears_0 (v := 0) rfl ?_
  refine at_istore_n C dX8_clears_1 rfl (by decide) (lv' := [(1, .int 0), (0, .ref (ad 0))]) rfl ?_
  refine at_lv [1, 0] rfl ?_
  exact h
set_option maxRecDepth 100000 in
theorem r_X8_clears_2 {X : Bn} (C : Cx X cX8_clears 2 RX8 wsX8_clears 0 0) (ad : Nat → Nat) (S : MS) (x1 : Int32) (h : ((64 ≤ x1) → (Ends X (none) none (mW X.E ad S))) ∧ (¬ 64 ≤ x1 → ((vp_in x1 64) ∧ (At X 2 (mW X.E ad (pg S 10 x1.toNatClampNeg 0)) 2 [(0, .ref (ad 0)), (1, .int (x1 + 1))] [])))) : At X 2 (mW X.E ad S) 2 [(0, .ref (ad 0)), (1, .int x1)] [] := by
  refine at_iload_n C dX8_clears_2 rfl (j := 1) rfl ?_
  refine at_bipush C dX8_clears_3 (v := 64) rfl ?_
  refine at_icmp_ge C dX8_clears_5 (tgt := 21) (by decide) (fun hc0 => ?_) (fun hc0 => ?_)
  · replace h := h.1 hc0
    exact at_vret C dX8_clears_21 h
  · replace h := h.2 hc0
    refine at_aload_n C dX8_clears_8 rfl (j := 0) rfl ?_
    refine at_get C (K := RX8) (T := TX8) (N := 18) (ci := 7) (v := .ref (ad 8)) iw_X8_clears_X8 0 mW_c0 rfl 10 (by decide) lk_X8_clears_0 rfl dX8_clears_9 ?_
    refine at_iload_n C dX8_clears_12 rfl (j := 1) rfl ?_
    refine at_iconst C dX8_clears_13 (v := 0) rfl ?_
    refine at_zast C 8 mW_c8 h.1 rfl mW_s8 dX8_clears_14 ?_
    replace h := h.2
    refine at_iinc C dX8_clears_15 (j := 1) (v := x1 + 1) rfl rfl (by decide) (lv' := [(1, .int (x1 + 1)), (0, .ref (ad 0))]) rfl ?_
    refine at_goto C dX8_clears_18 (tgt := 2) (by decide) ?_
    refine at_lv [1, 0] rfl ?_
    exact h
def s_X8_clears (S : MS) : MS := itF (fun c S => pg S 10 c 0) 0 64 S
set_option maxRecDepth 100000 in
theorem c_X8_clears (l : Launch) (D : va_G) (E : Nat → ClassId) (a1 a2 : Nat) (ad : Nat → Nat) (S : MS)  : Fn l D E a1 a2 yX8_clears wsX8_clears 0 0 [.ref (ad 0)] (mW E ad S) none (mW E ad (s_X8_clears S)) := by
  refine Fn.of (cc := cX8_clears) (maxL := 2) (ret := none) (own := RX8) (by decide) rfl rfl (sameM _ _ _ _) (Nat.le_of_ble_eq_true rfl) (fun X h1 h2 h3 h4 h5 C hE => ?_)
  subst h1 h2 h3 h4 h5
  refine r_X8_clears_0 C ad S ?_
  refine for_go (P := fun i S => At X 2 (mW X.E ad S) 2 [(0, .ref (ad 0)), (1, .int (nI i))] []) (N := 64) (fun c S => pg S 10 c 0) (fun i S hi h => ?_) 64 0 S rfl ?_
  · refine r_X8_clears_2 C ad S (nI i) ⟨fun q => nlt_no (by decide) hi q, fun _ => ⟨vp_in_nI (by omega) (by decide), ?_⟩⟩
    rw [nI_clamp (by omega), nI_1 i]
    exact h
  · exact r_X8_clears_2 C ad _ (nI 64) ⟨fun _ => hE, fun q => nle_no q⟩
theorem clears_0 (S : MS) {c : Nat} (hc : c < 64) : (s_X8_clears S).1 10 c = 0 := by
  have h := itF_inv (N := 64) (fun i (T : MS) => ∀ j, j < i → T.1 10 j = 0) (fun c S => pg S 10 c 0) (fun i T _ hT j hj => by
    by_cases e : j = i
    · subst e; exact pg_s
    · rw [pg_n e]; exact hT j (by omega)) 64 0 S rfl (fun j hj => absurd hj (Nat.not_lt_zero j))
  exact h c hc
theorem clears_o (S : MS) {k : Nat} (hk : k ≠ 10) : (s_X8_clears S).1 k = S.1 k :=
  itF_inv (N := 64) (fun _ (T : MS) => T.1 k = S.1 k) (fun c S => pg S 10 c 0) (fun i T _ hT => by rw [pg_r hk]; exact hT) 64 0 S rfl rfl
theorem clears_2 (S : MS) : (s_X8_clears S).2 = S.2 :=
  itF_inv (N := 64) (fun _ (T : MS) => T.2 = S.2) (fun c S => pg S 10 c 0) (fun i T _ hT => hT) 64 0 S rfl rfl
