set_option maxRecDepth 20000 in
theorem ggX7_sheet_X7_sheetOf : GoodIn wsX7_sheet wsX7_sheetOf := goodIn_r _ [5, 6, 7, 8, 4, 9, 31, 32, 33, 34, 35, 36, 37, 38] (by decide +kernel) (by decide +kernel)
set_option maxRecDepth 20000 in
theorem gX7_sheet_X7_sheetOf : GoodIn wsX7_sheet (wsV RX7 211 RX7 yX7_sheetOf wsX7_sheetOf) := goodIn_app (goodIn_of _ (by decide +kernel)) ggX7_sheet_X7_sheetOf
set_option maxRecDepth 20000 in
theorem ggX7_sheet_X7_within : GoodIn wsX7_sheet wsX7_within := goodIn_r _ [9] (by decide +kernel) (by decide +kernel)
set_option maxRecDepth 20000 in
theorem gX7_sheet_X7_within : GoodIn wsX7_sheet (va_wsS RX7 64 yX7_within wsX7_within) := goodIn_app (goodIn_of _ (by decide +kernel)) ggX7_sheet_X7_within
set_option maxRecDepth 20000 in
theorem ggX7_sheet_X7_found : GoodIn wsX7_sheet wsX7_found := goodIn_r _ [13, 14, 31, 32, 33, 34, 35, 36, 37, 38] (by decide +kernel) (by decide +kernel)
set_option maxRecDepth 20000 in
theorem gX7_sheet_X7_found : GoodIn wsX7_sheet (wsV RX7 215 RX7 yX7_found wsX7_found) := goodIn_app (goodIn_of _ (by decide +kernel)) ggX7_sheet_X7_found
set_option maxRecDepth 20000 in
theorem ggX7_sheet_X4_renew : GoodIn wsX7_sheet wsX4_renew := goodIn_r _ [19, 20, 21, 22, 23, 24, 25, 26, 27, 28, 29, 30, 39, 40, 41, 42] (by decide +kernel) (by decide +kernel)
set_option maxRecDepth 20000 in
theorem gX7_sheet_X4_renew : GoodIn wsX7_sheet (wsV RX7 218 RX4 yX4_renew wsX4_renew) := goodIn_app (goodIn_of _ (by decide +kernel)) ggX7_sheet_X4_renew
theorem dX7_sheet_0 : decode cX7_sheet 0 = .ok (.aload_n 0, 1) := by decide +kernel
theorem dX7_sheet_1 : decode cX7_sheet 1 = .ok (.iload_n 1, 1) := by decide +kernel
theorem dX7_sheet_2 : decode cX7_sheet 2 = .ok (.invokevirtual 211, 3) := by decide +kernel
theorem dX7_sheet_5 : decode cX7_sheet 5 = .ok (.astore 4, 2) := by decide +kernel
theorem dX7_sheet_7 : decode cX7_sheet 7 = .ok (.aload 4, 2) := by decide +kernel
theorem dX7_sheet_9 : decode cX7_sheet 9 = .ok (.ifnull 17, 3) := by decide +kernel
theorem dX7_sheet_12 : decode cX7_sheet 12 = .ok (.iload_n 2, 1) := by decide +kernel
theorem dX7_sheet_13 : decode cX7_sheet 13 = .ok (.iconst 3, 1) := by decide +kernel
theorem dX7_sheet_14 : decode cX7_sheet 14 = .ok (.invokestatic 64, 3) := by decide +kernel
theorem dX7_sheet_17 : decode cX7_sheet 17 = .ok (.ifCond .eq 9, 3) := by decide +kernel
theorem dX7_sheet_20 : decode cX7_sheet 20 = .ok (.iload_n 3, 1) := by decide +kernel
theorem dX7_sheet_21 : decode cX7_sheet 21 = .ok (.bipush 64, 2) := by decide +kernel
theorem dX7_sheet_23 : decode cX7_sheet 23 = .ok (.if_icmp .le 6, 3) := by decide +kernel
theorem dX7_sheet_26 : decode cX7_sheet 26 = .ok (.bipush (-2), 2) := by decide +kernel
theorem dX7_sheet_28 : decode cX7_sheet 28 = .ok (.ireturn, 1) := by decide +kernel
theorem dX7_sheet_29 : decode cX7_sheet 29 = .ok (.iload_n 3, 1) := by decide +kernel
theorem dX7_sheet_30 : decode cX7_sheet 30 = .ok (.ifCond .ge 9, 3) := by decide +kernel
theorem dX7_sheet_33 : decode cX7_sheet 33 = .ok (.aload_n 0, 1) := by decide +kernel
theorem dX7_sheet_34 : decode cX7_sheet 34 = .ok (.iconst 5, 1) := by decide +kernel
theorem dX7_sheet_35 : decode cX7_sheet 35 = .ok (.invokevirtual 215, 3) := by decide +kernel
theorem dX7_sheet_38 : decode cX7_sheet 38 = .ok (.ireturn, 1) := by decide +kernel
theorem dX7_sheet_39 : decode cX7_sheet 39 = .ok (.aload 4, 2) := by decide +kernel
theorem dX7_sheet_41 : decode cX7_sheet 41 = .ok (.iload_n 2, 1) := by decide +kernel
theorem dX7_sheet_42 : decode cX7_sheet 42 = .ok (.iload_n 3, 1) := by decide +kernel
theorem dX7_sheet_43 : decode cX7_sheet 43 = .ok (.invokevirtual 218, 3) := by decide +kernel
theorem dX7_sheet_46 : decode cX7_sheet 46 = .ok (.iload_n 3, 1) := by decide +kernel
theorem dX7_sheet_47 : decode cX7_sheet 47 = .ok (.ireturn, 1) := by decide +kernel
set_option maxRecDepth 100000 in
theorem r_X7_sheet_0 {X : Bn} (C : Cx X cX7_sheet 5 RX7 wsX7_sheet 2 63) (ad : Nat → Nat) (S : MS) (x1 : Int32) (x2 : Int32) (x3 : Int32) (h : (∀ k : Nat, k < 4 → x1 = Int32.ofNat k → ((((f_X7_within x2 (3 : Int32)) = true) → (((x3 ≤ 64) → (((0 ≤ x3) → (Ends X (some .int) (some (.int x3)) (cW X.E ad (s_X4_renew S k x2 x3)))) ∧ (¬ 0 ≤ x3 → (Ends X (some .int) (some (.int (f_X7_found S (5 : Int32)))) (cW X.E ad (s_X7_found S (5 : Int32))))))) ∧ (¬ x3 ≤ 64 → (Ends X (some .int) (some (.int (-2))) (cW X.E ad S))))) ∧ ((f_X7_within x2 (3 : Int32)) = false → (Ends X (some .int) (some (.int (-2))) (cW X.E ad S))))) ∧ (¬ (0 ≤ x1 ∧ x1 < 4) → (Ends X (some .int) (some (.int (-2))) (cW X.E ad S)))) : At X 5 (cW X.E ad S) 0 [(0, .ref (ad 0)), (1, .int x1), (2, .int x2), (3, .int x3)] [] := by
  refine at_aload_n C dX7_sheet_0 rfl (j := 0) rfl ?_
  refine at_iload_n C dX7_sheet_1 rfl (j := 1) rfl ?_
  refine at_cV1 C 1 (c_X7_sheetOf X.l X.D X.E X.a1 X.a2 ad S x1) gX7_sheet_X7_sheetOf rfl (by decide +kernel) ⟨rfl, rfl⟩ rfl rfl rfl 0 cW_c0 rfl dX7_sheet_2 ?_
  rcases sh_cases x1 with ⟨k, hk, hs1⟩ | hs1
  · rw [shV_k hk hs1]
    replace h := h.1 k hk hs1
    refine at_astore C dX7_sheet_5 (by decide) (lv' := [(4, .ref (ad (20 + 2 * k))), (0, .ref (ad 0)), (1, .int x1), (2, .int x2), (3, .int x3)]) rfl ?_
    refine at_aload C dX7_sheet_7 (j := 0) rfl ?_
    refine at_ifnull C dX7_sheet_9 ?_
    refine at_iload_n C dX7_sheet_12 rfl (j := 3) rfl ?_
    refine at_iconst C dX7_sheet_13 (v := 3) rfl ?_
    refine at_cS0 C 2 (c_X7_within X.l X.D X.E X.a1 X.a2 x2 (3 : Int32)) gX7_sheet_X7_within rfl (by decide +kernel) ⟨rfl, rfl⟩ rfl rfl rfl dX7_sheet_14 ?_
    refine at_ifB_eq C dX7_sheet_17 (tgt := 26) (by decide) (fun hc0 => ?_) (fun hc0 => ?_)
    · replace h := h.2 hc0
      refine at_bipush C dX7_sheet_26 (v := (-2)) rfl ?_
      exact at_iret C dX7_sheet_28 h
    · replace h := h.1 hc0
      refine at_iload_n C dX7_sheet_20 rfl (j := 4) rfl ?_
      refine at_bipush C dX7_sheet_21 (v := 64) rfl ?_
      refine at_icmp_le C dX7_sheet_23 (tgt := 29) (by decide) (fun hc1 => ?_) (fun hc1 => ?_)
      · replace h := h.1 hc1
        refine at_iload_n C dX7_sheet_29 rfl (j := 4) rfl ?_
        refine at_if_ge C dX7_sheet_30 (tgt := 39) (by decide) (fun hc2 => ?_) (fun hc2 => ?_)
        · replace h := h.1 hc2
          refine at_aload C dX7_sheet_39 (j := 0) rfl ?_
          refine at_iload_n C dX7_sheet_41 rfl (j := 3) rfl ?_
          refine at_iload_n C dX7_sheet_42 rfl (j := 4) rfl ?_
          refine at_cV1v C 2 (c_X4_renew X.l X.D X.E X.a1 X.a2 ad S k hk x2 x3) gX7_sheet_X4_renew rfl (by decide +kernel) ⟨rfl, rfl⟩ rfl rfl rfl (20 + 2 * k) (cW_sheet hk) rfl dX7_sheet_43 ?_
          refine at_iload_n C dX7_sheet_46 rfl (j := 4) rfl ?_
          exact at_iret C dX7_sheet_47 h
        · replace h := h.2 hc2
          refine at_aload_n C dX7_sheet_33 rfl (j := 1) rfl ?_
          refine at_iconst C dX7_sheet_34 (v := 5) rfl ?_
          refine at_cV1 C 1 (c_X7_found X.l X.D X.E X.a1 X.a2 ad S (5 : Int32)) gX7_sheet_X7_found rfl (by decide +kernel) ⟨rfl, rfl⟩ rfl rfl rfl 0 cW_c0 rfl dX7_sheet_35 ?_
          exact at_iret C dX7_sheet_38 h
      · replace h := h.2 hc1
        refine at_bipush C dX7_sheet_26 (v := (-2)) rfl ?_
        exact at_iret C dX7_sheet_28 h
  · rw [shV_n hs1]
    replace h := h.2 hs1
    refine at_astoreN C dX7_sheet_5 (by decide) (lv' := [(4, .null), (0, .ref (ad 0)), (1, .int x1), (2, .int x2), (3, .int x3)]) rfl ?_
    refine at_aloadN C dX7_sheet_7 (j := 0) rfl ?_
    refine at_ifnullN C dX7_sheet_9 (tgt := 26) (by decide) ?_
    refine at_bipush C dX7_sheet_26 (v := (-2)) rfl ?_
    exact at_iret C dX7_sheet_28 h
set_option maxRecDepth 20000 in
theorem ggX7_lose_X7_sheetOf : GoodIn wsX7_lose wsX7_sheetOf := goodIn_r _ [7, 8, 9, 10, 6, 11, 21, 22, 23, 24, 25, 26, 27, 28] (by decide +kernel) (by decide +kernel)
set_option maxRecDepth 20000 in
theorem gX7_lose_X7_sheetOf : GoodIn wsX7_lose (wsV RX7 211 RX7 yX7_sheetOf wsX7_sheetOf) := goodIn_app (goodIn_of _ (by decide +kernel)) ggX7_lose_X7_sheetOf
set_option maxRecDepth 20000 in
theorem ggX7_lose_X7_found : GoodIn wsX7_lose wsX7_found := goodIn_r _ [15, 16, 21, 22, 23, 24, 25, 26, 27, 28] (by decide +kernel) (by decide +kernel)
set_option maxRecDepth 20000 in
theorem gX7_lose_X7_found : GoodIn wsX7_lose (wsV RX7 215 RX7 yX7_found wsX7_found) := goodIn_app (goodIn_of _ (by decide +kernel)) ggX7_lose_X7_found
theorem dX7_lose_0 : decode cX7_lose 0 = .ok (.aload_n 0, 1) := by decide +kernel
theorem dX7_lose_1 : decode cX7_lose 1 = .ok (.iload_n 1, 1) := by decide +kernel
theorem dX7_lose_2 : decode cX7_lose 2 = .ok (.invokevirtual 211, 3) := by decide +kernel
theorem dX7_lose_5 : decode cX7_lose 5 = .ok (.astore_n 2, 1) := by decide +kernel
theorem dX7_lose_6 : decode cX7_lose 6 = .ok (.aload_n 2, 1) := by decide +kernel
theorem dX7_lose_7 : decode cX7_lose 7 = .ok (.ifnonnull 6, 3) := by decide +kernel
theorem dX7_lose_10 : decode cX7_lose 10 = .ok (.bipush (-2), 2) := by decide +kernel
theorem dX7_lose_12 : decode cX7_lose 12 = .ok (.ireturn, 1) := by decide +kernel
theorem dX7_lose_13 : decode cX7_lose 13 = .ok (.aload_n 2, 1) := by decide +kernel
theorem dX7_lose_14 : decode cX7_lose 14 = .ok (.getfield 222, 3) := by decide +kernel
theorem dX7_lose_17 : decode cX7_lose 17 = .ok (.ifCond .eq 9, 3) := by decide +kernel
theorem dX7_lose_20 : decode cX7_lose 20 = .ok (.aload_n 0, 1) := by decide +kernel
theorem dX7_lose_21 : decode cX7_lose 21 = .ok (.iconst 1, 1) := by decide +kernel
theorem dX7_lose_22 : decode cX7_lose 22 = .ok (.invokevirtual 215, 3) := by decide +kernel
theorem dX7_lose_25 : decode cX7_lose 25 = .ok (.ireturn, 1) := by decide +kernel
theorem dX7_lose_26 : decode cX7_lose 26 = .ok (.aload_n 2, 1) := by decide +kernel
theorem dX7_lose_27 : decode cX7_lose 27 = .ok (.iconst 1, 1) := by decide +kernel
theorem dX7_lose_28 : decode cX7_lose 28 = .ok (.putfield 222, 3) := by decide +kernel
theorem dX7_lose_31 : decode cX7_lose 31 = .ok (.aload_n 2, 1) := by decide +kernel
theorem dX7_lose_32 : decode cX7_lose 32 = .ok (.getfield 226, 3) := by decide +kernel
theorem dX7_lose_35 : decode cX7_lose 35 = .ok (.ireturn, 1) := by decide +kernel
theorem iw_X7_lose_X4 : ∀ w ∈ u_ws RX4 TX4 4, w ∈ wsX7_lose := by decide +kernel
theorem lk_X7_lose_0 : Cond.fieldLink RX7 222 (TX4 3).1 (TX4 3).2.1 (TX4 3).2.2.1 ∈ wsX7_lose := by decide +kernel
theorem lk_X7_lose_1 : Cond.fieldLink RX7 226 (TX4 2).1 (TX4 2).2.1 (TX4 2).2.2.1 ∈ wsX7_lose := by decide +kernel
set_option maxRecDepth 100000 in
theorem r_X7_lose_0 {X : Bn} (C : Cx X cX7_lose 3 RX7 wsX7_lose 2 42) (ad : Nat → Nat) (S : MS) (x1 : Int32) (h : (∀ k : Nat, k < 4 → x1 = Int32.ofNat k → (((S.1 (32 + k) 0 = 0) → (Ends X (some .int) (some (.int ((pg S (32 + k) 0 1).1 (28 + k) 0))) (cW X.E ad (pg S (32 + k) 0 1)))) ∧ (¬ S.1 (32 + k) 0 = 0 → (Ends X (some .int) (some (.int (f_X7_found S (1 : Int32)))) (cW X.E ad (s_X7_found S (1 : Int32))))))) ∧ (¬ (0 ≤ x1 ∧ x1 < 4) → (Ends X (some .int) (some (.int (-2))) (cW X.E ad S)))) : At X 3 (cW X.E ad S) 0 [(0, .ref (ad 0)), (1, .int x1)] [] := by
  refine at_aload_n C dX7_lose_0 rfl (j := 0) rfl ?_
  refine at_iload_n C dX7_lose_1 rfl (j := 1) rfl ?_
  refine at_cV1 C 1 (c_X7_sheetOf X.l X.D X.E X.a1 X.a2 ad S x1) gX7_lose_X7_sheetOf rfl (by decide +kernel) ⟨rfl, rfl⟩ rfl rfl rfl 0 cW_c0 rfl dX7_lose_2 ?_
  rcases sh_cases x1 with ⟨k, hk, hs1⟩ | hs1
  · rw [shV_k hk hs1]
    replace h := h.1 k hk hs1
    refine at_astore_n C dX7_lose_5 rfl (by decide) (lv' := [(2, .ref (ad (20 + 2 * k))), (0, .ref (ad 0)), (1, .int x1)]) rfl ?_
    refine at_aload_n C dX7_lose_6 rfl (j := 0) rfl ?_
    refine at_ifnonnull C dX7_lose_7 (tgt := 13) (by decide) ?_
    refine at_aload_n C dX7_lose_13 rfl (j := 0) rfl ?_
    refine at_get C (K := RX4) (T := TX4) (N := 4) (ci := 3) (v := .int (S.1 (32 + k) 0)) iw_X7_lose_X4 (20 + 2 * k) (cW_sheet hk) rfl 3 (by decide) lk_X7_lose_0 rfl dX7_lose_14 ?_
    refine at_if_eq C dX7_lose_17 (tgt := 26) (by decide) (fun hc0 => ?_) (fun hc0 => ?_)
    · replace h := h.1 hc0
      refine at_aload_n C dX7_lose_26 rfl (j := 0) rfl ?_
      refine at_iconst C dX7_lose_27 (v := 1) rfl ?_
      refine at_put C (K := RX4) (T := TX4) (N := 4) (ci := 3) (ty := .boolean) iw_X7_lose_X4 tyX4 tyX4_ok nmX4 (20 + 2 * k) (cW_sheet hk) rfl 3 (by decide) lk_X7_lose_0 rfl rfl rfl rfl (Nat.le_of_ble_eq_true rfl) (cW_set_sheet3 hk) dX7_lose_28 ?_
      refine at_aload_n C dX7_lose_31 rfl (j := 0) rfl ?_
      refine at_get C (K := RX4) (T := TX4) (N := 4) (ci := 3) (v := .int ((pg S (32 + k) 0 1).1 (28 + k) 0)) iw_X7_lose_X4 (20 + 2 * k) (cW_sheet hk) rfl 2 (by decide) lk_X7_lose_1 rfl dX7_lose_32 ?_
      exact at_iret C dX7_lose_35 h
    · replace h := h.2 hc0
      refine at_aload_n C dX7_lose_20 rfl (j := 1) rfl ?_
      refine at_iconst C dX7_lose_21 (v := 1) rfl ?_
      refine at_cV1 C 1 (c_X7_found X.l X.D X.E X.a1 X.a2 ad S (1 : Int32)) gX7_lose_X7_found rfl (by decide +kernel) ⟨rfl, rfl⟩ rfl rfl rfl 0 cW_c0 rfl dX7_lose_22 ?_
      exact at_iret C dX7_lose_25 h
  · rw [shV_n hs1]
    replace h := h.2 hs1
    refine at_astore_nN C dX7_lose_5 rfl (by decide) (lv' := [(2, .null), (0, .ref (ad 0)), (1, .int x1)]) rfl ?_
    refine at_aload_nN C dX7_lose_6 rfl (j := 0) rfl ?_
    refine at_ifnonnullN C dX7_lose_7 ?_
    refine at_bipush C dX7_lose_10 (v := (-2)) rfl ?_
    exact at_iret C dX7_lose_12 h
set_option maxRecDepth 20000 in
theorem ggX7_lay_X7_sheetOf : GoodIn wsX7_lay wsX7_sheetOf := goodIn_r _ [5, 6, 7, 8, 4, 9, 28, 29, 30, 31, 32, 33, 34, 35] (by decide +kernel) (by decide +kernel)
set_option maxRecDepth 20000 in
theorem gX7_lay_X7_sheetOf : GoodIn wsX7_lay (wsV RX7 211 RX7 yX7_sheetOf wsX7_sheetOf) := goodIn_app (goodIn_of _ (by decide +kernel)) ggX7_lay_X7_sheetOf
set_option maxRecDepth 20000 in
theorem ggX7_lay_X7_within : GoodIn wsX7_lay wsX7_within := goodIn_r _ [9] (by decide +kernel) (by decide +kernel)
set_option maxRecDepth 20000 in
theorem gX7_lay_X7_within : GoodIn wsX7_lay (va_wsS RX7 64 yX7_within wsX7_within) := goodIn_app (goodIn_of _ (by decide +kernel)) ggX7_lay_X7_within
set_option maxRecDepth 20000 in
theorem ggX7_lay_X4_hindrance : GoodIn wsX7_lay wsX4_hindrance := goodIn_r _ [14, 15, 16, 17, 8, 4, 9, 36, 37, 38, 39] (by decide +kernel) (by decide +kernel)
set_option maxRecDepth 20000 in
theorem gX7_lay_X4_hindrance : GoodIn wsX7_lay (wsV RX7 229 RX4 yX4_hindrance wsX4_hindrance) := goodIn_app (goodIn_of _ (by decide +kernel)) ggX7_lay_X4_hindrance
set_option maxRecDepth 20000 in
theorem ggX7_lay_X7_found : GoodIn wsX7_lay wsX7_found := goodIn_r _ [21, 22, 28, 29, 30, 31, 32, 33, 34, 35] (by decide +kernel) (by decide +kernel)
set_option maxRecDepth 20000 in
theorem gX7_lay_X7_found : GoodIn wsX7_lay (wsV RX7 215 RX7 yX7_found wsX7_found) := goodIn_app (goodIn_of _ (by decide +kernel)) ggX7_lay_X7_found
set_option maxRecDepth 20000 in
theorem ggX7_lay_X4_put : GoodIn wsX7_lay wsX4_put := goodIn_r _ [26, 17, 27, 16, 8, 4, 9, 36, 37, 38, 39] (by decide +kernel) (by decide +kernel)
set_option maxRecDepth 20000 in
theorem gX7_lay_X4_put : GoodIn wsX7_lay (wsV RX7 232 RX4 yX4_put wsX4_put) := goodIn_app (goodIn_of _ (by decide +kernel)) ggX7_lay_X4_put
theorem dX7_lay_0 : decode cX7_lay 0 = .ok (.aload_n 0, 1) := by decide +kernel
theorem dX7_lay_1 : decode cX7_lay 1 = .ok (.iload_n 1, 1) := by decide +kernel
theorem dX7_lay_2 : decode cX7_lay 2 = .ok (.invokevirtual 211, 3) := by decide +kernel
theorem dX7_lay_5 : decode cX7_lay 5 = .ok (.astore 5, 2) := by decide +kernel
theorem dX7_lay_7 : decode cX7_lay 7 = .ok (.aload 5, 2) := by decide +kernel
theorem dX7_lay_9 : decode cX7_lay 9 = .ok (.ifnull 11, 3) := by decide +kernel
theorem dX7_lay_12 : decode cX7_lay 12 = .ok (.iload_n 2, 1) := by decide +kernel
theorem dX7_lay_13 : decode cX7_lay 13 = .ok (.iconst 3, 1) := by decide +kernel
theorem dX7_lay_14 : decode cX7_lay 14 = .ok (.invokestatic 64, 3) := by decide +kernel
theorem dX7_lay_17 : decode cX7_lay 17 = .ok (.ifCond .ne 6, 3) := by decide +kernel
theorem dX7_lay_20 : decode cX7_lay 20 = .ok (.bipush (-2), 2) := by decide +kernel
theorem dX7_lay_22 : decode cX7_lay 22 = .ok (.ireturn, 1) := by decide +kernel
theorem dX7_lay_23 : decode cX7_lay 23 = .ok (.aload 5, 2) := by decide +kernel
theorem dX7_lay_25 : decode cX7_lay 25 = .ok (.iload_n 2, 1) := by decide +kernel
theorem dX7_lay_26 : decode cX7_lay 26 = .ok (.iload_n 3, 1) := by decide +kernel
theorem dX7_lay_27 : decode cX7_lay 27 = .ok (.invokevirtual 229, 3) := by decide +kernel
theorem dX7_lay_30 : decode cX7_lay 30 = .ok (.istore 6, 2) := by decide +kernel
theorem dX7_lay_32 : decode cX7_lay 32 = .ok (.iload 6, 2) := by decide +kernel
theorem dX7_lay_34 : decode cX7_lay 34 = .ok (.ifCond .eq 10, 3) := by decide +kernel
theorem dX7_lay_37 : decode cX7_lay 37 = .ok (.aload_n 0, 1) := by decide +kernel
theorem dX7_lay_38 : decode cX7_lay 38 = .ok (.iload 6, 2) := by decide +kernel
theorem dX7_lay_40 : decode cX7_lay 40 = .ok (.invokevirtual 215, 3) := by decide +kernel
theorem dX7_lay_43 : decode cX7_lay 43 = .ok (.ireturn, 1) := by decide +kernel
theorem dX7_lay_44 : decode cX7_lay 44 = .ok (.aload 5, 2) := by decide +kernel
theorem dX7_lay_46 : decode cX7_lay 46 = .ok (.iload_n 3, 1) := by decide +kernel
theorem dX7_lay_47 : decode cX7_lay 47 = .ok (.iload 4, 2) := by decide +kernel
theorem dX7_lay_49 : decode cX7_lay 49 = .ok (.invokevirtual 232, 3) := by decide +kernel
theorem dX7_lay_52 : decode cX7_lay 52 = .ok (.iconst 1, 1) := by decide +kernel
theorem dX7_lay_53 : decode cX7_lay 53 = .ok (.ireturn, 1) := by decide +kernel
set_option maxRecDepth 100000 in
theorem r_X7_lay_0 {X : Bn} (C : Cx X cX7_lay 7 RX7 wsX7_lay 2 43) (ad : Nat → Nat) (S : MS) (x1 : Int32) (x2 : Int32) (x3 : Int32) (x4 : Int32) (h : (∀ k : Nat, k < 4 → x1 = Int32.ofNat k → ((((f_X7_within x2 (3 : Int32)) = true) → (((f_X4_hindrance S k x2 x3 = 0) → (Ends X (some .int) (some (.int 1)) (cW X.E ad (s_X4_put S k x3 x4)))) ∧ (¬ f_X4_hindrance S k x2 x3 = 0 → (Ends X (some .int) (some (.int (f_X7_found S (f_X4_hindrance S k x2 x3)))) (cW X.E ad (s_X7_found S (f_X4_hindrance S k x2 x3))))))) ∧ ((f_X7_within x2 (3 : Int32)) = false → (Ends X (some .int) (some (.int (-2))) (cW X.E ad S))))) ∧ (¬ (0 ≤ x1 ∧ x1 < 4) → (Ends X (some .int) (some (.int (-2))) (cW X.E ad S)))) : At X 7 (cW X.E ad S) 0 [(0, .ref (ad 0)), (1, .int x1), (2, .int x2), (3, .int x3), (4, .int x4)] [] := by
  refine at_aload_n C dX7_lay_0 rfl (j := 0) rfl ?_
  refine at_iload_n C dX7_lay_1 rfl (j := 1) rfl ?_
  refine at_cV1 C 1 (c_X7_sheetOf X.l X.D X.E X.a1 X.a2 ad S x1) gX7_lay_X7_sheetOf rfl (by decide +kernel) ⟨rfl, rfl⟩ rfl rfl rfl 0 cW_c0 rfl dX7_lay_2 ?_
  rcases sh_cases x1 with ⟨k, hk, hs1⟩ | hs1
  · rw [shV_k hk hs1]
    replace h := h.1 k hk hs1
    refine at_astore C dX7_lay_5 (by decide) (lv' := [(5, .ref (ad (20 + 2 * k))), (0, .ref (ad 0)), (1, .int x1), (2, .int x2), (3, .int x3), (4, .int x4)]) rfl ?_
    refine at_aload C dX7_lay_7 (j := 0) rfl ?_
    refine at_ifnull C dX7_lay_9 ?_
    refine at_iload_n C dX7_lay_12 rfl (j := 3) rfl ?_
    refine at_iconst C dX7_lay_13 (v := 3) rfl ?_
    refine at_cS0 C 2 (c_X7_within X.l X.D X.E X.a1 X.a2 x2 (3 : Int32)) gX7_lay_X7_within rfl (by decide +kernel) ⟨rfl, rfl⟩ rfl rfl rfl dX7_lay_14 ?_
    refine at_ifB_ne C dX7_lay_17 (tgt := 23) (by decide) (fun hc0 => ?_) (fun hc0 => ?_)
    · replace h := h.1 hc0
      refine at_aload C dX7_lay_23 (j := 0) rfl ?_
      refine at_iload_n C dX7_lay_25 rfl (j := 3) rfl ?_
      refine at_iload_n C dX7_lay_26 rfl (j := 4) rfl ?_
      refine at_cV1 C 2 (c_X4_hindrance X.l X.D X.E X.a1 X.a2 ad S k hk x2 x3) gX7_lay_X4_hindrance rfl (by decide +kernel) ⟨rfl, rfl⟩ rfl rfl rfl (20 + 2 * k) (cW_sheet hk) rfl dX7_lay_27 ?_
      refine at_istore C dX7_lay_30 (by decide) (lv' := [(6, .int (f_X4_hindrance S k x2 x3)), (5, .ref (ad (20 + 2 * k))), (0, .ref (ad 0)), (1, .int x1), (2, .int x2), (3, .int x3), (4, .int x4)]) rfl ?_
      refine at_iload C dX7_lay_32 (j := 0) rfl ?_
      refine at_if_eq C dX7_lay_34 (tgt := 44) (by decide) (fun hc1 => ?_) (fun hc1 => ?_)
      · replace h := h.1 hc1
        refine at_aload C dX7_lay_44 (j := 1) rfl ?_
        refine at_iload_n C dX7_lay_46 rfl (j := 5) rfl ?_
        refine at_iload C dX7_lay_47 (j := 6) rfl ?_
        refine at_cV1v C 2 (e_X4_put X.l X.D X.E X.a1 X.a2 ad S k hk x3 x4) gX7_lay_X4_put rfl (by decide +kernel) ⟨rfl, rfl⟩ rfl rfl rfl (20 + 2 * k) (cW_sheet hk) rfl dX7_lay_49 ?_
        refine at_iconst C dX7_lay_52 (v := 1) rfl ?_
        exact at_iret C dX7_lay_53 h
      · replace h := h.2 hc1
        refine at_aload_n C dX7_lay_37 rfl (j := 2) rfl ?_
        refine at_iload C dX7_lay_38 (j := 0) rfl ?_
        refine at_cV1 C 1 (c_X7_found X.l X.D X.E X.a1 X.a2 ad S (f_X4_hindrance S k x2 x3)) gX7_lay_X7_found rfl (by decide +kernel) ⟨rfl, rfl⟩ rfl rfl rfl 0 cW_c0 rfl dX7_lay_40 ?_
        exact at_iret C dX7_lay_43 h
    · replace h := h.2 hc0
      refine at_bipush C dX7_lay_20 (v := (-2)) rfl ?_
      exact at_iret C dX7_lay_22 h
  · rw [shV_n hs1]
    replace h := h.2 hs1
    refine at_astoreN C dX7_lay_5 (by decide) (lv' := [(5, .null), (0, .ref (ad 0)), (1, .int x1), (2, .int x2), (3, .int x3), (4, .int x4)]) rfl ?_
    refine at_aloadN C dX7_lay_7 (j := 0) rfl ?_
    refine at_ifnullN C dX7_lay_9 (tgt := 20) (by decide) ?_
    refine at_bipush C dX7_lay_20 (v := (-2)) rfl ?_
    exact at_iret C dX7_lay_22 h
set_option maxRecDepth 20000 in
theorem ggX7_get_X7_sheetOf : GoodIn wsX7_get wsX7_sheetOf := goodIn_r _ [7, 8, 9, 10, 6, 11, 25, 26, 27, 28, 29, 30, 31, 32] (by decide +kernel) (by decide +kernel)
set_option maxRecDepth 20000 in
theorem gX7_get_X7_sheetOf : GoodIn wsX7_get (wsV RX7 211 RX7 yX7_sheetOf wsX7_sheetOf) := goodIn_app (goodIn_of _ (by decide +kernel)) ggX7_get_X7_sheetOf
set_option maxRecDepth 20000 in
theorem ggX7_get_X7_within : GoodIn wsX7_get wsX7_within := goodIn_r _ [11] (by decide +kernel) (by decide +kernel)
set_option maxRecDepth 20000 in
theorem gX7_get_X7_within : GoodIn wsX7_get (va_wsS RX7 64 yX7_within wsX7_within) := goodIn_app (goodIn_of _ (by decide +kernel)) ggX7_get_X7_within
set_option maxRecDepth 20000 in
theorem ggX7_get_X4_hindrance : GoodIn wsX7_get wsX4_hindrance := goodIn_r _ [16, 17, 18, 19, 10, 6, 11, 33, 34, 35, 36] (by decide +kernel) (by decide +kernel)
set_option maxRecDepth 20000 in
theorem gX7_get_X4_hindrance : GoodIn wsX7_get (wsV RX7 229 RX4 yX4_hindrance wsX4_hindrance) := goodIn_app (goodIn_of _ (by decide +kernel)) ggX7_get_X4_hindrance
set_option maxRecDepth 20000 in
theorem ggX7_get_X4_item : GoodIn wsX7_get wsX4_item := goodIn_r _ [23, 19, 24, 10, 6, 11, 33, 34, 35, 36] (by decide +kernel) (by decide +kernel)
set_option maxRecDepth 20000 in
theorem gX7_get_X4_item : GoodIn wsX7_get (wsV RX7 236 RX4 yX4_item wsX4_item) := goodIn_app (goodIn_of _ (by decide +kernel)) ggX7_get_X4_item
theorem dX7_get_0 : decode cX7_get 0 = .ok (.aload_n 0, 1) := by decide +kernel
theorem dX7_get_1 : decode cX7_get 1 = .ok (.iload_n 1, 1) := by decide +kernel
theorem dX7_get_2 : decode cX7_get 2 = .ok (.invokevirtual 211, 3) := by decide +kernel
theorem dX7_get_5 : decode cX7_get 5 = .ok (.astore 4, 2) := by decide +kernel
theorem dX7_get_7 : decode cX7_get 7 = .ok (.aload 4, 2) := by decide +kernel
theorem dX7_get_9 : decode cX7_get 9 = .ok (.ifnull 11, 3) := by decide +kernel
theorem dX7_get_12 : decode cX7_get 12 = .ok (.iload_n 2, 1) := by decide +kernel
theorem dX7_get_13 : decode cX7_get 13 = .ok (.iconst 3, 1) := by decide +kernel
theorem dX7_get_14 : decode cX7_get 14 = .ok (.invokestatic 64, 3) := by decide +kernel
theorem dX7_get_17 : decode cX7_get 17 = .ok (.ifCond .ne 6, 3) := by decide +kernel
theorem dX7_get_20 : decode cX7_get 20 = .ok (.ldc 235, 2) := by decide +kernel
theorem dX7_get_22 : decode cX7_get 22 = .ok (.ireturn, 1) := by decide +kernel
theorem dX7_get_23 : decode cX7_get 23 = .ok (.aload 4, 2) := by decide +kernel
theorem dX7_get_25 : decode cX7_get 25 = .ok (.iload_n 2, 1) := by decide +kernel
theorem dX7_get_26 : decode cX7_get 26 = .ok (.iload_n 3, 1) := by decide +kernel
theorem dX7_get_27 : decode cX7_get 27 = .ok (.invokevirtual 229, 3) := by decide +kernel
theorem dX7_get_30 : decode cX7_get 30 = .ok (.istore 5, 2) := by decide +kernel
theorem dX7_get_32 : decode cX7_get 32 = .ok (.iload 5, 2) := by decide +kernel
theorem dX7_get_34 : decode cX7_get 34 = .ok (.ifCond .eq 12, 3) := by decide +kernel
theorem dX7_get_37 : decode cX7_get 37 = .ok (.aload_n 0, 1) := by decide +kernel
theorem dX7_get_38 : decode cX7_get 38 = .ok (.iload 5, 2) := by decide +kernel
theorem dX7_get_40 : decode cX7_get 40 = .ok (.putfield 56, 3) := by decide +kernel
theorem dX7_get_43 : decode cX7_get 43 = .ok (.ldc 235, 2) := by decide +kernel
theorem dX7_get_45 : decode cX7_get 45 = .ok (.ireturn, 1) := by decide +kernel
theorem dX7_get_46 : decode cX7_get 46 = .ok (.aload 4, 2) := by decide +kernel
theorem dX7_get_48 : decode cX7_get 48 = .ok (.iload_n 3, 1) := by decide +kernel
theorem dX7_get_49 : decode cX7_get 49 = .ok (.invokevirtual 236, 3) := by decide +kernel
theorem dX7_get_52 : decode cX7_get 52 = .ok (.ireturn, 1) := by decide +kernel
theorem iw_X7_get_X7 : ∀ w ∈ u_ws RX7 TX7 8, w ∈ wsX7_get := by decide +kernel
theorem lk_X7_get_0 : Cond.fieldLink RX7 56 (TX7 7).1 (TX7 7).2.1 (TX7 7).2.2.1 ∈ wsX7_get := by decide +kernel
theorem lk_X7_get_1 : Cond.constant RX7 235 (-2147483648) ∈ wsX7_get := by decide +kernel
set_option maxRecDepth 100000 in
theorem r_X7_get_0 {X : Bn} (C : Cx X cX7_get 6 RX7 wsX7_get 2 43) (ad : Nat → Nat) (S : MS) (x1 : Int32) (x2 : Int32) (x3 : Int32) (h : (∀ k : Nat, k < 4 → x1 = Int32.ofNat k → ((((f_X7_within x2 (3 : Int32)) = true) → (((f_X4_hindrance S k x2 x3 = 0) → (Ends X (some .int) (some (.int (f_X4_item S k x3))) (cW X.E ad S))) ∧ (¬ f_X4_hindrance S k x2 x3 = 0 → (Ends X (some .int) (some (.int (-2147483648))) (cW X.E ad (pg S 16 0 (f_X4_hindrance S k x2 x3))))))) ∧ ((f_X7_within x2 (3 : Int32)) = false → (Ends X (some .int) (some (.int (-2147483648))) (cW X.E ad S))))) ∧ (¬ (0 ≤ x1 ∧ x1 < 4) → (Ends X (some .int) (some (.int (-2147483648))) (cW X.E ad S)))) : At X 6 (cW X.E ad S) 0 [(0, .ref (ad 0)), (1, .int x1), (2, .int x2), (3, .int x3)] [] := by
  refine at_aload_n C dX7_get_0 rfl (j := 0) rfl ?_
  refine at_iload_n C dX7_get_1 rfl (j := 1) rfl ?_
  refine at_cV1 C 1 (c_X7_sheetOf X.l X.D X.E X.a1 X.a2 ad S x1) gX7_get_X7_sheetOf rfl (by decide +kernel) ⟨rfl, rfl⟩ rfl rfl rfl 0 cW_c0 rfl dX7_get_2 ?_
  rcases sh_cases x1 with ⟨k, hk, hs1⟩ | hs1
  · rw [shV_k hk hs1]
    replace h := h.1 k hk hs1
    refine at_astore C dX7_get_5 (by decide) (lv' := [(4, .ref (ad (20 + 2 * k))), (0, .ref (ad 0)), (1, .int x1), (2, .int x2), (3, .int x3)]) rfl ?_
    refine at_aload C dX7_get_7 (j := 0) rfl ?_
    refine at_ifnull C dX7_get_9 ?_
    refine at_iload_n C dX7_get_12 rfl (j := 3) rfl ?_
    refine at_iconst C dX7_get_13 (v := 3) rfl ?_
    refine at_cS0 C 2 (c_X7_within X.l X.D X.E X.a1 X.a2 x2 (3 : Int32)) gX7_get_X7_within rfl (by decide +kernel) ⟨rfl, rfl⟩ rfl rfl rfl dX7_get_14 ?_
    refine at_ifB_ne C dX7_get_17 (tgt := 23) (by decide) (fun hc0 => ?_) (fun hc0 => ?_)
    · replace h := h.1 hc0
      refine at_aload C dX7_get_23 (j := 0) rfl ?_
      refine at_iload_n C dX7_get_25 rfl (j := 3) rfl ?_
      refine at_iload_n C dX7_get_26 rfl (j := 4) rfl ?_
      refine at_cV1 C 2 (c_X4_hindrance X.l X.D X.E X.a1 X.a2 ad S k hk x2 x3) gX7_get_X4_hindrance rfl (by decide +kernel) ⟨rfl, rfl⟩ rfl rfl rfl (20 + 2 * k) (cW_sheet hk) rfl dX7_get_27 ?_
      refine at_istore C dX7_get_30 (by decide) (lv' := [(5, .int (f_X4_hindrance S k x2 x3)), (4, .ref (ad (20 + 2 * k))), (0, .ref (ad 0)), (1, .int x1), (2, .int x2), (3, .int x3)]) rfl ?_
      refine at_iload C dX7_get_32 (j := 0) rfl ?_
      refine at_if_eq C dX7_get_34 (tgt := 46) (by decide) (fun hc1 => ?_) (fun hc1 => ?_)
      · replace h := h.1 hc1
        refine at_aload C dX7_get_46 (j := 1) rfl ?_
        refine at_iload_n C dX7_get_48 rfl (j := 5) rfl ?_
        refine at_cV1 C 1 (e_X4_item X.l X.D X.E X.a1 X.a2 ad S k hk x3) gX7_get_X4_item rfl (by decide +kernel) ⟨rfl, rfl⟩ rfl rfl rfl (20 + 2 * k) (cW_sheet hk) rfl dX7_get_49 ?_
        exact at_iret C dX7_get_52 h
      · replace h := h.2 hc1
        refine at_aload_n C dX7_get_37 rfl (j := 2) rfl ?_
        refine at_iload C dX7_get_38 (j := 0) rfl ?_
        refine at_put C (K := RX7) (T := TX7) (N := 8) (ci := 6) (ty := .int) iw_X7_get_X7 tyX7 tyX7_ok nmX7 0 cW_c0 rfl 7 (by decide) lk_X7_get_0 rfl rfl rfl rfl (Nat.le_of_ble_eq_true rfl) cW_f0_7 dX7_get_40 ?_
        refine at_ldc C lk_X7_get_1 dX7_get_43 ?_
        exact at_iret C dX7_get_45 h
    · replace h := h.2 hc0
      refine at_ldc C lk_X7_get_1 dX7_get_20 ?_
      exact at_iret C dX7_get_22 h
  · rw [shV_n hs1]
    replace h := h.2 hs1
    refine at_astoreN C dX7_get_5 (by decide) (lv' := [(4, .null), (0, .ref (ad 0)), (1, .int x1), (2, .int x2), (3, .int x3)]) rfl ?_
    refine at_aloadN C dX7_get_7 (j := 0) rfl ?_
    refine at_ifnullN C dX7_get_9 (tgt := 20) (by decide) ?_
    refine at_ldc C lk_X7_get_1 dX7_get_20 ?_
    exact at_iret C dX7_get_22 h
set_option maxRecDepth 20000 in
theorem ggX7_copy_X7_sheetOf : GoodIn wsX7_copy wsX7_sheetOf := goodIn_r _ [12, 13, 14, 15, 11, 16, 32, 33, 34, 35, 36, 37, 38, 39] (by decide +kernel) (by decide +kernel)
set_option maxRecDepth 20000 in
theorem gX7_copy_X7_sheetOf : GoodIn wsX7_copy (wsV RX7 211 RX7 yX7_sheetOf wsX7_sheetOf) := goodIn_app (goodIn_of _ (by decide +kernel)) ggX7_copy_X7_sheetOf
set_option maxRecDepth 20000 in
theorem ggX7_copy_X7_found : GoodIn wsX7_copy wsX7_found := goodIn_r _ [20, 21, 32, 33, 34, 35, 36, 37, 38, 39] (by decide +kernel) (by decide +kernel)
set_option maxRecDepth 20000 in
theorem gX7_copy_X7_found : GoodIn wsX7_copy (wsV RX7 215 RX7 yX7_found wsX7_found) := goodIn_app (goodIn_of _ (by decide +kernel)) ggX7_copy_X7_found
set_option maxRecDepth 20000 in
theorem ggX7_copy_X4_holds : GoodIn wsX7_copy wsX4_holds := goodIn_r _ [26, 27, 28, 29, 30, 31] (by decide +kernel) (by decide +kernel)
set_option maxRecDepth 20000 in
theorem gX7_copy_X4_holds : GoodIn wsX7_copy (wsV RX7 242 RX4 yX4_holds wsX4_holds) := goodIn_app (goodIn_of _ (by decide +kernel)) ggX7_copy_X4_holds
theorem dX7_copy_0 : decode cX7_copy 0 = .ok (.aload_n 0, 1) := by decide +kernel
theorem dX7_copy_1 : decode cX7_copy 1 = .ok (.iload_n 1, 1) := by decide +kernel
theorem dX7_copy_2 : decode cX7_copy 2 = .ok (.invokevirtual 211, 3) := by decide +kernel
theorem dX7_copy_5 : decode cX7_copy 5 = .ok (.astore 6, 2) := by decide +kernel
theorem dX7_copy_7 : decode cX7_copy 7 = .ok (.aload_n 0, 1) := by decide +kernel
theorem dX7_copy_8 : decode cX7_copy 8 = .ok (.iload_n 3, 1) := by decide +kernel
theorem dX7_copy_9 : decode cX7_copy 9 = .ok (.invokevirtual 211, 3) := by decide +kernel
theorem dX7_copy_12 : decode cX7_copy 12 = .ok (.astore 7, 2) := by decide +kernel
theorem dX7_copy_14 : decode cX7_copy 14 = .ok (.aload 6, 2) := by decide +kernel
theorem dX7_copy_16 : decode cX7_copy 16 = .ok (.ifnull 8, 3) := by decide +kernel
theorem dX7_copy_19 : decode cX7_copy 19 = .ok (.aload 7, 2) := by decide +kernel
theorem dX7_copy_21 : decode cX7_copy 21 = .ok (.ifnonnull 6, 3) := by decide +kernel
theorem dX7_copy_24 : decode cX7_copy 24 = .ok (.bipush (-2), 2) := by decide +kernel
theorem dX7_copy_26 : decode cX7_copy 26 = .ok (.ireturn, 1) := by decide +kernel
theorem dX7_copy_27 : decode cX7_copy 27 = .ok (.aload 6, 2) := by decide +kernel
theorem dX7_copy_29 : decode cX7_copy 29 = .ok (.getfield 222, 3) := by decide +kernel
theorem dX7_copy_32 : decode cX7_copy 32 = .ok (.ifCond .ne 11, 3) := by decide +kernel
theorem dX7_copy_35 : decode cX7_copy 35 = .ok (.aload 7, 2) := by decide +kernel
theorem dX7_copy_37 : decode cX7_copy 37 = .ok (.getfield 222, 3) := by decide +kernel
theorem dX7_copy_40 : decode cX7_copy 40 = .ok (.ifCond .eq 9, 3) := by decide +kernel
theorem dX7_copy_43 : decode cX7_copy 43 = .ok (.aload_n 0, 1) := by decide +kernel
theorem dX7_copy_44 : decode cX7_copy 44 = .ok (.iconst 1, 1) := by decide +kernel
theorem dX7_copy_45 : decode cX7_copy 45 = .ok (.invokevirtual 215, 3) := by decide +kernel
theorem dX7_copy_48 : decode cX7_copy 48 = .ok (.ireturn, 1) := by decide +kernel
theorem dX7_copy_49 : decode cX7_copy 49 = .ok (.aload 6, 2) := by decide +kernel
theorem dX7_copy_51 : decode cX7_copy 51 = .ok (.getfield 239, 3) := by decide +kernel
theorem dX7_copy_54 : decode cX7_copy 54 = .ok (.aload 7, 2) := by decide +kernel
theorem dX7_copy_56 : decode cX7_copy 56 = .ok (.getfield 239, 3) := by decide +kernel
theorem dX7_copy_59 : decode cX7_copy 59 = .ok (.if_icmp .eq 9, 3) := by decide +kernel
theorem dX7_copy_62 : decode cX7_copy 62 = .ok (.aload_n 0, 1) := by decide +kernel
theorem dX7_copy_63 : decode cX7_copy 63 = .ok (.iconst 4, 1) := by decide +kernel
theorem dX7_copy_64 : decode cX7_copy 64 = .ok (.invokevirtual 215, 3) := by decide +kernel
theorem dX7_copy_67 : decode cX7_copy 67 = .ok (.ireturn, 1) := by decide +kernel
theorem dX7_copy_68 : decode cX7_copy 68 = .ok (.aload 6, 2) := by decide +kernel
theorem dX7_copy_70 : decode cX7_copy 70 = .ok (.iload_n 2, 1) := by decide +kernel
theorem dX7_copy_71 : decode cX7_copy 71 = .ok (.iload 5, 2) := by decide +kernel
theorem dX7_copy_73 : decode cX7_copy 73 = .ok (.invokevirtual 242, 3) := by decide +kernel
theorem dX7_copy_76 : decode cX7_copy 76 = .ok (.ifCond .eq 15, 3) := by decide +kernel
theorem dX7_copy_79 : decode cX7_copy 79 = .ok (.aload 7, 2) := by decide +kernel
theorem dX7_copy_81 : decode cX7_copy 81 = .ok (.iload 4, 2) := by decide +kernel
theorem dX7_copy_83 : decode cX7_copy 83 = .ok (.iload 5, 2) := by decide +kernel
theorem dX7_copy_85 : decode cX7_copy 85 = .ok (.invokevirtual 242, 3) := by decide +kernel
theorem dX7_copy_88 : decode cX7_copy 88 = .ok (.ifCond .ne 9, 3) := by decide +kernel
theorem dX7_copy_91 : decode cX7_copy 91 = .ok (.aload_n 0, 1) := by decide +kernel
theorem dX7_copy_92 : decode cX7_copy 92 = .ok (.iconst 2, 1) := by decide +kernel
theorem dX7_copy_93 : decode cX7_copy 93 = .ok (.invokevirtual 215, 3) := by decide +kernel
theorem dX7_copy_96 : decode cX7_copy 96 = .ok (.ireturn, 1) := by decide +kernel
theorem dX7_copy_97 : decode cX7_copy 97 = .ok (.aload 6, 2) := by decide +kernel
theorem dX7_copy_99 : decode cX7_copy 99 = .ok (.getfield 245, 3) := by decide +kernel
theorem dX7_copy_102 : decode cX7_copy 102 = .ok (.iload_n 2, 1) := by decide +kernel
theorem dX7_copy_103 : decode cX7_copy 103 = .ok (.aload 7, 2) := by decide +kernel
theorem dX7_copy_105 : decode cX7_copy 105 = .ok (.getfield 245, 3) := by decide +kernel
theorem dX7_copy_108 : decode cX7_copy 108 = .ok (.iload 4, 2) := by decide +kernel
theorem dX7_copy_110 : decode cX7_copy 110 = .ok (.iload 5, 2) := by decide +kernel
theorem dX7_copy_112 : decode cX7_copy 112 = .ok (.invokestatic 249, 3) := by decide +kernel
theorem dX7_copy_115 : decode cX7_copy 115 = .ok (.iconst 1, 1) := by decide +kernel
theorem dX7_copy_116 : decode cX7_copy 116 = .ok (.ireturn, 1) := by decide +kernel
theorem iw_X7_copy_X4 : ∀ w ∈ u_ws RX4 TX4 4, w ∈ wsX7_copy := by decide +kernel
theorem lk_X7_copy_0 : Cond.fieldLink RX7 222 (TX4 3).1 (TX4 3).2.1 (TX4 3).2.2.1 ∈ wsX7_copy := by decide +kernel
theorem lk_X7_copy_1 : Cond.fieldLink RX7 239 (TX4 1).1 (TX4 1).2.1 (TX4 1).2.2.1 ∈ wsX7_copy := by decide +kernel
theorem lk_X7_copy_2 : Cond.fieldLink RX7 245 (TX4 0).1 (TX4 0).2.1 (TX4 0).2.2.1 ∈ wsX7_copy := by decide +kernel
set_option maxRecDepth 100000 in
theorem r_X7_copy_0 {X : Bn} (C : Cx X cX7_copy 8 RX7 wsX7_copy 2 42) (ad : Nat → Nat) (S : MS) (x1 : Int32) (x2 : Int32) (x3 : Int32) (x4 : Int32) (x5 : Int32) (h : (∀ k : Nat, k < 4 → x1 = Int32.ofNat k → ((∀ k2 : Nat, k2 < 4 → x3 = Int32.ofNat k2 → (((S.1 (32 + k) 0 = 0) → (((S.1 (32 + k2) 0 = 0) → (((S.1 (24 + k) 0 = S.1 (24 + k2) 0) → ((((f_X4_holds S k x2 x5) = true) → ((((f_X4_holds S k2 x4 x5) = true) → (((¬ x2 < 0) ∧ (¬ x4 < 0) ∧ (¬ x5 < 0) ∧ (x2.toNatClampNeg + x5.toNatClampNeg ≤ 64) ∧ (x4.toNatClampNeg + x5.toNatClampNeg ≤ 64)) ∧ (Ends X (some .int) (some (.int 1)) (cW X.E ad (setF S (20 + k2) (va_cpy (S.1 (20 + k)) (S.1 (20 + k2)) x2.toNatClampNeg x4.toNatClampNeg x5.toNatClampNeg)))))) ∧ ((f_X4_holds S k2 x4 x5) = false → (Ends X (some .int) (some (.int (f_X7_found S (2 : Int32)))) (cW X.E ad (s_X7_found S (2 : Int32))))))) ∧ ((f_X4_holds S k x2 x5) = false → (Ends X (some .int) (some (.int (f_X7_found S (2 : Int32)))) (cW X.E ad (s_X7_found S (2 : Int32))))))) ∧ (¬ S.1 (24 + k) 0 = S.1 (24 + k2) 0 → (Ends X (some .int) (some (.int (f_X7_found S (4 : Int32)))) (cW X.E ad (s_X7_found S (4 : Int32))))))) ∧ (¬ S.1 (32 + k2) 0 = 0 → (Ends X (some .int) (some (.int (f_X7_found S (1 : Int32)))) (cW X.E ad (s_X7_found S (1 : Int32))))))) ∧ (¬ S.1 (32 + k) 0 = 0 → (Ends X (some .int) (some (.int (f_X7_found S (1 : Int32)))) (cW X.E ad (s_X7_found S (1 : Int32))))))) ∧ (¬ (0 ≤ x3 ∧ x3 < 4) → (Ends X (some .int) (some (.int (-2))) (cW X.E ad S))))) ∧ (¬ (0 ≤ x1 ∧ x1 < 4) → ((∀ k2 : Nat, k2 < 4 → x3 = Int32.ofNat k2 → (Ends X (some .int) (some (.int (-2))) (cW X.E ad S))) ∧ (¬ (0 ≤ x3 ∧ x3 < 4) → (Ends X (some .int) (some (.int (-2))) (cW X.E ad S)))))) : At X 8 (cW X.E ad S) 0 [(0, .ref (ad 0)), (1, .int x1), (2, .int x2), (3, .int x3), (4, .int x4), (5, .int x5)] [] := by
  refine at_aload_n C dX7_copy_0 rfl (j := 0) rfl ?_
  refine at_iload_n C dX7_copy_1 rfl (j := 1) rfl ?_
  refine at_cV1 C 1 (c_X7_sheetOf X.l X.D X.E X.a1 X.a2 ad S x1) gX7_copy_X7_sheetOf rfl (by decide +kernel) ⟨rfl, rfl⟩ rfl rfl rfl 0 cW_c0 rfl dX7_copy_2 ?_
  rcases sh_cases x1 with ⟨k, hk, hs1⟩ | hs1
  · rw [shV_k hk hs1]
    replace h := h.1 k hk hs1
    refine at_astore C dX7_copy_5 (by decide) (lv' := [(6, .ref (ad (20 + 2 * k))), (0, .ref (ad 0)), (1, .int x1), (2, .int x2), (3, .int x3), (4, .int x4), (5, .int x5)]) rfl ?_
    refine at_aload_n C dX7_copy_7 rfl (j := 1) rfl ?_
    refine at_iload_n C dX7_copy_8 rfl (j := 4) rfl ?_
    refine at_cV1 C 1 (c_X7_sheetOf X.l X.D X.E X.a1 X.a2 ad S x3) gX7_copy_X7_sheetOf rfl (by decide +kernel) ⟨rfl, rfl⟩ rfl rfl rfl 0 cW_c0 rfl dX7_copy_9 ?_
    rcases sh_cases x3 with ⟨k2, hk2, hs2⟩ | hs2
    · rw [shV_k hk2 hs2]
      replace h := h.1 k2 hk2 hs2
      refine at_astore C dX7_copy_12 (by decide) (lv' := [(7, .ref (ad (20 + 2 * k2))), (6, .ref (ad (20 + 2 * k))), (0, .ref (ad 0)), (1, .int x1), (2, .int x2), (3, .int x3), (4, .int x4), (5, .int x5)]) rfl ?_
      refine at_aload C dX7_copy_14 (j := 1) rfl ?_
      refine at_ifnull C dX7_copy_16 ?_
      refine at_aload C dX7_copy_19 (j := 0) rfl ?_
      refine at_ifnonnull C dX7_copy_21 (tgt := 27) (by decide) ?_
      refine at_aload C dX7_copy_27 (j := 1) rfl ?_
      refine at_get C (K := RX4) (T := TX4) (N := 4) (ci := 3) (v := .int (S.1 (32 + k) 0)) iw_X7_copy_X4 (20 + 2 * k) (cW_sheet hk) rfl 3 (by decide) lk_X7_copy_0 rfl dX7_copy_29 ?_
      refine at_if_ne C dX7_copy_32 (tgt := 43) (by decide) (fun hc0 => ?_) (fun hc0 => ?_)
      · replace h := h.2 hc0
        refine at_aload_n C dX7_copy_43 rfl (j := 2) rfl ?_
        refine at_iconst C dX7_copy_44 (v := 1) rfl ?_
        refine at_cV1 C 1 (c_X7_found X.l X.D X.E X.a1 X.a2 ad S (1 : Int32)) gX7_copy_X7_found rfl (by decide +kernel) ⟨rfl, rfl⟩ rfl rfl rfl 0 cW_c0 rfl dX7_copy_45 ?_
        exact at_iret C dX7_copy_48 h
      · replace h := h.1 hc0
        refine at_aload C dX7_copy_35 (j := 0) rfl ?_
        refine at_get C (K := RX4) (T := TX4) (N := 4) (ci := 3) (v := .int (S.1 (32 + k2) 0)) iw_X7_copy_X4 (20 + 2 * k2) (cW_sheet hk2) rfl 3 (by decide) lk_X7_copy_0 rfl dX7_copy_37 ?_
        refine at_if_eq C dX7_copy_40 (tgt := 49) (by decide) (fun hc1 => ?_) (fun hc1 => ?_)
        · replace h := h.1 hc1
          refine at_aload C dX7_copy_49 (j := 1) rfl ?_
          refine at_get C (K := RX4) (T := TX4) (N := 4) (ci := 3) (v := .int (S.1 (24 + k) 0)) iw_X7_copy_X4 (20 + 2 * k) (cW_sheet hk) rfl 1 (by decide) lk_X7_copy_1 rfl dX7_copy_51 ?_
          refine at_aload C dX7_copy_54 (j := 0) rfl ?_
          refine at_get C (K := RX4) (T := TX4) (N := 4) (ci := 3) (v := .int (S.1 (24 + k2) 0)) iw_X7_copy_X4 (20 + 2 * k2) (cW_sheet hk2) rfl 1 (by decide) lk_X7_copy_1 rfl dX7_copy_56 ?_
          refine at_icmp_eq C dX7_copy_59 (tgt := 68) (by decide) (fun hc2 => ?_) (fun hc2 => ?_)
          · replace h := h.1 hc2
            refine at_aload C dX7_copy_68 (j := 1) rfl ?_
            refine at_iload_n C dX7_copy_70 rfl (j := 4) rfl ?_
            refine at_iload C dX7_copy_71 (j := 7) rfl ?_
            refine at_cV1 C 2 (c_X4_holds X.l X.D X.E X.a1 X.a2 ad S k hk x2 x5) gX7_copy_X4_holds rfl (by decide +kernel) ⟨rfl, rfl⟩ rfl rfl rfl (20 + 2 * k) (cW_sheet hk) rfl dX7_copy_73 ?_
            refine at_ifB_eq C dX7_copy_76 (tgt := 91) (by decide) (fun hc3 => ?_) (fun hc3 => ?_)
            · replace h := h.2 hc3
              refine at_aload_n C dX7_copy_91 rfl (j := 2) rfl ?_
              refine at_iconst C dX7_copy_92 (v := 2) rfl ?_
              refine at_cV1 C 1 (c_X7_found X.l X.D X.E X.a1 X.a2 ad S (2 : Int32)) gX7_copy_X7_found rfl (by decide +kernel) ⟨rfl, rfl⟩ rfl rfl rfl 0 cW_c0 rfl dX7_copy_93 ?_
              exact at_iret C dX7_copy_96 h
            · replace h := h.1 hc3
              refine at_aload C dX7_copy_79 (j := 0) rfl ?_
              refine at_iload C dX7_copy_81 (j := 6) rfl ?_
              refine at_iload C dX7_copy_83 (j := 7) rfl ?_
              refine at_cV1 C 2 (c_X4_holds X.l X.D X.E X.a1 X.a2 ad S k2 hk2 x4 x5) gX7_copy_X4_holds rfl (by decide +kernel) ⟨rfl, rfl⟩ rfl rfl rfl (20 + 2 * k2) (cW_sheet hk2) rfl dX7_copy_85 ?_
              refine at_ifB_ne C dX7_copy_88 (tgt := 97) (by decide) (fun hc4 => ?_) (fun hc4 => ?_)
              · replace h := h.1 hc4
                refine at_aload C dX7_copy_97 (j := 1) rfl ?_
                refine at_get C (K := RX4) (T := TX4) (N := 4) (ci := 3) (v := .ref (ad (21 + 2 * k))) iw_X7_copy_X4 (20 + 2 * k) (cW_sheet hk) rfl 0 (by decide) lk_X7_copy_2 rfl dX7_copy_99 ?_
                refine at_iload_n C dX7_copy_102 rfl (j := 4) rfl ?_
                refine at_aload C dX7_copy_103 (j := 0) rfl ?_
                refine at_get C (K := RX4) (T := TX4) (N := 4) (ci := 3) (v := .ref (ad (21 + 2 * k2))) iw_X7_copy_X4 (20 + 2 * k2) (cW_sheet hk2) rfl 0 (by decide) lk_X7_copy_2 rfl dX7_copy_105 ?_
                refine at_iload C dX7_copy_108 (j := 6) rfl ?_
                refine at_iload C dX7_copy_110 (j := 7) rfl ?_
                refine at_copyi C (ix := 249) (by decide +kernel) (by decide +kernel) (by decide +kernel) (by decide +kernel) (21 + 2 * k) (21 + 2 * k2) (cW_items hk) (cW_items hk2) h.1.1 h.1.2.1 h.1.2.2.1 h.1.2.2.2.1 h.1.2.2.2.2 ⟨rfl, rfl⟩ (cW_setF_items hk2) dX7_copy_112 ?_
                replace h := h.2
                refine at_iconst C dX7_copy_115 (v := 1) rfl ?_
                exact at_iret C dX7_copy_116 h
              · replace h := h.2 hc4
                refine at_aload_n C dX7_copy_91 rfl (j := 2) rfl ?_
                refine at_iconst C dX7_copy_92 (v := 2) rfl ?_
                refine at_cV1 C 1 (c_X7_found X.l X.D X.E X.a1 X.a2 ad S (2 : Int32)) gX7_copy_X7_found rfl (by decide +kernel) ⟨rfl, rfl⟩ rfl rfl rfl 0 cW_c0 rfl dX7_copy_93 ?_
                exact at_iret C dX7_copy_96 h
          · replace h := h.2 hc2
            refine at_aload_n C dX7_copy_62 rfl (j := 2) rfl ?_
            refine at_iconst C dX7_copy_63 (v := 4) rfl ?_
            refine at_cV1 C 1 (c_X7_found X.l X.D X.E X.a1 X.a2 ad S (4 : Int32)) gX7_copy_X7_found rfl (by decide +kernel) ⟨rfl, rfl⟩ rfl rfl rfl 0 cW_c0 rfl dX7_copy_64 ?_
            exact at_iret C dX7_copy_67 h
        · replace h := h.2 hc1
          refine at_aload_n C dX7_copy_43 rfl (j := 2) rfl ?_
          refine at_iconst C dX7_copy_44 (v := 1) rfl ?_
          refine at_cV1 C 1 (c_X7_found X.l X.D X.E X.a1 X.a2 ad S (1 : Int32)) gX7_copy_X7_found rfl (by decide +kernel) ⟨rfl, rfl⟩ rfl rfl rfl 0 cW_c0 rfl dX7_copy_45 ?_
          exact at_iret C dX7_copy_48 h
    · rw [shV_n hs2]
      replace h := h.2 hs2
      refine at_astoreN C dX7_copy_12 (by decide) (lv' := [(7, .null), (6, .ref (ad (20 + 2 * k))), (0, .ref (ad 0)), (1, .int x1), (2, .int x2), (3, .int x3), (4, .int x4), (5, .int x5)]) rfl ?_
      refine at_aload C dX7_copy_14 (j := 1) rfl ?_
      refine at_ifnull C dX7_copy_16 ?_
      refine at_aloadN C dX7_copy_19 (j := 0) rfl ?_
      refine at_ifnonnullN C dX7_copy_21 ?_
      refine at_bipush C dX7_copy_24 (v := (-2)) rfl ?_
      exact at_iret C dX7_copy_26 h
  · rw [shV_n hs1]
    replace h := h.2 hs1
    refine at_astoreN C dX7_copy_5 (by decide) (lv' := [(6, .null), (0, .ref (ad 0)), (1, .int x1), (2, .int x2), (3, .int x3), (4, .int x4), (5, .int x5)]) rfl ?_
    refine at_aload_n C dX7_copy_7 rfl (j := 1) rfl ?_
    refine at_iload_n C dX7_copy_8 rfl (j := 4) rfl ?_
    refine at_cV1 C 1 (c_X7_sheetOf X.l X.D X.E X.a1 X.a2 ad S x3) gX7_copy_X7_sheetOf rfl (by decide +kernel) ⟨rfl, rfl⟩ rfl rfl rfl 0 cW_c0 rfl dX7_copy_9 ?_
    rcases sh_cases x3 with ⟨k2, hk2, hs2⟩ | hs2
    · rw [shV_k hk2 hs2]
      replace h := h.1 k2 hk2 hs2
      refine at_astore C dX7_copy_12 (by decide) (lv' := [(7, .ref (ad (20 + 2 * k2))), (6, .null), (0, .ref (ad 0)), (1, .int x1), (2, .int x2), (3, .int x3), (4, .int x4), (5, .int x5)]) rfl ?_
      refine at_aloadN C dX7_copy_14 (j := 1) rfl ?_
      refine at_ifnullN C dX7_copy_16 (tgt := 24) (by decide) ?_
      refine at_bipush C dX7_copy_24 (v := (-2)) rfl ?_
      exact at_iret C dX7_copy_26 h
    · rw [shV_n hs2]
      replace h := h.2 hs2
      refine at_astoreN C dX7_copy_12 (by decide) (lv' := [(7, .null), (6, .null), (0, .ref (ad 0)), (1, .int x1), (2, .int x2), (3, .int x3), (4, .int x4), (5, .int x5)]) rfl ?_
      refine at_aloadN C dX7_copy_14 (j := 1) rfl ?_
      refine at_ifnullN C dX7_copy_16 (tgt := 24) (by decide) ?_
      refine at_bipush C dX7_copy_24 (v := (-2)) rfl ?_
      exact at_iret C dX7_copy_26 h
set_option maxRecDepth 20000 in
theorem ggX7_write_X7_sheetOf : GoodIn wsX7_write wsX7_sheetOf := goodIn_r _ [8, 9, 10, 11, 7, 12, 60, 61, 62, 63, 64, 65, 66, 67] (by decide +kernel) (by decide +kernel)
set_option maxRecDepth 20000 in
theorem gX7_write_X7_sheetOf : GoodIn wsX7_write (wsV RX7 211 RX7 yX7_sheetOf wsX7_sheetOf) := goodIn_app (goodIn_of _ (by decide +kernel)) ggX7_write_X7_sheetOf
set_option maxRecDepth 20000 in
theorem ggX7_write_X7_found : GoodIn wsX7_write wsX7_found := goodIn_r _ [16, 17, 60, 61, 62, 63, 64, 65, 66, 67] (by decide +kernel) (by decide +kernel)
set_option maxRecDepth 20000 in
theorem gX7_write_X7_found : GoodIn wsX7_write (wsV RX7 215 RX7 yX7_found wsX7_found) := goodIn_app (goodIn_of _ (by decide +kernel)) ggX7_write_X7_found
set_option maxRecDepth 20000 in
theorem ggX7_write_X1_isFree : GoodIn wsX7_write wsX1_isFree := goodIn_r _ [22, 23, 24, 25, 21, 26, 11, 7, 12, 68, 69, 70, 71, 72, 73] (by decide +kernel) (by decide +kernel)
set_option maxRecDepth 20000 in
theorem gX7_write_X1_isFree : GoodIn wsX7_write (wsV RX7 168 RX1 yX1_isFree wsX1_isFree) := goodIn_app (goodIn_of _ (by decide +kernel)) ggX7_write_X1_isFree
set_option maxRecDepth 20000 in
theorem ggX7_write_X7_view : GoodIn wsX7_write wsX7_view := goodIn_r _ [30, 3, 18, 19, 20, 21, 22, 23, 24, 25, 26, 11, 7, 12, 31, 32, 33, 34, 35, 36, 37, 38, 39, 40, 41, 42, 43, 44, 45, 46, 47, 60, 61, 62, 63, 64, 65, 66, 67, 68, 69, 70, 71, 72, 73] (by decide +kernel) (by decide +kernel)
set_option maxRecDepth 20000 in
theorem gX7_write_X7_view : GoodIn wsX7_write (wsV RX7 255 RX7 yX7_view wsX7_view) := goodIn_app (goodIn_of _ (by decide +kernel)) ggX7_write_X7_view
set_option maxRecDepth 20000 in
theorem ggX7_write_X4_put : GoodIn wsX7_write wsX4_put := goodIn_r _ [52, 53, 54, 55, 11, 7, 12, 56, 57, 58, 59] (by decide +kernel) (by decide +kernel)
set_option maxRecDepth 20000 in
theorem gX7_write_X4_put : GoodIn wsX7_write (wsV RX7 232 RX4 yX4_put wsX4_put) := goodIn_app (goodIn_of _ (by decide +kernel)) ggX7_write_X4_put
theorem dX7_write_0 : decode cX7_write 0 = .ok (.aload_n 0, 1) := by decide +kernel
theorem dX7_write_1 : decode cX7_write 1 = .ok (.iload_n 1, 1) := by decide +kernel
theorem dX7_write_2 : decode cX7_write 2 = .ok (.invokevirtual 211, 3) := by decide +kernel
theorem dX7_write_5 : decode cX7_write 5 = .ok (.astore_n 2, 1) := by decide +kernel
theorem dX7_write_6 : decode cX7_write 6 = .ok (.aload_n 2, 1) := by decide +kernel
theorem dX7_write_7 : decode cX7_write 7 = .ok (.ifnonnull 6, 3) := by decide +kernel
theorem dX7_write_10 : decode cX7_write 10 = .ok (.bipush (-2), 2) := by decide +kernel
theorem dX7_write_12 : decode cX7_write 12 = .ok (.ireturn, 1) := by decide +kernel
theorem dX7_write_13 : decode cX7_write 13 = .ok (.aload_n 2, 1) := by decide +kernel
theorem dX7_write_14 : decode cX7_write 14 = .ok (.getfield 222, 3) := by decide +kernel
theorem dX7_write_17 : decode cX7_write 17 = .ok (.ifCond .eq 9, 3) := by decide +kernel
theorem dX7_write_20 : decode cX7_write 20 = .ok (.aload_n 0, 1) := by decide +kernel
theorem dX7_write_21 : decode cX7_write 21 = .ok (.iconst 1, 1) := by decide +kernel
theorem dX7_write_22 : decode cX7_write 22 = .ok (.invokevirtual 215, 3) := by decide +kernel
theorem dX7_write_25 : decode cX7_write 25 = .ok (.ireturn, 1) := by decide +kernel
theorem dX7_write_26 : decode cX7_write 26 = .ok (.iconst 0, 1) := by decide +kernel
theorem dX7_write_27 : decode cX7_write 27 = .ok (.istore_n 3, 1) := by decide +kernel
theorem dX7_write_28 : decode cX7_write 28 = .ok (.iload_n 3, 1) := by decide +kernel
theorem dX7_write_29 : decode cX7_write 29 = .ok (.aload_n 2, 1) := by decide +kernel
theorem dX7_write_30 : decode cX7_write 30 = .ok (.getfield 226, 3) := by decide +kernel
theorem dX7_write_33 : decode cX7_write 33 = .ok (.if_icmp .ge 34, 3) := by decide +kernel
theorem dX7_write_36 : decode cX7_write 36 = .ok (.aload_n 2, 1) := by decide +kernel
theorem dX7_write_37 : decode cX7_write 37 = .ok (.iload_n 3, 1) := by decide +kernel
theorem dX7_write_38 : decode cX7_write 38 = .ok (.aload_n 0, 1) := by decide +kernel
theorem dX7_write_39 : decode cX7_write 39 = .ok (.getfield 31, 3) := by decide +kernel
theorem dX7_write_42 : decode cX7_write 42 = .ok (.iload_n 3, 1) := by decide +kernel
theorem dX7_write_43 : decode cX7_write 43 = .ok (.invokevirtual 168, 3) := by decide +kernel
theorem dX7_write_46 : decode cX7_write 46 = .ok (.ifCond .eq 11, 3) := by decide +kernel
theorem dX7_write_49 : decode cX7_write 49 = .ok (.aload_n 0, 1) := by decide +kernel
theorem dX7_write_50 : decode cX7_write 50 = .ok (.iload_n 3, 1) := by decide +kernel
theorem dX7_write_51 : decode cX7_write 51 = .ok (.invokevirtual 255, 3) := by decide +kernel
theorem dX7_write_54 : decode cX7_write 54 = .ok (.goto 4, 3) := by decide +kernel
theorem dX7_write_57 : decode cX7_write 57 = .ok (.iconst (-1), 1) := by decide +kernel
theorem dX7_write_58 : decode cX7_write 58 = .ok (.invokevirtual 232, 3) := by decide +kernel
theorem dX7_write_61 : decode cX7_write 61 = .ok (.iinc 3 1, 3) := by decide +kernel
theorem dX7_write_64 : decode cX7_write 64 = .ok (.goto (-36), 3) := by decide +kernel
theorem dX7_write_67 : decode cX7_write 67 = .ok (.aload_n 2, 1) := by decide +kernel
theorem dX7_write_68 : decode cX7_write 68 = .ok (.getfield 226, 3) := by decide +kernel
theorem dX7_write_71 : decode cX7_write 71 = .ok (.ireturn, 1) := by decide +kernel
theorem iw_X7_write_X4 : ∀ w ∈ u_ws RX4 TX4 4, w ∈ wsX7_write := by decide +kernel
theorem iw_X7_write_X7 : ∀ w ∈ u_ws RX7 TX7 8, w ∈ wsX7_write := by decide +kernel
theorem lk_X7_write_0 : Cond.fieldLink RX7 222 (TX4 3).1 (TX4 3).2.1 (TX4 3).2.2.1 ∈ wsX7_write := by decide +kernel
theorem lk_X7_write_1 : Cond.fieldLink RX7 226 (TX4 2).1 (TX4 2).2.1 (TX4 2).2.2.1 ∈ wsX7_write := by decide +kernel
theorem lk_X7_write_2 : Cond.fieldLink RX7 31 (TX7 3).1 (TX7 3).2.1 (TX7 3).2.2.1 ∈ wsX7_write := by decide +kernel
set_option maxRecDepth 100000 in
theorem r_X7_write_0 {X : Bn} (C : Cx X cX7_write 4 RX7 wsX7_write 4 96) (ad : Nat → Nat) (S : MS) (x1 : Int32) (h : (∀ k : Nat, k < 4 → x1 = Int32.ofNat k → (((S.1 (32 + k) 0 = 0) → (At X 4 (cW X.E ad S) 28 [(0, .ref (ad 0)), (2, .ref (ad (20 + 2 * k))), (3, .int 0)] [])) ∧ (¬ S.1 (32 + k) 0 = 0 → (Ends X (some .int) (some (.int (f_X7_found S (1 : Int32)))) (cW X.E ad (s_X7_found S (1 : Int32))))))) ∧ (¬ (0 ≤ x1 ∧ x1 < 4) → (Ends X (some .int) (some (.int (-2))) (cW X.E ad S)))) : At X 4 (cW X.E ad S) 0 [(0, .ref (ad 0)), (1, .int x1)] [] := by
  refine at_aload_n C dX7_write_0 rfl (j := 0) rfl ?_
  refine at_iload_n C dX7_write_1 rfl (j := 1) rfl ?_
  refine at_cV1 C 1 (c_X7_sheetOf X.l X.D X.E X.a1 X.a2 ad S x1) gX7_write_X7_sheetOf rfl (by decide +kernel) ⟨rfl, rfl⟩ rfl rfl rfl 0 cW_c0 rfl dX7_write_2 ?_
  rcases sh_cases x1 with ⟨k, hk, hs1⟩ | hs1
  · rw [shV_k hk hs1]
    replace h := h.1 k hk hs1
    refine at_astore_n C dX7_write_5 rfl (by decide) (lv' := [(2, .ref (ad (20 + 2 * k))), (0, .ref (ad 0)), (1, .int x1)]) rfl ?_
    refine at_aload_n C dX7_write_6 rfl (j := 0) rfl ?_
    refine at_ifnonnull C dX7_write_7 (tgt := 13) (by decide) ?_
    refine at_aload_n C dX7_write_13 rfl (j := 0) rfl ?_
    refine at_get C (K := RX4) (T := TX4) (N := 4) (ci := 3) (v := .int (S.1 (32 + k) 0)) iw_X7_write_X4 (20 + 2 * k) (cW_sheet hk) rfl 3 (by decide) lk_X7_write_0 rfl dX7_write_14 ?_
    refine at_if_eq C dX7_write_17 (tgt := 26) (by decide) (fun hc0 => ?_) (fun hc0 => ?_)
    · replace h := h.1 hc0
      refine at_iconst C dX7_write_26 (v := 0) rfl ?_
      refine at_istore_n C dX7_write_27 rfl (by decide) (lv' := [(3, .int 0), (2, .ref (ad (20 + 2 * k))), (0, .ref (ad 0)), (1, .int x1)]) rfl ?_
      refine at_lv [2, 1, 0] rfl ?_
      exact h
    · replace h := h.2 hc0
      refine at_aload_n C dX7_write_20 rfl (j := 1) rfl ?_
      refine at_iconst C dX7_write_21 (v := 1) rfl ?_
      refine at_cV1 C 1 (c_X7_found X.l X.D X.E X.a1 X.a2 ad S (1 : Int32)) gX7_write_X7_found rfl (by decide +kernel) ⟨rfl, rfl⟩ rfl rfl rfl 0 cW_c0 rfl dX7_write_22 ?_
      exact at_iret C dX7_write_25 h
  · rw [shV_n hs1]
    replace h := h.2 hs1
    refine at_astore_nN C dX7_write_5 rfl (by decide) (lv' := [(2, .null), (0, .ref (ad 0)), (1, .int x1)]) rfl ?_
    refine at_aload_nN C dX7_write_6 rfl (j := 0) rfl ?_
    refine at_ifnonnullN C dX7_write_7 ?_
    refine at_bipush C dX7_write_10 (v := (-2)) rfl ?_
    exact at_iret C dX7_write_12 h
set_option maxRecDepth 100000 in
theorem r_X7_write_28 {X : Bn} (C : Cx X cX7_write 4 RX7 wsX7_write 4 96) (ad : Nat → Nat) (S : MS) (k : Nat) (hk : k < 4) (x3 : Int32) (h : ((S.1 (28 + k) 0 ≤ x3) → (Ends X (some .int) (some (.int (S.1 (28 + k) 0))) (cW X.E ad S))) ∧ (¬ S.1 (28 + k) 0 ≤ x3 → (((((f_X1_isFree S x3) = true) → (p_X7_view S x3))) ∧ (At X 4 (cW X.E ad (s_X4_put S k x3 (if (f_X1_isFree S x3) then f_X7_view S x3 else (-1)))) 28 [(0, .ref (ad 0)), (2, .ref (ad (20 + 2 * k))), (3, .int (x3 + 1))] [])))) : At X 4 (cW X.E ad S) 28 [(0, .ref (ad 0)), (2, .ref (ad (20 + 2 * k))), (3, .int x3)] [] := by
  refine at_iload_n C dX7_write_28 rfl (j := 2) rfl ?_
  refine at_aload_n C dX7_write_29 rfl (j := 1) rfl ?_
  refine at_get C (K := RX4) (T := TX4) (N := 4) (ci := 3) (v := .int (S.1 (28 + k) 0)) iw_X7_write_X4 (20 + 2 * k) (cW_sheet hk) rfl 2 (by decide) lk_X7_write_1 rfl dX7_write_30 ?_
  refine at_icmp_ge C dX7_write_33 (tgt := 67) (by decide) (fun hc1 => ?_) (fun hc1 => ?_)
  · replace h := h.1 hc1
    refine at_aload_n C dX7_write_67 rfl (j := 1) rfl ?_
    refine at_get C (K := RX4) (T := TX4) (N := 4) (ci := 3) (v := .int (S.1 (28 + k) 0)) iw_X7_write_X4 (20 + 2 * k) (cW_sheet hk) rfl 2 (by decide) lk_X7_write_1 rfl dX7_write_68 ?_
    exact at_iret C dX7_write_71 h
  · replace h := h.2 hc1
    refine at_aload_n C dX7_write_36 rfl (j := 1) rfl ?_
    refine at_iload_n C dX7_write_37 rfl (j := 2) rfl ?_
    refine at_aload_n C dX7_write_38 rfl (j := 0) rfl ?_
    refine at_get C (K := RX7) (T := TX7) (N := 8) (ci := 6) (v := .ref (ad 8)) iw_X7_write_X7 0 cW_c0 rfl 3 (by decide) lk_X7_write_2 rfl dX7_write_39 ?_
    refine at_iload_n C dX7_write_42 rfl (j := 2) rfl ?_
    refine at_cV1 C 1 (c_X1_isFree X.l X.D X.E X.a1 X.a2 ad S x3) gX7_write_X1_isFree rfl (by decide +kernel) ⟨rfl, rfl⟩ rfl rfl rfl 8 cW_c8 rfl dX7_write_43 ?_
    have hq := h.1
    replace h := h.2
    have K : At X 4 (cW X.E ad S) 58 [(0, .ref (ad 0)), (2, .ref (ad (20 + 2 * k))), (3, .int x3)] [.int (if (f_X1_isFree S x3) then f_X7_view S x3 else (-1)), .int x3, .ref (ad (20 + 2 * k))] := by
      refine at_cV1v C 2 (e_X4_put X.l X.D X.E X.a1 X.a2 ad S k hk x3 (if (f_X1_isFree S x3) then f_X7_view S x3 else (-1))) gX7_write_X4_put rfl (by decide +kernel) ⟨rfl, rfl⟩ rfl rfl rfl (20 + 2 * k) (cW_sheet hk) rfl dX7_write_58 ?_
      refine at_iinc C dX7_write_61 (j := 2) (v := x3 + 1) rfl rfl (by decide) (lv' := [(3, .int (x3 + 1)), (0, .ref (ad 0)), (2, .ref (ad (20 + 2 * k)))]) rfl ?_
      refine at_goto C dX7_write_64 (tgt := 28) (by decide) ?_
      refine at_lv [1, 2, 0] rfl ?_
      exact h
    replace h := hq
    refine at_ifB_eq C dX7_write_46 (tgt := 57) (by decide) (fun hc2 => ?_) (fun hc2 => ?_)
    · skip
      refine at_iconst C dX7_write_57 (v := (-1)) rfl ?_
      first | (simp only [if_neg (show ¬ (f_X1_isFree S x3) = true by rw [hc2]; decide)] at K; exact K) | exact K
    · replace h := h hc2
      refine at_aload_n C dX7_write_49 rfl (j := 0) rfl ?_
      refine at_iload_n C dX7_write_50 rfl (j := 2) rfl ?_
      refine at_cV1 C 1 (c_X7_view X.l X.D X.E X.a1 X.a2 ad S x3 h) gX7_write_X7_view rfl (by decide +kernel) ⟨rfl, rfl⟩ rfl rfl rfl 0 cW_c0 rfl dX7_write_51 ?_
      refine at_goto C dX7_write_54 (tgt := 58) (by decide) ?_
      first | (simp only [if_pos hc2] at K; exact K) | exact K
set_option maxRecDepth 20000 in
theorem ggX7_read_X7_sheetOf : GoodIn wsX7_read wsX7_sheetOf := goodIn_r _ [7, 8, 9, 10, 6, 11, 45, 46, 47, 48, 49, 50, 51, 52] (by decide +kernel) (by decide +kernel)
set_option maxRecDepth 20000 in
theorem gX7_read_X7_sheetOf : GoodIn wsX7_read (wsV RX7 211 RX7 yX7_sheetOf wsX7_sheetOf) := goodIn_app (goodIn_of _ (by decide +kernel)) ggX7_read_X7_sheetOf
set_option maxRecDepth 20000 in
theorem ggX7_read_X7_found : GoodIn wsX7_read wsX7_found := goodIn_r _ [15, 16, 45, 46, 47, 48, 49, 50, 51, 52] (by decide +kernel) (by decide +kernel)
set_option maxRecDepth 20000 in
theorem gX7_read_X7_found : GoodIn wsX7_read (wsV RX7 215 RX7 yX7_found wsX7_found) := goodIn_app (goodIn_of _ (by decide +kernel)) ggX7_read_X7_found
set_option maxRecDepth 20000 in
theorem ggX7_read_X4_item : GoodIn wsX7_read wsX4_item := goodIn_r _ [21, 22, 23, 10, 6, 11, 41, 42, 43, 44] (by decide +kernel) (by decide +kernel)
set_option maxRecDepth 20000 in
theorem gX7_read_X4_item : GoodIn wsX7_read (wsV RX7 236 RX4 yX4_item wsX4_item) := goodIn_app (goodIn_of _ (by decide +kernel)) ggX7_read_X4_item
set_option maxRecDepth 20000 in
theorem ggX7_read_X7_seen : GoodIn wsX7_read wsX7_seen := goodIn_r _ [27, 28, 29, 30, 31, 32, 33, 10, 6, 11, 34, 35, 36, 37, 38, 39, 40, 45, 46, 47, 48, 49, 50, 51, 52, 53, 54, 55, 56] (by decide +kernel) (by decide +kernel)
set_option maxRecDepth 20000 in
theorem gX7_read_X7_seen : GoodIn wsX7_read (wsV RX7 258 RX7 yX7_seen wsX7_seen) := goodIn_app (goodIn_of _ (by decide +kernel)) ggX7_read_X7_seen
theorem dX7_read_0 : decode cX7_read 0 = .ok (.aload_n 0, 1) := by decide +kernel
theorem dX7_read_1 : decode cX7_read 1 = .ok (.iload_n 1, 1) := by decide +kernel
theorem dX7_read_2 : decode cX7_read 2 = .ok (.invokevirtual 211, 3) := by decide +kernel
theorem dX7_read_5 : decode cX7_read 5 = .ok (.astore_n 2, 1) := by decide +kernel
theorem dX7_read_6 : decode cX7_read 6 = .ok (.aload_n 2, 1) := by decide +kernel
theorem dX7_read_7 : decode cX7_read 7 = .ok (.ifnonnull 6, 3) := by decide +kernel
theorem dX7_read_10 : decode cX7_read 10 = .ok (.bipush (-2), 2) := by decide +kernel
theorem dX7_read_12 : decode cX7_read 12 = .ok (.ireturn, 1) := by decide +kernel
theorem dX7_read_13 : decode cX7_read 13 = .ok (.aload_n 2, 1) := by decide +kernel
theorem dX7_read_14 : decode cX7_read 14 = .ok (.getfield 222, 3) := by decide +kernel
theorem dX7_read_17 : decode cX7_read 17 = .ok (.ifCond .eq 9, 3) := by decide +kernel
theorem dX7_read_20 : decode cX7_read 20 = .ok (.aload_n 0, 1) := by decide +kernel
theorem dX7_read_21 : decode cX7_read 21 = .ok (.iconst 1, 1) := by decide +kernel
theorem dX7_read_22 : decode cX7_read 22 = .ok (.invokevirtual 215, 3) := by decide +kernel
theorem dX7_read_25 : decode cX7_read 25 = .ok (.ireturn, 1) := by decide +kernel
theorem dX7_read_26 : decode cX7_read 26 = .ok (.aload_n 2, 1) := by decide +kernel
theorem dX7_read_27 : decode cX7_read 27 = .ok (.getfield 226, 3) := by decide +kernel
theorem dX7_read_30 : decode cX7_read 30 = .ok (.iconst 2, 1) := by decide +kernel
theorem dX7_read_31 : decode cX7_read 31 = .ok (.idiv, 1) := by decide +kernel
theorem dX7_read_32 : decode cX7_read 32 = .ok (.istore_n 3, 1) := by decide +kernel
theorem dX7_read_33 : decode cX7_read 33 = .ok (.iconst 0, 1) := by decide +kernel
theorem dX7_read_34 : decode cX7_read 34 = .ok (.istore 4, 2) := by decide +kernel
theorem dX7_read_36 : decode cX7_read 36 = .ok (.iload 4, 2) := by decide +kernel
theorem dX7_read_38 : decode cX7_read 38 = .ok (.iload_n 3, 1) := by decide +kernel
theorem dX7_read_39 : decode cX7_read 39 = .ok (.if_icmp .ge 34, 3) := by decide +kernel
theorem dX7_read_42 : decode cX7_read 42 = .ok (.aload_n 0, 1) := by decide +kernel
theorem dX7_read_43 : decode cX7_read 43 = .ok (.aload_n 2, 1) := by decide +kernel
theorem dX7_read_44 : decode cX7_read 44 = .ok (.iconst 2, 1) := by decide +kernel
theorem dX7_read_45 : decode cX7_read 45 = .ok (.iload 4, 2) := by decide +kernel
theorem dX7_read_47 : decode cX7_read 47 = .ok (.imul, 1) := by decide +kernel
theorem dX7_read_48 : decode cX7_read 48 = .ok (.invokevirtual 236, 3) := by decide +kernel
theorem dX7_read_51 : decode cX7_read 51 = .ok (.aload_n 2, 1) := by decide +kernel
theorem dX7_read_52 : decode cX7_read 52 = .ok (.iconst 2, 1) := by decide +kernel
theorem dX7_read_53 : decode cX7_read 53 = .ok (.iload 4, 2) := by decide +kernel
theorem dX7_read_55 : decode cX7_read 55 = .ok (.imul, 1) := by decide +kernel
theorem dX7_read_56 : decode cX7_read 56 = .ok (.iconst 1, 1) := by decide +kernel
theorem dX7_read_57 : decode cX7_read 57 = .ok (.iadd, 1) := by decide +kernel
theorem dX7_read_58 : decode cX7_read 58 = .ok (.invokevirtual 236, 3) := by decide +kernel
theorem dX7_read_61 : decode cX7_read 61 = .ok (.invokevirtual 258, 3) := by decide +kernel
theorem dX7_read_64 : decode cX7_read 64 = .ok (.ifCond .le 9, 3) := by decide +kernel
theorem dX7_read_67 : decode cX7_read 67 = .ok (.iinc 4 1, 3) := by decide +kernel
theorem dX7_read_70 : decode cX7_read 70 = .ok (.goto (-34), 3) := by decide +kernel
theorem dX7_read_73 : decode cX7_read 73 = .ok (.iload 4, 2) := by decide +kernel
theorem dX7_read_75 : decode cX7_read 75 = .ok (.ireturn, 1) := by decide +kernel
theorem iw_X7_read_X4 : ∀ w ∈ u_ws RX4 TX4 4, w ∈ wsX7_read := by decide +kernel
theorem lk_X7_read_0 : Cond.fieldLink RX7 222 (TX4 3).1 (TX4 3).2.1 (TX4 3).2.2.1 ∈ wsX7_read := by decide +kernel
theorem lk_X7_read_1 : Cond.fieldLink RX7 226 (TX4 2).1 (TX4 2).2.1 (TX4 2).2.2.1 ∈ wsX7_read := by decide +kernel
set_option maxRecDepth 100000 in
theorem r_X7_read_0 {X : Bn} (C : Cx X cX7_read 5 RX7 wsX7_read 3 65) (ad : Nat → Nat) (S : MS) (x1 : Int32) (h : (∀ k : Nat, k < 4 → x1 = Int32.ofNat k → (((S.1 (32 + k) 0 = 0) → (At X 5 (cW X.E ad S) 36 [(0, .ref (ad 0)), (2, .ref (ad (20 + 2 * k))), (3, .int ((S.1 (28 + k) 0) / 2)), (4, .int 0)] [])) ∧ (¬ S.1 (32 + k) 0 = 0 → (Ends X (some .int) (some (.int (f_X7_found S (1 : Int32)))) (cW X.E ad (s_X7_found S (1 : Int32))))))) ∧ (¬ (0 ≤ x1 ∧ x1 < 4) → (Ends X (some .int) (some (.int (-2))) (cW X.E ad S)))) : At X 5 (cW X.E ad S) 0 [(0, .ref (ad 0)), (1, .int x1)] [] := by
  refine at_aload_n C dX7_read_0 rfl (j := 0) rfl ?_
  refine at_iload_n C dX7_read_1 rfl (j := 1) rfl ?_
  refine at_cV1 C 1 (c_X7_sheetOf X.l X.D X.E X.a1 X.a2 ad S x1) gX7_read_X7_sheetOf rfl (by decide +kernel) ⟨rfl, rfl⟩ rfl rfl rfl 0 cW_c0 rfl dX7_read_2 ?_
  rcases sh_cases x1 with ⟨k, hk, hs1⟩ | hs1
  · rw [shV_k hk hs1]
    replace h := h.1 k hk hs1
    refine at_astore_n C dX7_read_5 rfl (by decide) (lv' := [(2, .ref (ad (20 + 2 * k))), (0, .ref (ad 0)), (1, .int x1)]) rfl ?_
    refine at_aload_n C dX7_read_6 rfl (j := 0) rfl ?_
    refine at_ifnonnull C dX7_read_7 (tgt := 13) (by decide) ?_
    refine at_aload_n C dX7_read_13 rfl (j := 0) rfl ?_
    refine at_get C (K := RX4) (T := TX4) (N := 4) (ci := 3) (v := .int (S.1 (32 + k) 0)) iw_X7_read_X4 (20 + 2 * k) (cW_sheet hk) rfl 3 (by decide) lk_X7_read_0 rfl dX7_read_14 ?_
    refine at_if_eq C dX7_read_17 (tgt := 26) (by decide) (fun hc0 => ?_) (fun hc0 => ?_)
    · replace h := h.1 hc0
      refine at_aload_n C dX7_read_26 rfl (j := 0) rfl ?_
      refine at_get C (K := RX4) (T := TX4) (N := 4) (ci := 3) (v := .int (S.1 (28 + k) 0)) iw_X7_read_X4 (20 + 2 * k) (cW_sheet hk) rfl 2 (by decide) lk_X7_read_1 rfl dX7_read_27 ?_
      refine at_iconst C dX7_read_30 (v := 2) rfl ?_
      refine at_idiv C dX7_read_31 (by decide) ?_
      refine at_istore_n C dX7_read_32 rfl (by decide) (lv' := [(3, .int ((S.1 (28 + k) 0) / 2)), (2, .ref (ad (20 + 2 * k))), (0, .ref (ad 0)), (1, .int x1)]) rfl ?_
      refine at_iconst C dX7_read_33 (v := 0) rfl ?_
      refine at_istore C dX7_read_34 (by decide) (lv' := [(4, .int 0), (3, .int ((S.1 (28 + k) 0) / 2)), (2, .ref (ad (20 + 2 * k))), (0, .ref (ad 0)), (1, .int x1)]) rfl ?_
      refine at_lv [3, 2, 1, 0] rfl ?_
      exact h
    · replace h := h.2 hc0
      refine at_aload_n C dX7_read_20 rfl (j := 1) rfl ?_
      refine at_iconst C dX7_read_21 (v := 1) rfl ?_
      refine at_cV1 C 1 (c_X7_found X.l X.D X.E X.a1 X.a2 ad S (1 : Int32)) gX7_read_X7_found rfl (by decide +kernel) ⟨rfl, rfl⟩ rfl rfl rfl 0 cW_c0 rfl dX7_read_22 ?_
      exact at_iret C dX7_read_25 h
  · rw [shV_n hs1]
    replace h := h.2 hs1
    refine at_astore_nN C dX7_read_5 rfl (by decide) (lv' := [(2, .null), (0, .ref (ad 0)), (1, .int x1)]) rfl ?_
    refine at_aload_nN C dX7_read_6 rfl (j := 0) rfl ?_
    refine at_ifnonnullN C dX7_read_7 ?_
    refine at_bipush C dX7_read_10 (v := (-2)) rfl ?_
    exact at_iret C dX7_read_12 h
set_option maxRecDepth 100000 in
theorem r_X7_read_36 {X : Bn} (C : Cx X cX7_read 5 RX7 wsX7_read 3 65) (ad : Nat → Nat) (S : MS) (k : Nat) (hk : k < 4) (x3 : Int32) (x4 : Int32) (h : ((x3 ≤ x4) → (Ends X (some .int) (some (.int x4)) (cW X.E ad S))) ∧ (¬ x3 ≤ x4 → (((f_X7_seen S (f_X4_item S k (2 * x4)) (f_X4_item S k ((2 * x4) + 1)) ≤ 0) → (Ends X (some .int) (some (.int x4)) (cW X.E ad (s_X7_seen S (f_X4_item S k (2 * x4)) (f_X4_item S k ((2 * x4) + 1)))))) ∧ (¬ f_X7_seen S (f_X4_item S k (2 * x4)) (f_X4_item S k ((2 * x4) + 1)) ≤ 0 → (At X 5 (cW X.E ad (s_X7_seen S (f_X4_item S k (2 * x4)) (f_X4_item S k ((2 * x4) + 1)))) 36 [(0, .ref (ad 0)), (2, .ref (ad (20 + 2 * k))), (3, .int x3), (4, .int (x4 + 1))] []))))) : At X 5 (cW X.E ad S) 36 [(0, .ref (ad 0)), (2, .ref (ad (20 + 2 * k))), (3, .int x3), (4, .int x4)] [] := by
  refine at_iload C dX7_read_36 (j := 3) rfl ?_
  refine at_iload_n C dX7_read_38 rfl (j := 2) rfl ?_
  refine at_icmp_ge C dX7_read_39 (tgt := 73) (by decide) (fun hc1 => ?_) (fun hc1 => ?_)
  · replace h := h.1 hc1
    refine at_iload C dX7_read_73 (j := 3) rfl ?_
    exact at_iret C dX7_read_75 h
  · replace h := h.2 hc1
    refine at_aload_n C dX7_read_42 rfl (j := 0) rfl ?_
    refine at_aload_n C dX7_read_43 rfl (j := 1) rfl ?_
    refine at_iconst C dX7_read_44 (v := 2) rfl ?_
    refine at_iload C dX7_read_45 (j := 3) rfl ?_
    refine at_imul C dX7_read_47 ?_
    refine at_cV1 C 1 (e_X4_item X.l X.D X.E X.a1 X.a2 ad S k hk (2 * x4)) gX7_read_X4_item rfl (by decide +kernel) ⟨rfl, rfl⟩ rfl rfl rfl (20 + 2 * k) (cW_sheet hk) rfl dX7_read_48 ?_
    refine at_aload_n C dX7_read_51 rfl (j := 1) rfl ?_
    refine at_iconst C dX7_read_52 (v := 2) rfl ?_
    refine at_iload C dX7_read_53 (j := 3) rfl ?_
    refine at_imul C dX7_read_55 ?_
    refine at_iconst C dX7_read_56 (v := 1) rfl ?_
    refine at_iadd C dX7_read_57 ?_
    refine at_cV1 C 1 (e_X4_item X.l X.D X.E X.a1 X.a2 ad S k hk ((2 * x4) + 1)) gX7_read_X4_item rfl (by decide +kernel) ⟨rfl, rfl⟩ rfl rfl rfl (20 + 2 * k) (cW_sheet hk) rfl dX7_read_58 ?_
    refine at_cV1 C 2 (c_X7_seen X.l X.D X.E X.a1 X.a2 ad S (f_X4_item S k (2 * x4)) (f_X4_item S k ((2 * x4) + 1))) gX7_read_X7_seen rfl (by decide +kernel) ⟨rfl, rfl⟩ rfl rfl rfl 0 cW_c0 rfl dX7_read_61 ?_
    refine at_if_le C dX7_read_64 (tgt := 73) (by decide) (fun hc2 => ?_) (fun hc2 => ?_)
    · replace h := h.1 hc2
      refine at_iload C dX7_read_73 (j := 3) rfl ?_
      exact at_iret C dX7_read_75 h
    · replace h := h.2 hc2
      refine at_iinc C dX7_read_67 (j := 3) (v := x4 + 1) rfl rfl (by decide) (lv' := [(4, .int (x4 + 1)), (0, .ref (ad 0)), (2, .ref (ad (20 + 2 * k))), (3, .int x3)]) rfl ?_
      refine at_goto C dX7_read_70 (tgt := 36) (by decide) ?_
      refine at_lv [1, 2, 3, 0] rfl ?_
      exact h
set_option maxRecDepth 20000 in
theorem ggX7_count_J13_bitCount_95d88 : GoodIn wsX7_count wsJ13_bitCount_95d88 := goodIn_r _ [14, 15, 16, 17] (by decide +kernel) (by decide +kernel)
set_option maxRecDepth 20000 in
theorem gX7_count_J13_bitCount_95d88 : GoodIn wsX7_count (va_wsS RX7 175 yJ13_bitCount_95d88 wsJ13_bitCount_95d88) := goodIn_app (goodIn_of _ (by decide +kernel)) ggX7_count_J13_bitCount_95d88
set_option maxRecDepth 20000 in
theorem ggX7_count_X3_cellsOfAll : GoodIn wsX7_count wsX3_cellsOfAll := goodIn_r _ [22, 23, 24, 25, 26, 21, 27, 28, 29, 30, 31, 32, 33, 34, 35, 76, 77, 78, 79] (by decide +kernel) (by decide +kernel)
set_option maxRecDepth 20000 in
theorem gX7_count_X3_cellsOfAll : GoodIn wsX7_count (wsV RX7 266 RX3 yX3_cellsOfAll wsX3_cellsOfAll) := goodIn_app (goodIn_of _ (by decide +kernel)) ggX7_count_X3_cellsOfAll
set_option maxRecDepth 20000 in
theorem ggX7_count_X3_wholeOnes : GoodIn wsX7_count wsX3_wholeOnes := goodIn_r _ [39, 23, 24, 25, 26, 21, 27, 28, 40, 41, 42, 43, 44, 45, 76, 77, 78, 79] (by decide +kernel) (by decide +kernel)
set_option maxRecDepth 20000 in
theorem gX7_count_X3_wholeOnes : GoodIn wsX7_count (wsV RX7 270 RX3 yX3_wholeOnes wsX3_wholeOnes) := goodIn_app (goodIn_of _ (by decide +kernel)) ggX7_count_X3_wholeOnes
set_option maxRecDepth 20000 in
theorem ggX7_count_X3_unlikeTheirMirror : GoodIn wsX7_count wsX3_unlikeTheirMirror := goodIn_r _ [49, 23, 24, 25, 26, 21, 27, 28, 50, 51, 42, 52, 53, 54, 55, 56, 57, 58, 59, 60, 61, 62, 63, 64, 65, 66, 67, 76, 77, 78, 79] (by decide +kernel) (by decide +kernel)
set_option maxRecDepth 20000 in
theorem gX7_count_X3_unlikeTheirMirror : GoodIn wsX7_count (wsV RX7 273 RX3 yX3_unlikeTheirMirror wsX3_unlikeTheirMirror) := goodIn_app (goodIn_of _ (by decide +kernel)) ggX7_count_X3_unlikeTheirMirror
theorem dX7_count_0 : decode cX7_count 0 = .ok (.iload_n 1, 1) := by decide +kernel
theorem dX7_count_1 : decode cX7_count 1 = .ok (.tableswitch 123 0 8 #[51, 59, 70, 78, 86, 94, 102, 110, 118], 51) := by decide +kernel
theorem dX7_count_52 : decode cX7_count 52 = .ok (.aload_n 0, 1) := by decide +kernel
theorem dX7_count_53 : decode cX7_count 53 = .ok (.getfield 24, 3) := by decide +kernel
theorem dX7_count_56 : decode cX7_count 56 = .ok (.getfield 261, 3) := by decide +kernel
theorem dX7_count_59 : decode cX7_count 59 = .ok (.ireturn, 1) := by decide +kernel
theorem dX7_count_60 : decode cX7_count 60 = .ok (.aload_n 0, 1) := by decide +kernel
theorem dX7_count_61 : decode cX7_count 61 = .ok (.getfield 31, 3) := by decide +kernel
theorem dX7_count_64 : decode cX7_count 64 = .ok (.getfield 262, 3) := by decide +kernel
theorem dX7_count_67 : decode cX7_count 67 = .ok (.invokestatic 175, 3) := by decide +kernel
theorem dX7_count_70 : decode cX7_count 70 = .ok (.ireturn, 1) := by decide +kernel
theorem dX7_count_71 : decode cX7_count 71 = .ok (.aload_n 0, 1) := by decide +kernel
theorem dX7_count_72 : decode cX7_count 72 = .ok (.getfield 14, 3) := by decide +kernel
theorem dX7_count_75 : decode cX7_count 75 = .ok (.getfield 75, 3) := by decide +kernel
theorem dX7_count_78 : decode cX7_count 78 = .ok (.ireturn, 1) := by decide +kernel
theorem dX7_count_79 : decode cX7_count 79 = .ok (.aload_n 0, 1) := by decide +kernel
theorem dX7_count_80 : decode cX7_count 80 = .ok (.getfield 18, 3) := by decide +kernel
theorem dX7_count_83 : decode cX7_count 83 = .ok (.getfield 75, 3) := by decide +kernel
theorem dX7_count_86 : decode cX7_count 86 = .ok (.ireturn, 1) := by decide +kernel
theorem dX7_count_87 : decode cX7_count 87 = .ok (.aload_n 0, 1) := by decide +kernel
theorem dX7_count_88 : decode cX7_count 88 = .ok (.getfield 45, 3) := by decide +kernel
theorem dX7_count_91 : decode cX7_count 91 = .ok (.getfield 154, 3) := by decide +kernel
theorem dX7_count_94 : decode cX7_count 94 = .ok (.ireturn, 1) := by decide +kernel
theorem dX7_count_95 : decode cX7_count 95 = .ok (.aload_n 0, 1) := by decide +kernel
theorem dX7_count_96 : decode cX7_count 96 = .ok (.getfield 24, 3) := by decide +kernel
theorem dX7_count_99 : decode cX7_count 99 = .ok (.invokevirtual 266, 3) := by decide +kernel
theorem dX7_count_102 : decode cX7_count 102 = .ok (.ireturn, 1) := by decide +kernel
theorem dX7_count_103 : decode cX7_count 103 = .ok (.aload_n 0, 1) := by decide +kernel
theorem dX7_count_104 : decode cX7_count 104 = .ok (.getfield 24, 3) := by decide +kernel
theorem dX7_count_107 : decode cX7_count 107 = .ok (.invokevirtual 270, 3) := by decide +kernel
theorem dX7_count_110 : decode cX7_count 110 = .ok (.ireturn, 1) := by decide +kernel
theorem dX7_count_111 : decode cX7_count 111 = .ok (.aload_n 0, 1) := by decide +kernel
theorem dX7_count_112 : decode cX7_count 112 = .ok (.getfield 24, 3) := by decide +kernel
theorem dX7_count_115 : decode cX7_count 115 = .ok (.invokevirtual 273, 3) := by decide +kernel
theorem dX7_count_118 : decode cX7_count 118 = .ok (.ireturn, 1) := by decide +kernel
theorem dX7_count_119 : decode cX7_count 119 = .ok (.aload_n 0, 1) := by decide +kernel
theorem dX7_count_120 : decode cX7_count 120 = .ok (.getfield 56, 3) := by decide +kernel
theorem dX7_count_123 : decode cX7_count 123 = .ok (.ireturn, 1) := by decide +kernel
theorem dX7_count_124 : decode cX7_count 124 = .ok (.bipush (-2), 2) := by decide +kernel
theorem dX7_count_126 : decode cX7_count 126 = .ok (.ireturn, 1) := by decide +kernel
theorem iw_X7_count_X0 : ∀ w ∈ u_ws RX0 TX0 4, w ∈ wsX7_count := by decide +kernel
theorem iw_X7_count_X1 : ∀ w ∈ u_ws RX1 TX1 6, w ∈ wsX7_count := by decide +kernel
theorem iw_X7_count_X3 : ∀ w ∈ u_ws RX3 TX3 4, w ∈ wsX7_count := by decide +kernel
theorem iw_X7_count_X5 : ∀ w ∈ u_ws RX5 TX5 2, w ∈ wsX7_count := by decide +kernel
theorem iw_X7_count_X7 : ∀ w ∈ u_ws RX7 TX7 8, w ∈ wsX7_count := by decide +kernel
theorem lk_X7_count_0 : Cond.fieldLink RX7 24 (TX7 2).1 (TX7 2).2.1 (TX7 2).2.2.1 ∈ wsX7_count := by decide +kernel
theorem lk_X7_count_1 : Cond.fieldLink RX7 261 (TX3 2).1 (TX3 2).2.1 (TX3 2).2.2.1 ∈ wsX7_count := by decide +kernel
theorem lk_X7_count_2 : Cond.fieldLink RX7 31 (TX7 3).1 (TX7 3).2.1 (TX7 3).2.2.1 ∈ wsX7_count := by decide +kernel
theorem lk_X7_count_3 : Cond.fieldLink RX7 262 (TX1 1).1 (TX1 1).2.1 (TX1 1).2.2.1 ∈ wsX7_count := by decide +kernel
theorem lk_X7_count_4 : Cond.fieldLink RX7 14 (TX7 0).1 (TX7 0).2.1 (TX7 0).2.2.1 ∈ wsX7_count := by decide +kernel
theorem lk_X7_count_5 : Cond.fieldLink RX7 75 (TX5 1).1 (TX5 1).2.1 (TX5 1).2.2.1 ∈ wsX7_count := by decide +kernel
theorem lk_X7_count_6 : Cond.fieldLink RX7 18 (TX7 1).1 (TX7 1).2.1 (TX7 1).2.2.1 ∈ wsX7_count := by decide +kernel
theorem lk_X7_count_7 : Cond.fieldLink RX7 45 (TX7 5).1 (TX7 5).2.1 (TX7 5).2.2.1 ∈ wsX7_count := by decide +kernel
theorem lk_X7_count_8 : Cond.fieldLink RX7 154 (TX0 3).1 (TX0 3).2.1 (TX0 3).2.2.1 ∈ wsX7_count := by decide +kernel
theorem lk_X7_count_9 : Cond.fieldLink RX7 56 (TX7 7).1 (TX7 7).2.1 (TX7 7).2.2.1 ∈ wsX7_count := by decide +kernel
set_option maxRecDepth 100000 in
theorem r_X7_count_0 {X : Bn} (C : Cx X cX7_count 2 RX7 wsX7_count 4 91) (ad : Nat → Nat) (S : MS) (x1 : Int32) (h : (x1 = 0 → (Ends X (some .int) (some (.int (S.1 6 0))) (cW X.E ad S))) ∧ (x1 = 1 → (Ends X (some .int) (some (.int (f_J13_bitCount_95d88 (S.2 1 0)))) (cW X.E ad S))) ∧ (x1 = 2 → (Ends X (some .int) (some (.int (S.1 2 0))) (cW X.E ad S))) ∧ (x1 = 3 → (Ends X (some .int) (some (.int (S.1 3 0))) (cW X.E ad S))) ∧ (x1 = 4 → (Ends X (some .int) (some (.int (S.1 15 0))) (cW X.E ad S))) ∧ (x1 = 5 → ((okC S) ∧ (Ends X (some .int) (some (.int (f_X3_cellsOfAll S))) (cW X.E ad S)))) ∧ (x1 = 6 → ((okC S) ∧ (Ends X (some .int) (some (.int (f_X3_wholeOnes S))) (cW X.E ad S)))) ∧ (x1 = 7 → ((okC S) ∧ (Ends X (some .int) (some (.int (f_X3_unlikeTheirMirror S))) (cW X.E ad S)))) ∧ (x1 = 8 → (Ends X (some .int) (some (.int (S.1 16 0))) (cW X.E ad S))) ∧ (¬ x1 = 0 → ¬ x1 = 1 → ¬ x1 = 2 → ¬ x1 = 3 → ¬ x1 = 4 → ¬ x1 = 5 → ¬ x1 = 6 → ¬ x1 = 7 → ¬ x1 = 8 → (Ends X (some .int) (some (.int (-2))) (cW X.E ad S)))) : At X 2 (cW X.E ad S) 0 [(0, .ref (ad 0)), (1, .int x1)] [] := by
  refine at_iload_n C dX7_count_0 rfl (j := 1) rfl ?_
  by_cases hk0 : x1 = 0
  · refine at_tabIn C dX7_count_1 (by rw [hk0]; decide) (by rw [hk0]; decide) (by rw [hk0]; rfl) (tgt := 52) (by decide) ?_
    replace h := h.1 hk0
    refine at_aload_n C dX7_count_52 rfl (j := 0) rfl ?_
    refine at_get C (K := RX7) (T := TX7) (N := 8) (ci := 6) (v := .ref (ad 5)) iw_X7_count_X7 0 cW_c0 rfl 2 (by decide) lk_X7_count_0 rfl dX7_count_53 ?_
    refine at_get C (K := RX3) (T := TX3) (N := 4) (ci := 2) (v := .int (S.1 6 0)) iw_X7_count_X3 5 cW_c5 rfl 2 (by decide) lk_X7_count_1 rfl dX7_count_56 ?_
    exact at_iret C dX7_count_59 h
  replace h := h.2
  by_cases hk1 : x1 = 1
  · refine at_tabIn C dX7_count_1 (by rw [hk1]; decide) (by rw [hk1]; decide) (by rw [hk1]; rfl) (tgt := 60) (by decide) ?_
    replace h := h.1 hk1
    refine at_aload_n C dX7_count_60 rfl (j := 0) rfl ?_
    refine at_get C (K := RX7) (T := TX7) (N := 8) (ci := 6) (v := .ref (ad 8)) iw_X7_count_X7 0 cW_c0 rfl 3 (by decide) lk_X7_count_2 rfl dX7_count_61 ?_
    refine at_get C (K := RX1) (T := TX1) (N := 6) (ci := 1) (v := .long (S.2 1 0)) iw_X7_count_X1 8 cW_c8 rfl 1 (by decide) lk_X7_count_3 rfl dX7_count_64 ?_
    refine at_cS0 C 1 (c_J13_bitCount_95d88 X.l X.D X.E X.a1 X.a2 (S.2 1 0)) gX7_count_J13_bitCount_95d88 rfl (by decide +kernel) ⟨rfl, rfl⟩ rfl rfl rfl dX7_count_67 ?_
    exact at_iret C dX7_count_70 h
  replace h := h.2
  by_cases hk2 : x1 = 2
  · refine at_tabIn C dX7_count_1 (by rw [hk2]; decide) (by rw [hk2]; decide) (by rw [hk2]; rfl) (tgt := 71) (by decide) ?_
    replace h := h.1 hk2
    refine at_aload_n C dX7_count_71 rfl (j := 0) rfl ?_
    refine at_get C (K := RX7) (T := TX7) (N := 8) (ci := 6) (v := .ref (ad 1)) iw_X7_count_X7 0 cW_c0 rfl 0 (by decide) lk_X7_count_4 rfl dX7_count_72 ?_
    refine at_get C (K := RX5) (T := TX5) (N := 2) (ci := 4) (v := .int (S.1 2 0)) iw_X7_count_X5 1 cW_c1 rfl 1 (by decide) lk_X7_count_5 rfl dX7_count_75 ?_
    exact at_iret C dX7_count_78 h
  replace h := h.2
  by_cases hk3 : x1 = 3
  · refine at_tabIn C dX7_count_1 (by rw [hk3]; decide) (by rw [hk3]; decide) (by rw [hk3]; rfl) (tgt := 79) (by decide) ?_
    replace h := h.1 hk3
    refine at_aload_n C dX7_count_79 rfl (j := 0) rfl ?_
    refine at_get C (K := RX7) (T := TX7) (N := 8) (ci := 6) (v := .ref (ad 3)) iw_X7_count_X7 0 cW_c0 rfl 1 (by decide) lk_X7_count_6 rfl dX7_count_80 ?_
    refine at_get C (K := RX5) (T := TX5) (N := 2) (ci := 4) (v := .int (S.1 3 0)) iw_X7_count_X5 3 cW_c3 rfl 1 (by decide) lk_X7_count_5 rfl dX7_count_83 ?_
    exact at_iret C dX7_count_86 h
  replace h := h.2
  by_cases hk4 : x1 = 4
  · refine at_tabIn C dX7_count_1 (by rw [hk4]; decide) (by rw [hk4]; decide) (by rw [hk4]; rfl) (tgt := 87) (by decide) ?_
    replace h := h.1 hk4
    refine at_aload_n C dX7_count_87 rfl (j := 0) rfl ?_
    refine at_get C (K := RX7) (T := TX7) (N := 8) (ci := 6) (v := .ref (ad 15)) iw_X7_count_X7 0 cW_c0 rfl 5 (by decide) lk_X7_count_7 rfl dX7_count_88 ?_
    refine at_get C (K := RX0) (T := TX0) (N := 4) (ci := 0) (v := .int (S.1 15 0)) iw_X7_count_X0 15 cW_c15 rfl 3 (by decide) lk_X7_count_8 rfl dX7_count_91 ?_
    exact at_iret C dX7_count_94 h
  replace h := h.2
  by_cases hk5 : x1 = 5
  · refine at_tabIn C dX7_count_1 (by rw [hk5]; decide) (by rw [hk5]; decide) (by rw [hk5]; rfl) (tgt := 95) (by decide) ?_
    replace h := h.1 hk5
    refine at_aload_n C dX7_count_95 rfl (j := 0) rfl ?_
    refine at_get C (K := RX7) (T := TX7) (N := 8) (ci := 6) (v := .ref (ad 5)) iw_X7_count_X7 0 cW_c0 rfl 2 (by decide) lk_X7_count_0 rfl dX7_count_96 ?_
    refine at_cV1 C 0 (c_X3_cellsOfAll X.l X.D X.E X.a1 X.a2 ad S h.1) gX7_count_X3_cellsOfAll rfl (by decide +kernel) ⟨rfl, rfl⟩ rfl rfl rfl 5 cW_c5 rfl dX7_count_99 ?_
    replace h := h.2
    exact at_iret C dX7_count_102 h
  replace h := h.2
  by_cases hk6 : x1 = 6
  · refine at_tabIn C dX7_count_1 (by rw [hk6]; decide) (by rw [hk6]; decide) (by rw [hk6]; rfl) (tgt := 103) (by decide) ?_
    replace h := h.1 hk6
    refine at_aload_n C dX7_count_103 rfl (j := 0) rfl ?_
    refine at_get C (K := RX7) (T := TX7) (N := 8) (ci := 6) (v := .ref (ad 5)) iw_X7_count_X7 0 cW_c0 rfl 2 (by decide) lk_X7_count_0 rfl dX7_count_104 ?_
    refine at_cV1 C 0 (c_X3_wholeOnes X.l X.D X.E X.a1 X.a2 ad S h.1) gX7_count_X3_wholeOnes rfl (by decide +kernel) ⟨rfl, rfl⟩ rfl rfl rfl 5 cW_c5 rfl dX7_count_107 ?_
    replace h := h.2
    exact at_iret C dX7_count_110 h
  replace h := h.2
  by_cases hk7 : x1 = 7
  · refine at_tabIn C dX7_count_1 (by rw [hk7]; decide) (by rw [hk7]; decide) (by rw [hk7]; rfl) (tgt := 111) (by decide) ?_
    replace h := h.1 hk7
    refine at_aload_n C dX7_count_111 rfl (j := 0) rfl ?_
    refine at_get C (K := RX7) (T := TX7) (N := 8) (ci := 6) (v := .ref (ad 5)) iw_X7_count_X7 0 cW_c0 rfl 2 (by decide) lk_X7_count_0 rfl dX7_count_112 ?_
    refine at_cV1 C 0 (c_X3_unlikeTheirMirror X.l X.D X.E X.a1 X.a2 ad S h.1) gX7_count_X3_unlikeTheirMirror rfl (by decide +kernel) ⟨rfl, rfl⟩ rfl rfl rfl 5 cW_c5 rfl dX7_count_115 ?_
    replace h := h.2
    exact at_iret C dX7_count_118 h
  replace h := h.2
  by_cases hk8 : x1 = 8
  · refine at_tabIn C dX7_count_1 (by rw [hk8]; decide) (by rw [hk8]; decide) (by rw [hk8]; rfl) (tgt := 119) (by decide) ?_
    replace h := h.1 hk8
    refine at_aload_n C dX7_count_119 rfl (j := 0) rfl ?_
    refine at_get C (K := RX7) (T := TX7) (N := 8) (ci := 6) (v := .int (S.1 16 0)) iw_X7_count_X7 0 cW_c0 rfl 7 (by decide) lk_X7_count_9 rfl dX7_count_120 ?_
    exact at_iret C dX7_count_123 h
  replace h := h.2
  refine at_tabOut C dX7_count_1 (by have q0 := lv_neT hk0 (a := 0) rfl; have q1 := lv_neT hk1 (a := 1) rfl; have q2 := lv_neT hk2 (a := 2) rfl; have q3 := lv_neT hk3 (a := 3) rfl; have q4 := lv_neT hk4 (a := 4) rfl; have q5 := lv_neT hk5 (a := 5) rfl; have q6 := lv_neT hk6 (a := 6) rfl; have q7 := lv_neT hk7 (a := 7) rfl; have q8 := lv_neT hk8 (a := 8) rfl; omega) (tgt := 124) (by decide) ?_
  replace h := h hk0 hk1 hk2 hk3 hk4 hk5 hk6 hk7 hk8
  refine at_bipush C dX7_count_124 (v := (-2)) rfl ?_
  exact at_iret C dX7_count_126 h
