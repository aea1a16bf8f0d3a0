set_option maxRecDepth 20000 in
theorem ggX8_readsShape_X8_here : GoodIn wsX8_readsShape wsX8_here := goodIn_r _ [12, 6, 13, 14, 18, 19, 20, 21, 22, 23, 24, 25, 26, 27, 28, 29, 30, 31, 32, 33, 34, 35] (by decide +kernel) (by decide +kernel)
set_option maxRecDepth 20000 in
theorem gX8_readsShape_X8_here : GoodIn wsX8_readsShape (wsV RX8 93 RX8 yX8_here wsX8_here) := goodIn_app (goodIn_of _ (by decide +kernel)) ggX8_readsShape_X8_here
set_option maxRecDepth 20000 in
theorem ggX8_readsShape_X8_in : GoodIn wsX8_readsShape wsX8_in := goodIn_r _ [17] (by decide +kernel) (by decide +kernel)
set_option maxRecDepth 20000 in
theorem gX8_readsShape_X8_in : GoodIn wsX8_readsShape (va_wsS RX8 53 yX8_in wsX8_in) := goodIn_app (goodIn_of _ (by decide +kernel)) ggX8_readsShape_X8_in
theorem dX8_readsShape_0 : decode cX8_readsShape 0 = .ok (.aload_n 0, 1) := by decide +kernel
theorem dX8_readsShape_1 : decode cX8_readsShape 1 = .ok (.getfield 90, 3) := by decide +kernel
theorem dX8_readsShape_4 : decode cX8_readsShape 4 = .ok (.bipush 8, 2) := by decide +kernel
theorem dX8_readsShape_6 : decode cX8_readsShape 6 = .ok (.if_icmp .ne 5, 3) := by decide +kernel
theorem dX8_readsShape_9 : decode cX8_readsShape 9 = .ok (.iconst 0, 1) := by decide +kernel
theorem dX8_readsShape_10 : decode cX8_readsShape 10 = .ok (.ireturn, 1) := by decide +kernel
theorem dX8_readsShape_11 : decode cX8_readsShape 11 = .ok (.iconst 0, 1) := by decide +kernel
theorem dX8_readsShape_12 : decode cX8_readsShape 12 = .ok (.istore_n 1, 1) := by decide +kernel
theorem dX8_readsShape_13 : decode cX8_readsShape 13 = .ok (.iconst 0, 1) := by decide +kernel
theorem dX8_readsShape_14 : decode cX8_readsShape 14 = .ok (.istore_n 2, 1) := by decide +kernel
theorem dX8_readsShape_15 : decode cX8_readsShape 15 = .ok (.iload_n 2, 1) := by decide +kernel
theorem dX8_readsShape_16 : decode cX8_readsShape 16 = .ok (.iconst 4, 1) := by decide +kernel
theorem dX8_readsShape_17 : decode cX8_readsShape 17 = .ok (.if_icmp .ge 98, 3) := by decide +kernel
theorem dX8_readsShape_20 : decode cX8_readsShape 20 = .ok (.aload_n 0, 1) := by decide +kernel
theorem dX8_readsShape_21 : decode cX8_readsShape 21 = .ok (.iconst 0, 1) := by decide +kernel
theorem dX8_readsShape_22 : decode cX8_readsShape 22 = .ok (.invokevirtual 93, 3) := by decide +kernel
theorem dX8_readsShape_25 : decode cX8_readsShape 25 = .ok (.istore_n 3, 1) := by decide +kernel
theorem dX8_readsShape_26 : decode cX8_readsShape 26 = .ok (.iload_n 3, 1) := by decide +kernel
theorem dX8_readsShape_27 : decode cX8_readsShape 27 = .ok (.i2l, 1) := by decide +kernel
theorem dX8_readsShape_28 : decode cX8_readsShape 28 = .ok (.ldc2_w 96, 3) := by decide +kernel
theorem dX8_readsShape_31 : decode cX8_readsShape 31 = .ok (.ldc2_w 98, 3) := by decide +kernel
theorem dX8_readsShape_34 : decode cX8_readsShape 34 = .ok (.invokestatic 53, 3) := by decide +kernel
theorem dX8_readsShape_37 : decode cX8_readsShape 37 = .ok (.ifCond .eq 10, 3) := by decide +kernel
theorem dX8_readsShape_40 : decode cX8_readsShape 40 = .ok (.iload_n 3, 1) := by decide +kernel
theorem dX8_readsShape_41 : decode cX8_readsShape 41 = .ok (.bipush 48, 2) := by decide +kernel
theorem dX8_readsShape_43 : decode cX8_readsShape 43 = .ok (.isub, 1) := by decide +kernel
theorem dX8_readsShape_44 : decode cX8_readsShape 44 = .ok (.goto 28, 3) := by decide +kernel
theorem dX8_readsShape_47 : decode cX8_readsShape 47 = .ok (.iload_n 3, 1) := by decide +kernel
theorem dX8_readsShape_48 : decode cX8_readsShape 48 = .ok (.i2l, 1) := by decide +kernel
theorem dX8_readsShape_49 : decode cX8_readsShape 49 = .ok (.ldc2_w 100, 3) := by decide +kernel
theorem dX8_readsShape_52 : decode cX8_readsShape 52 = .ok (.ldc2_w 102, 3) := by decide +kernel
theorem dX8_readsShape_55 : decode cX8_readsShape 55 = .ok (.invokestatic 53, 3) := by decide +kernel
theorem dX8_readsShape_58 : decode cX8_readsShape 58 = .ok (.ifCond .eq 13, 3) := by decide +kernel
theorem dX8_readsShape_61 : decode cX8_readsShape 61 = .ok (.iload_n 3, 1) := by decide +kernel
theorem dX8_readsShape_62 : decode cX8_readsShape 62 = .ok (.bipush 97, 2) := by decide +kernel
theorem dX8_readsShape_64 : decode cX8_readsShape 64 = .ok (.isub, 1) := by decide +kernel
theorem dX8_readsShape_65 : decode cX8_readsShape 65 = .ok (.bipush 10, 2) := by decide +kernel
theorem dX8_readsShape_67 : decode cX8_readsShape 67 = .ok (.iadd, 1) := by decide +kernel
theorem dX8_readsShape_68 : decode cX8_readsShape 68 = .ok (.goto 4, 3) := by decide +kernel
theorem dX8_readsShape_71 : decode cX8_readsShape 71 = .ok (.iconst (-1), 1) := by decide +kernel
theorem dX8_readsShape_72 : decode cX8_readsShape 72 = .ok (.istore 4, 2) := by decide +kernel
theorem dX8_readsShape_74 : decode cX8_readsShape 74 = .ok (.bipush 16, 2) := by decide +kernel
theorem dX8_readsShape_76 : decode cX8_readsShape 76 = .ok (.iload_n 1, 1) := by decide +kernel
theorem dX8_readsShape_77 : decode cX8_readsShape 77 = .ok (.imul, 1) := by decide +kernel
theorem dX8_readsShape_78 : decode cX8_readsShape 78 = .ok (.iload 4, 2) := by decide +kernel
theorem dX8_readsShape_80 : decode cX8_readsShape 80 = .ok (.iadd, 1) := by decide +kernel
theorem dX8_readsShape_81 : decode cX8_readsShape 81 = .ok (.istore_n 1, 1) := by decide +kernel
theorem dX8_readsShape_82 : decode cX8_readsShape 82 = .ok (.iload 4, 2) := by decide +kernel
theorem dX8_readsShape_84 : decode cX8_readsShape 84 = .ok (.iconst (-1), 1) := by decide +kernel
theorem dX8_readsShape_85 : decode cX8_readsShape 85 = .ok (.if_icmp .eq 12, 3) := by decide +kernel
theorem dX8_readsShape_88 : decode cX8_readsShape 88 = .ok (.iload_n 2, 1) := by decide +kernel
theorem dX8_readsShape_89 : decode cX8_readsShape 89 = .ok (.iconst 3, 1) := by decide +kernel
theorem dX8_readsShape_90 : decode cX8_readsShape 90 = .ok (.if_icmp .ne 9, 3) := by decide +kernel
theorem dX8_readsShape_93 : decode cX8_readsShape 93 = .ok (.iload_n 1, 1) := by decide +kernel
theorem dX8_readsShape_94 : decode cX8_readsShape 94 = .ok (.ifCond .ne 5, 3) := by decide +kernel
theorem dX8_readsShape_97 : decode cX8_readsShape 97 = .ok (.iconst 0, 1) := by decide +kernel
theorem dX8_readsShape_98 : decode cX8_readsShape 98 = .ok (.ireturn, 1) := by decide +kernel
theorem dX8_readsShape_99 : decode cX8_readsShape 99 = .ok (.aload_n 0, 1) := by decide +kernel
theorem dX8_readsShape_100 : decode cX8_readsShape 100 = .ok (.dup, 1) := by decide +kernel
theorem dX8_readsShape_101 : decode cX8_readsShape 101 = .ok (.getfield 87, 3) := by decide +kernel
theorem dX8_readsShape_104 : decode cX8_readsShape 104 = .ok (.iconst 1, 1) := by decide +kernel
theorem dX8_readsShape_105 : decode cX8_readsShape 105 = .ok (.iadd, 1) := by decide +kernel
theorem dX8_readsShape_106 : decode cX8_readsShape 106 = .ok (.putfield 87, 3) := by decide +kernel
theorem dX8_readsShape_109 : decode cX8_readsShape 109 = .ok (.iinc 2 1, 3) := by decide +kernel
theorem dX8_readsShape_112 : decode cX8_readsShape 112 = .ok (.goto (-97), 3) := by decide +kernel
theorem dX8_readsShape_115 : decode cX8_readsShape 115 = .ok (.aload_n 0, 1) := by decide +kernel
theorem dX8_readsShape_116 : decode cX8_readsShape 116 = .ok (.getfield 28, 3) := by decide +kernel
theorem dX8_readsShape_119 : decode cX8_readsShape 119 = .ok (.aload_n 0, 1) := by decide +kernel
theorem dX8_readsShape_120 : decode cX8_readsShape 120 = .ok (.getfield 90, 3) := by decide +kernel
theorem dX8_readsShape_123 : decode cX8_readsShape 123 = .ok (.iload_n 1, 1) := by decide +kernel
theorem dX8_readsShape_124 : decode cX8_readsShape 124 = .ok (.iastore, 1) := by decide +kernel
theorem dX8_readsShape_125 : decode cX8_readsShape 125 = .ok (.aload_n 0, 1) := by decide +kernel
theorem dX8_readsShape_126 : decode cX8_readsShape 126 = .ok (.dup, 1) := by decide +kernel
theorem dX8_readsShape_127 : decode cX8_readsShape 127 = .ok (.getfield 90, 3) := by decide +kernel
theorem dX8_readsShape_130 : decode cX8_readsShape 130 = .ok (.iconst 1, 1) := by decide +kernel
theorem dX8_readsShape_131 : decode cX8_readsShape 131 = .ok (.iadd, 1) := by decide +kernel
theorem dX8_readsShape_132 : decode cX8_readsShape 132 = .ok (.putfield 90, 3) := by decide +kernel
theorem dX8_readsShape_135 : decode cX8_readsShape 135 = .ok (.iconst 1, 1) := by decide +kernel
theorem dX8_readsShape_136 : decode cX8_readsShape 136 = .ok (.ireturn, 1) := by decide +kernel
theorem iw_X8_readsShape_X8 : ∀ w ∈ u_ws RX8 TX8 18, w ∈ wsX8_readsShape := by decide +kernel
theorem lk_X8_readsShape_0 : Cond.fieldLink RX8 90 (TX8 8).1 (TX8 8).2.1 (TX8 8).2.2.1 ∈ wsX8_readsShape := by decide +kernel
theorem lk_X8_readsShape_1 : Cond.fieldLink RX8 28 (TX8 9).1 (TX8 9).2.1 (TX8 9).2.2.1 ∈ wsX8_readsShape := by decide +kernel
theorem lk_X8_readsShape_2 : Cond.constantLong RX8 96 48 ∈ wsX8_readsShape := by decide +kernel
theorem lk_X8_readsShape_3 : Cond.constantLong RX8 98 57 ∈ wsX8_readsShape := by decide +kernel
theorem lk_X8_readsShape_4 : Cond.constantLong RX8 100 97 ∈ wsX8_readsShape := by decide +kernel
theorem lk_X8_readsShape_5 : Cond.constantLong RX8 102 102 ∈ wsX8_readsShape := by decide +kernel
theorem lk_X8_readsShape_6 : Cond.fieldLink RX8 87 (TX8 7).1 (TX8 7).2.1 (TX8 7).2.2.1 ∈ wsX8_readsShape := by decide +kernel
set_option maxRecDepth 100000 in
theorem r_X8_readsShape_0 {X : Bn} (C : Cx X cX8_readsShape 5 RX8 wsX8_readsShape 1 25) (ad : Nat → Nat) (S : MS) (h : ((S.1 8 0 = 8) → (Ends X (some .boolean) (some (.int 0)) (mW X.E ad S))) ∧ (¬ S.1 8 0 = 8 → (At X 5 (mW X.E ad S) 15 [(0, .ref (ad 0)), (1, .int 0), (2, .int 0)] []))) : At X 5 (mW X.E ad S) 0 [(0, .ref (ad 0))] [] := by
  refine at_aload_n C dX8_readsShape_0 rfl (j := 0) rfl ?_
  refine at_get C (K := RX8) (T := TX8) (N := 18) (ci := 7) (v := .int (S.1 8 0)) iw_X8_readsShape_X8 0 mW_c0 rfl 8 (by decide) lk_X8_readsShape_0 rfl dX8_readsShape_1 ?_
  refine at_bipush C dX8_readsShape_4 (v := 8) rfl ?_
  refine at_icmp_ne C dX8_readsShape_6 (tgt := 11) (by decide) (fun hc0 => ?_) (fun hc0 => ?_)
  · replace h := h.2 hc0
    refine at_iconst C dX8_readsShape_11 (v := 0) rfl ?_
    refine at_istore_n C dX8_readsShape_12 rfl (by decide) (lv' := [(1, .int 0), (0, .ref (ad 0))]) rfl ?_
    refine at_iconst C dX8_readsShape_13 (v := 0) rfl ?_
    refine at_istore_n C dX8_readsShape_14 rfl (by decide) (lv' := [(2, .int 0), (1, .int 0), (0, .ref (ad 0))]) rfl ?_
    refine at_lv [2, 1, 0] rfl ?_
    exact h
  · replace h := h.1 hc0
    refine at_iconst C dX8_readsShape_9 (v := 0) rfl ?_
    exact at_zret C dX8_readsShape_10 rfl h
set_option maxRecDepth 100000 in
theorem r_X8_readsShape_15 {X : Bn} (C : Cx X cX8_readsShape 5 RX8 wsX8_readsShape 1 25) (ad : Nat → Nat) (S : MS) (x1 : Int32) (x2 : Int32) (h : ((4 ≤ x2) → ((vp_in (S.1 8 0) 8) ∧ (Ends X (some .boolean) (some (.int 1)) (mW X.E ad (pg (pg S 9 ((S.1 8 0).toNatClampNeg) x1) 8 0 ((S.1 8 0) + 1)))))) ∧ (¬ 4 ≤ x2 → ((p_X8_here S (0 : Int32)) ∧ ((((if (f_X8_in ((f_X8_here S (0 : Int32)).toInt64) (48 : Int64) (57 : Int64)) then (f_X8_here S (0 : Int32)) - 48 else (if (f_X8_in ((f_X8_here S (0 : Int32)).toInt64) (97 : Int64) (102 : Int64)) then ((f_X8_here S (0 : Int32)) - 97) + 10 else (-1))) = (-1)) → (Ends X (some .boolean) (some (.int 0)) (mW X.E ad S))) ∧ (¬ (if (f_X8_in ((f_X8_here S (0 : Int32)).toInt64) (48 : Int64) (57 : Int64)) then (f_X8_here S (0 : Int32)) - 48 else (if (f_X8_in ((f_X8_here S (0 : Int32)).toInt64) (97 : Int64) (102 : Int64)) then ((f_X8_here S (0 : Int32)) - 97) + 10 else (-1))) = (-1) → (((x2 = 3) → ((((16 * x1) + (if (f_X8_in ((f_X8_here S (0 : Int32)).toInt64) (48 : Int64) (57 : Int64)) then (f_X8_here S (0 : Int32)) - 48 else (if (f_X8_in ((f_X8_here S (0 : Int32)).toInt64) (97 : Int64) (102 : Int64)) then ((f_X8_here S (0 : Int32)) - 97) + 10 else (-1))) = 0) → (Ends X (some .boolean) (some (.int 0)) (mW X.E ad S))) ∧ (¬ (16 * x1) + (if (f_X8_in ((f_X8_here S (0 : Int32)).toInt64) (48 : Int64) (57 : Int64)) then (f_X8_here S (0 : Int32)) - 48 else (if (f_X8_in ((f_X8_here S (0 : Int32)).toInt64) (97 : Int64) (102 : Int64)) then ((f_X8_here S (0 : Int32)) - 97) + 10 else (-1))) = 0 → (At X 5 (mW X.E ad (pg S 7 0 ((S.1 7 0) + 1))) 15 [(0, .ref (ad 0)), (1, .int ((16 * x1) + (if (f_X8_in ((f_X8_here S (0 : Int32)).toInt64) (48 : Int64) (57 : Int64)) then (f_X8_here S (0 : Int32)) - 48 else (if (f_X8_in ((f_X8_here S (0 : Int32)).toInt64) (97 : Int64) (102 : Int64)) then ((f_X8_here S (0 : Int32)) - 97) + 10 else (-1))))), (2, .int (x2 + 1))] [])))) ∧ (¬ x2 = 3 → (At X 5 (mW X.E ad (pg S 7 0 ((S.1 7 0) + 1))) 15 [(0, .ref (ad 0)), (1, .int ((16 * x1) + (if (f_X8_in ((f_X8_here S (0 : Int32)).toInt64) (48 : Int64) (57 : Int64)) then (f_X8_here S (0 : Int32)) - 48 else (if (f_X8_in ((f_X8_here S (0 : Int32)).toInt64) (97 : Int64) (102 : Int64)) then ((f_X8_here S (0 : Int32)) - 97) + 10 else (-1))))), (2, .int (x2 + 1))] [])))))))) : At X 5 (mW X.E ad S) 15 [(0, .ref (ad 0)), (1, .int x1), (2, .int x2)] [] := by
  refine at_iload_n C dX8_readsShape_15 rfl (j := 2) rfl ?_
  refine at_iconst C dX8_readsShape_16 (v := 4) rfl ?_
  refine at_icmp_ge C dX8_readsShape_17 (tgt := 115) (by decide) (fun hc1 => ?_) (fun hc1 => ?_)
  · replace h := h.1 hc1
    refine at_aload_n C dX8_readsShape_115 rfl (j := 0) rfl ?_
    refine at_get C (K := RX8) (T := TX8) (N := 18) (ci := 7) (v := .ref (ad 7)) iw_X8_readsShape_X8 0 mW_c0 rfl 9 (by decide) lk_X8_readsShape_1 rfl dX8_readsShape_116 ?_
    refine at_aload_n C dX8_readsShape_119 rfl (j := 0) rfl ?_
    refine at_get C (K := RX8) (T := TX8) (N := 18) (ci := 7) (v := .int (S.1 8 0)) iw_X8_readsShape_X8 0 mW_c0 rfl 8 (by decide) lk_X8_readsShape_0 rfl dX8_readsShape_120 ?_
    refine at_iload_n C dX8_readsShape_123 rfl (j := 1) rfl ?_
    refine at_iast C 7 mW_c7 h.1 mW_s7 dX8_readsShape_124 ?_
    replace h := h.2
    refine at_aload_n C dX8_readsShape_125 rfl (j := 0) rfl ?_
    refine at_dup C dX8_readsShape_126 rfl ?_
    refine at_get C (K := RX8) (T := TX8) (N := 18) (ci := 7) (v := .int ((pg S 9 ((S.1 8 0).toNatClampNeg) x1).1 8 0)) iw_X8_readsShape_X8 0 mW_c0 rfl 8 (by decide) lk_X8_readsShape_0 rfl dX8_readsShape_127 ?_
    refine at_topI (pg_o (by decide)) ?_
    refine at_iconst C dX8_readsShape_130 (v := 1) rfl ?_
    refine at_iadd C dX8_readsShape_131 ?_
    refine at_put C (K := RX8) (T := TX8) (N := 18) (ci := 7) (ty := .int) iw_X8_readsShape_X8 tyX8 tyX8_ok nmX8 0 mW_c0 rfl 8 (by decide) lk_X8_readsShape_0 rfl rfl rfl rfl (Nat.le_of_ble_eq_true rfl) mW_f0_8 dX8_readsShape_132 ?_
    refine at_iconst C dX8_readsShape_135 (v := 1) rfl ?_
    exact at_zret C dX8_readsShape_136 rfl h
  · replace h := h.2 hc1
    refine at_aload_n C dX8_readsShape_20 rfl (j := 0) rfl ?_
    refine at_iconst C dX8_readsShape_21 (v := 0) rfl ?_
    refine at_cV1 C 1 (c_X8_here X.l X.D X.E X.a1 X.a2 ad S (0 : Int32) h.1) gX8_readsShape_X8_here rfl (by decide +kernel) ⟨rfl, rfl⟩ rfl rfl rfl 0 mW_c0 rfl dX8_readsShape_22 ?_
    replace h := h.2
    refine at_istore_n C dX8_readsShape_25 rfl (by decide) (lv' := [(3, .int (f_X8_here S (0 : Int32))), (0, .ref (ad 0)), (1, .int x1), (2, .int x2)]) rfl ?_
    refine at_iload_n C dX8_readsShape_26 rfl (j := 0) rfl ?_
    refine at_i2l C dX8_readsShape_27 ?_
    refine at_ldc2 C lk_X8_readsShape_2 dX8_readsShape_28 ?_
    refine at_ldc2 C lk_X8_readsShape_3 dX8_readsShape_31 ?_
    refine at_cS0 C 3 (c_X8_in X.l X.D X.E X.a1 X.a2 ((f_X8_here S (0 : Int32)).toInt64) (48 : Int64) (57 : Int64)) gX8_readsShape_X8_in rfl (by decide +kernel) ⟨rfl, rfl⟩ rfl rfl rfl dX8_readsShape_34 ?_
    have K : At X 5 (mW X.E ad S) 72 [(0, .ref (ad 0)), (1, .int x1), (2, .int x2)] [.int (if (f_X8_in ((f_X8_here S (0 : Int32)).toInt64) (48 : Int64) (57 : Int64)) then (f_X8_here S (0 : Int32)) - 48 else (if (f_X8_in ((f_X8_here S (0 : Int32)).toInt64) (97 : Int64) (102 : Int64)) then ((f_X8_here S (0 : Int32)) - 97) + 10 else (-1)))] := by
      refine at_istore C dX8_readsShape_72 (by decide) (lv' := [(4, .int (if (f_X8_in ((f_X8_here S (0 : Int32)).toInt64) (48 : Int64) (57 : Int64)) then (f_X8_here S (0 : Int32)) - 48 else (if (f_X8_in ((f_X8_here S (0 : Int32)).toInt64) (97 : Int64) (102 : Int64)) then ((f_X8_here S (0 : Int32)) - 97) + 10 else (-1)))), (0, .ref (ad 0)), (1, .int x1), (2, .int x2)]) rfl ?_
      refine at_bipush C dX8_readsShape_74 (v := 16) rfl ?_
      refine at_iload_n C dX8_readsShape_76 rfl (j := 2) rfl ?_
      refine at_imul C dX8_readsShape_77 ?_
      refine at_iload C dX8_readsShape_78 (j := 0) rfl ?_
      refine at_iadd C dX8_readsShape_80 ?_
      refine at_istore_n C dX8_readsShape_81 rfl (by decide) (lv' := [(1, .int ((16 * x1) + (if (f_X8_in ((f_X8_here S (0 : Int32)).toInt64) (48 : Int64) (57 : Int64)) then (f_X8_here S (0 : Int32)) - 48 else (if (f_X8_in ((f_X8_here S (0 : Int32)).toInt64) (97 : Int64) (102 : Int64)) then ((f_X8_here S (0 : Int32)) - 97) + 10 else (-1))))), (4, .int (if (f_X8_in ((f_X8_here S (0 : Int32)).toInt64) (48 : Int64) (57 : Int64)) then (f_X8_here S (0 : Int32)) - 48 else (if (f_X8_in ((f_X8_here S (0 : Int32)).toInt64) (97 : Int64) (102 : Int64)) then ((f_X8_here S (0 : Int32)) - 97) + 10 else (-1)))), (0, .ref (ad 0)), (2, .int x2)]) rfl ?_
      refine at_iload C dX8_readsShape_82 (j := 1) rfl ?_
      refine at_iconst C dX8_readsShape_84 (v := (-1)) rfl ?_
      refine at_icmp_eq C dX8_readsShape_85 (tgt := 97) (by decide) (fun hc2 => ?_) (fun hc2 => ?_)
      · replace h := h.1 hc2
        refine at_iconst C dX8_readsShape_97 (v := 0) rfl ?_
        exact at_zret C dX8_readsShape_98 rfl h
      · replace h := h.2 hc2
        refine at_iload_n C dX8_readsShape_88 rfl (j := 3) rfl ?_
        refine at_iconst C dX8_readsShape_89 (v := 3) rfl ?_
        refine at_icmp_ne C dX8_readsShape_90 (tgt := 99) (by decide) (fun hc3 => ?_) (fun hc3 => ?_)
        · replace h := h.2 hc3
          refine at_aload_n C dX8_readsShape_99 rfl (j := 2) rfl ?_
          refine at_dup C dX8_readsShape_100 rfl ?_
          refine at_get C (K := RX8) (T := TX8) (N := 18) (ci := 7) (v := .int (S.1 7 0)) iw_X8_readsShape_X8 0 mW_c0 rfl 7 (by decide) lk_X8_readsShape_6 rfl dX8_readsShape_101 ?_
          refine at_iconst C dX8_readsShape_104 (v := 1) rfl ?_
          refine at_iadd C dX8_readsShape_105 ?_
          refine at_put C (K := RX8) (T := TX8) (N := 18) (ci := 7) (ty := .int) iw_X8_readsShape_X8 tyX8 tyX8_ok nmX8 0 mW_c0 rfl 7 (by decide) lk_X8_readsShape_6 rfl rfl rfl rfl (Nat.le_of_ble_eq_true rfl) mW_f0_7 dX8_readsShape_106 ?_
          refine at_iinc C dX8_readsShape_109 (j := 3) (v := x2 + 1) rfl rfl (by decide) (lv' := [(2, .int (x2 + 1)), (1, .int ((16 * x1) + (if (f_X8_in ((f_X8_here S (0 : Int32)).toInt64) (48 : Int64) (57 : Int64)) then (f_X8_here S (0 : Int32)) - 48 else (if (f_X8_in ((f_X8_here S (0 : Int32)).toInt64) (97 : Int64) (102 : Int64)) then ((f_X8_here S (0 : Int32)) - 97) + 10 else (-1))))), (4, .int (if (f_X8_in ((f_X8_here S (0 : Int32)).toInt64) (48 : Int64) (57 : Int64)) then (f_X8_here S (0 : Int32)) - 48 else (if (f_X8_in ((f_X8_here S (0 : Int32)).toInt64) (97 : Int64) (102 : Int64)) then ((f_X8_here S (0 : Int32)) - 97) + 10 else (-1)))), (0, .ref (ad 0))]) rfl ?_
          refine at_goto C dX8_readsShape_112 (tgt := 15) (by decide) ?_
          refine at_lv [3, 1, 0] rfl ?_
          exact h
        · replace h := h.1 hc3
          refine at_iload_n C dX8_readsShape_93 rfl (j := 0) rfl ?_
          refine at_if_ne C dX8_readsShape_94 (tgt := 99) (by decide) (fun hc4 => ?_) (fun hc4 => ?_)
          · replace h := h.2 hc4
            refine at_aload_n C dX8_readsShape_99 rfl (j := 2) rfl ?_
            refine at_dup C dX8_readsShape_100 rfl ?_
            refine at_get C (K := RX8) (T := TX8) (N := 18) (ci := 7) (v := .int (S.1 7 0)) iw_X8_readsShape_X8 0 mW_c0 rfl 7 (by decide) lk_X8_readsShape_6 rfl dX8_readsShape_101 ?_
            refine at_iconst C dX8_readsShape_104 (v := 1) rfl ?_
            refine at_iadd C dX8_readsShape_105 ?_
            refine at_put C (K := RX8) (T := TX8) (N := 18) (ci := 7) (ty := .int) iw_X8_readsShape_X8 tyX8 tyX8_ok nmX8 0 mW_c0 rfl 7 (by decide) lk_X8_readsShape_6 rfl rfl rfl rfl (Nat.le_of_ble_eq_true rfl) mW_f0_7 dX8_readsShape_106 ?_
            refine at_iinc C dX8_readsShape_109 (j := 3) (v := x2 + 1) rfl rfl (by decide) (lv' := [(2, .int (x2 + 1)), (1, .int ((16 * x1) + (if (f_X8_in ((f_X8_here S (0 : Int32)).toInt64) (48 : Int64) (57 : Int64)) then (f_X8_here S (0 : Int32)) - 48 else (if (f_X8_in ((f_X8_here S (0 : Int32)).toInt64) (97 : Int64) (102 : Int64)) then ((f_X8_here S (0 : Int32)) - 97) + 10 else (-1))))), (4, .int (if (f_X8_in ((f_X8_here S (0 : Int32)).toInt64) (48 : Int64) (57 : Int64)) then (f_X8_here S (0 : Int32)) - 48 else (if (f_X8_in ((f_X8_here S (0 : Int32)).toInt64) (97 : Int64) (102 : Int64)) then ((f_X8_here S (0 : Int32)) - 97) + 10 else (-1)))), (0, .ref (ad 0))]) rfl ?_
            refine at_goto C dX8_readsShape_112 (tgt := 15) (by decide) ?_
            refine at_lv [3, 1, 0] rfl ?_
            exact h
          · replace h := h.1 hc4
            refine at_iconst C dX8_readsShape_97 (v := 0) rfl ?_
            exact at_zret C dX8_readsShape_98 rfl h
    refine at_ifB_eq C dX8_readsShape_37 (tgt := 47) (by decide) (fun hc2 => ?_) (fun hc2 => ?_)
    · skip
      refine at_iload_n C dX8_readsShape_47 rfl (j := 0) rfl ?_
      refine at_i2l C dX8_readsShape_48 ?_
      refine at_ldc2 C lk_X8_readsShape_4 dX8_readsShape_49 ?_
      refine at_ldc2 C lk_X8_readsShape_5 dX8_readsShape_52 ?_
      refine at_cS0 C 3 (c_X8_in X.l X.D X.E X.a1 X.a2 ((f_X8_here S (0 : Int32)).toInt64) (97 : Int64) (102 : Int64)) gX8_readsShape_X8_in rfl (by decide +kernel) ⟨rfl, rfl⟩ rfl rfl rfl dX8_readsShape_55 ?_
      refine at_ifB_eq C dX8_readsShape_58 (tgt := 71) (by decide) (fun hc3 => ?_) (fun hc3 => ?_)
      · skip
        refine at_iconst C dX8_readsShape_71 (v := (-1)) rfl ?_
        refine at_lv [1, 2, 3] rfl ?_
        first | (simp only [if_neg (show ¬ (f_X8_in ((f_X8_here S (0 : Int32)).toInt64) (48 : Int64) (57 : Int64)) = true by rw [hc2]; decide), if_neg (show ¬ (f_X8_in ((f_X8_here S (0 : Int32)).toInt64) (97 : Int64) (102 : Int64)) = true by rw [hc3]; decide)] at K; exact K) | exact K
      · skip
        refine at_iload_n C dX8_readsShape_61 rfl (j := 0) rfl ?_
        refine at_bipush C dX8_readsShape_62 (v := 97) rfl ?_
        refine at_isub C dX8_readsShape_64 ?_
        refine at_bipush C dX8_readsShape_65 (v := 10) rfl ?_
        refine at_iadd C dX8_readsShape_67 ?_
        refine at_goto C dX8_readsShape_68 (tgt := 72) (by decide) ?_
        refine at_lv [1, 2, 3] rfl ?_
        first | (simp only [if_neg (show ¬ (f_X8_in ((f_X8_here S (0 : Int32)).toInt64) (48 : Int64) (57 : Int64)) = true by rw [hc2]; decide), if_pos hc3] at K; exact K) | exact K
    · skip
      refine at_iload_n C dX8_readsShape_40 rfl (j := 0) rfl ?_
      refine at_bipush C dX8_readsShape_41 (v := 48) rfl ?_
      refine at_isub C dX8_readsShape_43 ?_
      refine at_goto C dX8_readsShape_44 (tgt := 72) (by decide) ?_
      refine at_lv [1, 2, 3] rfl ?_
      first | (simp only [if_pos hc2] at K; exact K) | exact K
/-- the byte at a place of a text that begins at b and has n bytes; -1 behind its end -/
def hxv (g : Nat → Int32) (b n p : Nat) : Int32 := if p < n then g (b + p) else -1
theorem here_eq {S : MS} {t n p : Nat} (ht : t < 2) (hn : n ≤ 71) (hb : 40 * t + n ≤ 111) (e6 : S.1 6 t = nI n) (e7 : S.1 7 0 = nI p) (hp : p < 2 ^ 30) : f_X8_here S (nI t) = hxv (S.1 5) (40 * t) n p ∧ p_X8_here S (nI t) := by
  have c1 : (nI t).toNatClampNeg = t := nI_clamp (by omega)
  have e1 : 40 * nI t + S.1 7 0 = nI (40 * t + p) := by rw [e7, show (40 : Int32) = nI 40 from rfl, pk_mul, nI_add]
  unfold f_X8_here p_X8_here hxv
  rw [c1, e6, e1, e7, nI_clamp (show 40 * t + p < 2 ^ 31 by omega)]
  by_cases q : p < n
  · rw [if_neg (fun z => absurd ((nle (by omega) (by omega)).mp z) (by omega)), if_pos q]
    exact ⟨rfl, vp_in_nI ht (by decide), fun _ => vp_in_nI (by omega) (by decide)⟩
  · rw [if_pos ((nle (by omega) (by omega)).mpr (by omega)), if_neg q]
    exact ⟨rfl, vp_in_nI ht (by decide), fun z => absurd ((nle (by omega) (by omega)).mpr (by omega)) z⟩
/-- the number of a figure; -1 of another byte -/
def figv (b : Int32) : Int32 := (if f_X8_in b.toInt64 48 57 then b - 48 else (if f_X8_in b.toInt64 97 102 then (b - 97) + 10 else (-1)))
/-- so many figures more, from a place on, on top of the rows told so far -/
def rsh (hx : Nat → Int32) : Nat → Nat → Int32 → Bool × Nat × Int32
  | 0, p, w => (true, p, w)
  | k + 1, p, w => if figv (hx p) = -1 then (false, p, w) else if k = 0 ∧ 16 * w + figv (hx p) = 0 then (false, p, w) else rsh hx k (p + 1) (16 * w + figv (hx p))
theorem pg_twice {S : MS} {k i : Nat} {x y : Int32} : pg (pg S k i x) k i y = pg S k i y := by
  unfold pg
  refine Prod.ext ?_ rfl
  funext a b
  show up (up S.1 k i x) k i y a b = up S.1 k i y a b
  unfold up upd
  by_cases h : a = k
  · simp only [if_pos h]
    by_cases h2 : b = i <;> simp [h2]
  · simp [h]
def rshB (S : MS) (i : Nat) (q : Bool × Nat × Int32) : MS := if q.1 then pg (pg (pg S 7 0 (nI q.2.1)) 9 i q.2.2) 8 0 (nI (i + 1)) else pg S 7 0 (nI q.2.1)
theorem rsh_le (hx : Nat → Int32) : ∀ (k p : Nat) (w : Int32), (rsh hx k p w).2.1 ≤ p + k ∧ ((rsh hx k p w).1 = true → (rsh hx k p w).2.1 = p + k)
  | 0, p, w => ⟨Nat.le_refl _, fun _ => rfl⟩
  | k + 1, p, w => by
    rw [rsh]
    split
    · exact ⟨by simp, fun h => by cases h⟩
    · split
      · exact ⟨by simp, fun h => by cases h⟩
      · have := rsh_le hx k (p + 1) (16 * w + figv (hx p))
        exact ⟨by omega, fun h => by rw [this.2 h]; omega⟩
/-- readsShape: with eight shapes already it is refused; else four figures are read -/
theorem c_X8_readsShape (l : Launch) (D : va_G) (E : Nat → ClassId) (a1 a2 : Nat) (ad : Nat → Nat) (S : MS) {n p i : Nat} (hn : n ≤ 40) (e6 : S.1 6 0 = nI n) (e7 : S.1 7 0 = nI p) (hp : p ≤ 60) (e8 : S.1 8 0 = nI i) (hi : i < 8) :
    Fn l D E a1 a2 yX8_readsShape wsX8_readsShape 1 25 [.ref (ad 0)] (mW E ad S) (some (.int (b2i (rsh (hxv (S.1 5) 0 n) 4 p 0).1))) (mW E ad (rshB S i (rsh (hxv (S.1 5) 0 n) 4 p 0))) := by
  refine Fn.of (cc := cX8_readsShape) (maxL := 5) (ret := (some .boolean)) (own := RX8) (by decide) rfl rfl (sameM _ _ _ _) (Nat.le_of_ble_eq_true rfl) (fun X h1 h2 h3 h4 h5 C hE => ?_)
  subst h1 h2 h3 h4 h5
  refine r_X8_readsShape_0 C ad S ⟨fun q => absurd ((nI_eq (b := 8) (by omega) (by decide)).mp (e8 ▸ q)) (by omega), fun _ => ?_⟩
  have key : ∀ (k q : Nat) (w : Int32), k ≤ 4 → q = p + (4 - k) → Ends X (some .boolean) (some (.int (b2i (rsh (hxv (S.1 5) 0 n) k q w).1))) (mW X.E ad (rshB S i (rsh (hxv (S.1 5) 0 n) k q w))) → At X 5 (mW X.E ad (pg S 7 0 (nI q))) 15 [(0, .ref (ad 0)), (1, .int w), (2, .int (nI (4 - k)))] [] := by
    intro k
    induction k with
    | zero =>
      intro q w _ _ hE
      have t8 : (pg S 7 0 (nI q)).1 8 0 = nI i := by rw [pg_o (by decide), e8]
      refine r_X8_readsShape_15 C ad _ w (nI 4) ⟨fun _ => ?_, fun z => nle_no z⟩
      rw [t8, nI_clamp (by omega), nI_1 i]
      exact ⟨vp_in_nI hi (by decide), hE⟩
    | succ k ih =>
      intro q w hk hq hE
      obtain ⟨g1, g2⟩ := here_eq (S := pg S 7 0 (nI q)) (t := 0) (n := n) (p := q) (by decide) (by omega) (by omega) (by rw [pg_o (by decide), e6]) pg_s (by omega)
      have g3 : f_X8_here (pg S 7 0 (nI q)) 0 = hxv (S.1 5) 0 n q := by
        have : (pg S 7 0 (nI q)).1 5 = S.1 5 := pg_r (by decide)
        rw [← this]; exact g1
      refine r_X8_readsShape_15 C ad _ w (nI (4 - (k + 1))) ⟨fun z => nlt_no (b := 4) (by decide) (by omega) z, fun _ => ⟨g2, ?_⟩⟩
      rw [g3]
      show (figv (hxv (S.1 5) 0 n q) = -1 → _) ∧ (¬ figv (hxv (S.1 5) 0 n q) = -1 → _)
      rw [rsh] at hE
      have step : ¬ figv (hxv (S.1 5) 0 n q) = -1 → ¬ (k = 0 ∧ 16 * w + figv (hxv (S.1 5) 0 n q) = 0) → At X 5 (mW X.E ad (pg (pg S 7 0 (nI q)) 7 0 ((pg S 7 0 (nI q)).1 7 0 + 1))) 15 [(0, .ref (ad 0)), (1, .int (16 * w + figv (hxv (S.1 5) 0 n q))), (2, .int (nI (4 - (k + 1)) + 1))] [] := by
        intro z1 z2
        rw [if_neg z1, if_neg z2] at hE
        rw [pg_s, nI_1, pg_twice, nI_1, show 4 - (k + 1) + 1 = 4 - k by omega]
        exact ih (q + 1) _ (by omega) (by omega) hE
      refine ⟨fun z => ?_, fun z => ⟨fun z3 => ⟨fun z4 => ?_, fun z4 => ?_⟩, fun z3 => ?_⟩⟩
      · rw [if_pos z] at hE; exact hE
      · have hk0 : k = 0 := by
          have := (nI_eq (a := 4 - (k + 1)) (b := 3) (by omega) (by decide)).mp z3
          omega
        rw [if_neg z, if_pos ⟨hk0, z4⟩] at hE; exact hE
      · exact step z (fun y => z4 y.2)
      · refine step z (fun y => z3 ?_)
        rw [y.1]; rfl
  have e0 : pg S 7 0 (nI p) = S := by
    unfold pg
    refine Prod.ext ?_ rfl
    funext a b
    show up S.1 7 0 (nI p) a b = S.1 a b
    unfold up upd
    by_cases h : a = 7
    · subst h
      by_cases h2 : b = 0
      · subst h2; simp [e7]
      · simp [h2]
    · simp [h]
  have := key 4 p 0 (Nat.le_refl _) (by omega) hE
  rw [e0] at this
  exact this

/-- readsShape with eight shapes already -/
theorem c_X8_readsShape8 (l : Launch) (D : va_G) (E : Nat → ClassId) (a1 a2 : Nat) (ad : Nat → Nat) (S : MS) (e8 : S.1 8 0 = nI 8) :
    Fn l D E a1 a2 yX8_readsShape wsX8_readsShape 1 25 [.ref (ad 0)] (mW E ad S) (some (.int (b2i false))) (mW E ad S) := by
  refine Fn.of (cc := cX8_readsShape) (maxL := 5) (ret := (some .boolean)) (own := RX8) (by decide) rfl rfl (sameM _ _ _ _) (Nat.le_of_ble_eq_true rfl) (fun X h1 h2 h3 h4 h5 C hE => ?_)
  subst h1 h2 h3 h4 h5
  exact r_X8_readsShape_0 C ad S ⟨fun _ => hE, fun z => absurd e8 z⟩
set_option maxRecDepth 20000 in
theorem ggX8_readsShapes_X8_readsShape : GoodIn wsX8_readsShapes wsX8_readsShape := goodIn_r _ [8, 2, 9, 10, 11, 12, 1, 13, 14, 15, 16, 7, 17, 3, 18, 19, 20, 21, 26, 27, 28, 29, 30, 31, 32, 33, 34, 35, 36, 37, 38, 39, 40, 41, 42, 43] (by decide +kernel) (by decide +kernel)
set_option maxRecDepth 20000 in
theorem gX8_readsShapes_X8_readsShape : GoodIn wsX8_readsShapes (wsV RX8 104 RX8 yX8_readsShape wsX8_readsShape) := goodIn_app (goodIn_of _ (by decide +kernel)) ggX8_readsShapes_X8_readsShape
set_option maxRecDepth 20000 in
theorem ggX8_readsShapes_X8_noShapes : GoodIn wsX8_readsShapes wsX8_noShapes := goodIn_r _ [25, 2, 1, 26, 27, 28, 29, 30, 31, 32, 33, 34, 35, 36, 37, 38, 39, 40, 41, 42, 43] (by decide +kernel) (by decide +kernel)
set_option maxRecDepth 20000 in
theorem gX8_readsShapes_X8_noShapes : GoodIn wsX8_readsShapes (wsV RX8 108 RX8 yX8_noShapes wsX8_noShapes) := goodIn_app (goodIn_of _ (by decide +kernel)) ggX8_readsShapes_X8_noShapes
set_option maxRecDepth 20000 in
theorem ggX8_readsShapes_X8_here : GoodIn wsX8_readsShapes wsX8_here := goodIn_r _ [17, 1, 3, 18, 26, 27, 28, 29, 30, 31, 32, 33, 34, 35, 36, 37, 38, 39, 40, 41, 42, 43] (by decide +kernel) (by decide +kernel)
set_option maxRecDepth 20000 in
theorem gX8_readsShapes_X8_here : GoodIn wsX8_readsShapes (wsV RX8 93 RX8 yX8_here wsX8_here) := goodIn_app (goodIn_of _ (by decide +kernel)) ggX8_readsShapes_X8_here
theorem dX8_readsShapes_0 : decode cX8_readsShapes 0 = .ok (.aload_n 0, 1) := by decide +kernel
theorem dX8_readsShapes_1 : decode cX8_readsShapes 1 = .ok (.iconst 0, 1) := by decide +kernel
theorem dX8_readsShapes_2 : decode cX8_readsShapes 2 = .ok (.putfield 87, 3) := by decide +kernel
theorem dX8_readsShapes_5 : decode cX8_readsShapes 5 = .ok (.aload_n 0, 1) := by decide +kernel
theorem dX8_readsShapes_6 : decode cX8_readsShapes 6 = .ok (.iconst 0, 1) := by decide +kernel
theorem dX8_readsShapes_7 : decode cX8_readsShapes 7 = .ok (.putfield 90, 3) := by decide +kernel
theorem dX8_readsShapes_10 : decode cX8_readsShapes 10 = .ok (.aload_n 0, 1) := by decide +kernel
theorem dX8_readsShapes_11 : decode cX8_readsShapes 11 = .ok (.getfield 25, 3) := by decide +kernel
theorem dX8_readsShapes_14 : decode cX8_readsShapes 14 = .ok (.iconst 0, 1) := by decide +kernel
theorem dX8_readsShapes_15 : decode cX8_readsShapes 15 = .ok (.iaload, 1) := by decide +kernel
theorem dX8_readsShapes_16 : decode cX8_readsShapes 16 = .ok (.ifCond .le 7, 3) := by decide +kernel
theorem dX8_readsShapes_19 : decode cX8_readsShapes 19 = .ok (.iconst 1, 1) := by decide +kernel
theorem dX8_readsShapes_20 : decode cX8_readsShapes 20 = .ok (.goto 4, 3) := by decide +kernel
theorem dX8_readsShapes_23 : decode cX8_readsShapes 23 = .ok (.iconst 0, 1) := by decide +kernel
theorem dX8_readsShapes_24 : decode cX8_readsShapes 24 = .ok (.istore_n 1, 1) := by decide +kernel
theorem dX8_readsShapes_25 : decode cX8_readsShapes 25 = .ok (.iload_n 1, 1) := by decide +kernel
theorem dX8_readsShapes_26 : decode cX8_readsShapes 26 = .ok (.ifCond .eq 74, 3) := by decide +kernel
theorem dX8_readsShapes_29 : decode cX8_readsShapes 29 = .ok (.aload_n 0, 1) := by decide +kernel
theorem dX8_readsShapes_30 : decode cX8_readsShapes 30 = .ok (.invokevirtual 104, 3) := by decide +kernel
theorem dX8_readsShapes_33 : decode cX8_readsShapes 33 = .ok (.ifCond .ne 8, 3) := by decide +kernel
theorem dX8_readsShapes_36 : decode cX8_readsShapes 36 = .ok (.aload_n 0, 1) := by decide +kernel
theorem dX8_readsShapes_37 : decode cX8_readsShapes 37 = .ok (.invokevirtual 108, 3) := by decide +kernel
theorem dX8_readsShapes_40 : decode cX8_readsShapes 40 = .ok (.ireturn, 1) := by decide +kernel
theorem dX8_readsShapes_41 : decode cX8_readsShapes 41 = .ok (.aload_n 0, 1) := by decide +kernel
theorem dX8_readsShapes_42 : decode cX8_readsShapes 42 = .ok (.getfield 87, 3) := by decide +kernel
theorem dX8_readsShapes_45 : decode cX8_readsShapes 45 = .ok (.aload_n 0, 1) := by decide +kernel
theorem dX8_readsShapes_46 : decode cX8_readsShapes 46 = .ok (.getfield 25, 3) := by decide +kernel
theorem dX8_readsShapes_49 : decode cX8_readsShapes 49 = .ok (.iconst 0, 1) := by decide +kernel
theorem dX8_readsShapes_50 : decode cX8_readsShapes 50 = .ok (.iaload, 1) := by decide +kernel
theorem dX8_readsShapes_51 : decode cX8_readsShapes 51 = .ok (.if_icmp .ge 7, 3) := by decide +kernel
theorem dX8_readsShapes_54 : decode cX8_readsShapes 54 = .ok (.iconst 1, 1) := by decide +kernel
theorem dX8_readsShapes_55 : decode cX8_readsShapes 55 = .ok (.goto 4, 3) := by decide +kernel
theorem dX8_readsShapes_58 : decode cX8_readsShapes 58 = .ok (.iconst 0, 1) := by decide +kernel
theorem dX8_readsShapes_59 : decode cX8_readsShapes 59 = .ok (.istore_n 1, 1) := by decide +kernel
theorem dX8_readsShapes_60 : decode cX8_readsShapes 60 = .ok (.iload_n 1, 1) := by decide +kernel
theorem dX8_readsShapes_61 : decode cX8_readsShapes 61 = .ok (.ifCond .eq 18, 3) := by decide +kernel
theorem dX8_readsShapes_64 : decode cX8_readsShapes 64 = .ok (.aload_n 0, 1) := by decide +kernel
theorem dX8_readsShapes_65 : decode cX8_readsShapes 65 = .ok (.iconst 0, 1) := by decide +kernel
theorem dX8_readsShapes_66 : decode cX8_readsShapes 66 = .ok (.invokevirtual 93, 3) := by decide +kernel
theorem dX8_readsShapes_69 : decode cX8_readsShapes 69 = .ok (.bipush 59, 2) := by decide +kernel
theorem dX8_readsShapes_71 : decode cX8_readsShapes 71 = .ok (.if_icmp .eq 8, 3) := by decide +kernel
theorem dX8_readsShapes_74 : decode cX8_readsShapes 74 = .ok (.aload_n 0, 1) := by decide +kernel
theorem dX8_readsShapes_75 : decode cX8_readsShapes 75 = .ok (.invokevirtual 108, 3) := by decide +kernel
theorem dX8_readsShapes_78 : decode cX8_readsShapes 78 = .ok (.ireturn, 1) := by decide +kernel
theorem dX8_readsShapes_79 : decode cX8_readsShapes 79 = .ok (.aload_n 0, 1) := by decide +kernel
theorem dX8_readsShapes_80 : decode cX8_readsShapes 80 = .ok (.dup, 1) := by decide +kernel
theorem dX8_readsShapes_81 : decode cX8_readsShapes 81 = .ok (.getfield 87, 3) := by decide +kernel
theorem dX8_readsShapes_84 : decode cX8_readsShapes 84 = .ok (.iload_n 1, 1) := by decide +kernel
theorem dX8_readsShapes_85 : decode cX8_readsShapes 85 = .ok (.ifCond .eq 7, 3) := by decide +kernel
theorem dX8_readsShapes_88 : decode cX8_readsShapes 88 = .ok (.iconst 1, 1) := by decide +kernel
theorem dX8_readsShapes_89 : decode cX8_readsShapes 89 = .ok (.goto 4, 3) := by decide +kernel
theorem dX8_readsShapes_92 : decode cX8_readsShapes 92 = .ok (.iconst 0, 1) := by decide +kernel
theorem dX8_readsShapes_93 : decode cX8_readsShapes 93 = .ok (.iadd, 1) := by decide +kernel
theorem dX8_readsShapes_94 : decode cX8_readsShapes 94 = .ok (.putfield 87, 3) := by decide +kernel
theorem dX8_readsShapes_97 : decode cX8_readsShapes 97 = .ok (.goto (-72), 3) := by decide +kernel
theorem dX8_readsShapes_100 : decode cX8_readsShapes 100 = .ok (.iconst (-1), 1) := by decide +kernel
theorem dX8_readsShapes_101 : decode cX8_readsShapes 101 = .ok (.ireturn, 1) := by decide +kernel
theorem iw_X8_readsShapes_X8 : ∀ w ∈ u_ws RX8 TX8 18, w ∈ wsX8_readsShapes := by decide +kernel
theorem lk_X8_readsShapes_0 : Cond.fieldLink RX8 87 (TX8 7).1 (TX8 7).2.1 (TX8 7).2.2.1 ∈ wsX8_readsShapes := by decide +kernel
theorem lk_X8_readsShapes_1 : Cond.fieldLink RX8 90 (TX8 8).1 (TX8 8).2.1 (TX8 8).2.2.1 ∈ wsX8_readsShapes := by decide +kernel
theorem lk_X8_readsShapes_2 : Cond.fieldLink RX8 25 (TX8 6).1 (TX8 6).2.1 (TX8 6).2.2.1 ∈ wsX8_readsShapes := by decide +kernel
set_option maxRecDepth 100000 in
theorem r_X8_readsShapes_0 {X : Bn} (C : Cx X cX8_readsShapes 2 RX8 wsX8_readsShapes 2 49) (ad : Nat → Nat) (S : MS) (h : (vp_in 0 2) ∧ (At X 2 (mW X.E ad (pg (pg S 7 0 0) 8 0 0)) 25 [(0, .ref (ad 0)), (1, .int (b2i (if S.1 6 ((0 : Int32).toNatClampNeg) ≤ 0 then false else true)))] [])) : At X 2 (mW X.E ad S) 0 [(0, .ref (ad 0))] [] := by
  refine at_aload_n C dX8_readsShapes_0 rfl (j := 0) rfl ?_
  refine at_iconst C dX8_readsShapes_1 (v := 0) rfl ?_
  refine at_put C (K := RX8) (T := TX8) (N := 18) (ci := 7) (ty := .int) iw_X8_readsShapes_X8 tyX8 tyX8_ok nmX8 0 mW_c0 rfl 7 (by decide) lk_X8_readsShapes_0 rfl rfl rfl rfl (Nat.le_of_ble_eq_true rfl) mW_f0_7 dX8_readsShapes_2 ?_
  refine at_aload_n C dX8_readsShapes_5 rfl (j := 0) rfl ?_
  refine at_iconst C dX8_readsShapes_6 (v := 0) rfl ?_
  refine at_put C (K := RX8) (T := TX8) (N := 18) (ci := 7) (ty := .int) iw_X8_readsShapes_X8 tyX8 tyX8_ok nmX8 0 mW_c0 rfl 8 (by decide) lk_X8_readsShapes_1 rfl rfl rfl rfl (Nat.le_of_ble_eq_true rfl) mW_f0_8 dX8_readsShapes_7 ?_
  refine at_aload_n C dX8_readsShapes_10 rfl (j := 0) rfl ?_
  refine at_get C (K := RX8) (T := TX8) (N := 18) (ci := 7) (v := .ref (ad 6)) iw_X8_readsShapes_X8 0 mW_c0 rfl 6 (by decide) lk_X8_readsShapes_2 rfl dX8_readsShapes_11 ?_
  refine at_iconst C dX8_readsShapes_14 (v := 0) rfl ?_
  refine at_iald C 6 mW_c6 h.1 dX8_readsShapes_15 ?_
  replace h := h.2
  refine at_topI ((pg_o (by decide)).trans (pg_o (by decide))) ?_
  have K : At X 2 (mW X.E ad (pg (pg S 7 0 0) 8 0 0)) 24 [(0, .ref (ad 0))] [.int (b2i (if S.1 6 ((0 : Int32).toNatClampNeg) ≤ 0 then false else true))] := by
    refine at_istore_n C dX8_readsShapes_24 rfl (by decide) (lv' := [(1, .int (b2i (if S.1 6 ((0 : Int32).toNatClampNeg) ≤ 0 then false else true))), (0, .ref (ad 0))]) rfl ?_
    refine at_lv [1, 0] rfl ?_
    exact h
  refine at_if_le C dX8_readsShapes_16 (tgt := 23) (by decide) (fun hc0 => ?_) (fun hc0 => ?_)
  · skip
    refine at_iconst C dX8_readsShapes_23 (v := 0) rfl ?_
    first | (simp only [if_pos hc0] at K; exact K) | exact K
  · skip
    refine at_iconst C dX8_readsShapes_19 (v := 1) rfl ?_
    refine at_goto C dX8_readsShapes_20 (tgt := 24) (by decide) ?_
    first | (simp only [if_neg hc0] at K; exact K) | exact K
set_option maxRecDepth 100000 in
theorem r_X8_readsShapes_25 {X : Bn} (C : Cx X cX8_readsShapes 2 RX8 wsX8_readsShapes 2 49) (ad : Nat → Nat) (S : MS) (x1 : Int32) (h : ((x1 = 0) → (Ends X (some .int) (some (.int (-1))) (mW X.E ad S))) ∧ (¬ x1 = 0 → (∃ (r1 : Bool) (S1 : MS), (Fn X.l X.D X.E X.a1 X.a2 yX8_readsShape wsX8_readsShape 1 25 [.ref (ad 0)] (mW X.E ad S) (some (.int (b2i r1))) (mW X.E ad S1)) ∧ (((r1 = true) → ((vp_in 0 2) ∧ ((((if S1.1 6 ((0 : Int32).toNatClampNeg) ≤ S1.1 7 0 then false else true) = true) → ((p_X8_here S1 (0 : Int32)) ∧ (((f_X8_here S1 (0 : Int32) = 59) → (At X 2 (mW X.E ad (pg S1 7 0 ((S1.1 7 0) + (b2i (if (if S1.1 6 ((0 : Int32).toNatClampNeg) ≤ S1.1 7 0 then false else true) then true else false))))) 25 [(0, .ref (ad 0)), (1, .int (b2i (if S1.1 6 ((0 : Int32).toNatClampNeg) ≤ S1.1 7 0 then false else true)))] [])) ∧ (¬ f_X8_here S1 (0 : Int32) = 59 → (Ends X (some .int) (some (.int (f_X8_noShapes S1 ))) (mW X.E ad (s_X8_noShapes S1 ))))))) ∧ ((if S1.1 6 ((0 : Int32).toNatClampNeg) ≤ S1.1 7 0 then false else true) = false → (At X 2 (mW X.E ad (pg S1 7 0 ((S1.1 7 0) + (b2i (if (if S1.1 6 ((0 : Int32).toNatClampNeg) ≤ S1.1 7 0 then false else true) then true else false))))) 25 [(0, .ref (ad 0)), (1, .int (b2i (if S1.1 6 ((0 : Int32).toNatClampNeg) ≤ S1.1 7 0 then false else true)))] []))))) ∧ (r1 = false → (Ends X (some .int) (some (.int (f_X8_noShapes S1 ))) (mW X.E ad (s_X8_noShapes S1 )))))))) : At X 2 (mW X.E ad S) 25 [(0, .ref (ad 0)), (1, .int x1)] [] := by
  refine at_iload_n C dX8_readsShapes_25 rfl (j := 1) rfl ?_
  refine at_if_eq C dX8_readsShapes_26 (tgt := 100) (by decide) (fun hc0 => ?_) (fun hc0 => ?_)
  · replace h := h.1 hc0
    refine at_iconst C dX8_readsShapes_100 (v := (-1)) rfl ?_
    exact at_iret C dX8_readsShapes_101 h
  · replace h := h.2 hc0
    refine at_aload_n C dX8_readsShapes_29 rfl (j := 0) rfl ?_
    obtain ⟨r1, S1, hF1, h⟩ := h
    refine at_cV1 C 0 hF1 gX8_readsShapes_X8_readsShape rfl (by decide +kernel) ⟨rfl, rfl⟩ rfl rfl rfl 0 mW_c0 rfl dX8_readsShapes_30 ?_
    refine at_ifB_ne C dX8_readsShapes_33 (tgt := 41) (by decide) (fun hc1 => ?_) (fun hc1 => ?_)
    · replace h := h.1 hc1
      refine at_aload_n C dX8_readsShapes_41 rfl (j := 0) rfl ?_
      refine at_get C (K := RX8) (T := TX8) (N := 18) (ci := 7) (v := .int (S1.1 7 0)) iw_X8_readsShapes_X8 0 mW_c0 rfl 7 (by decide) lk_X8_readsShapes_0 rfl dX8_readsShapes_42 ?_
      refine at_aload_n C dX8_readsShapes_45 rfl (j := 0) rfl ?_
      refine at_get C (K := RX8) (T := TX8) (N := 18) (ci := 7) (v := .ref (ad 6)) iw_X8_readsShapes_X8 0 mW_c0 rfl 6 (by decide) lk_X8_readsShapes_2 rfl dX8_readsShapes_46 ?_
      refine at_iconst C dX8_readsShapes_49 (v := 0) rfl ?_
      refine at_iald C 6 mW_c6 h.1 dX8_readsShapes_50 ?_
      replace h := h.2
      have K : At X 2 (mW X.E ad S1) 59 [(0, .ref (ad 0))] [.int (b2i (if S1.1 6 ((0 : Int32).toNatClampNeg) ≤ S1.1 7 0 then false else true))] := by
        refine at_istore_n C dX8_readsShapes_59 rfl (by decide) (lv' := [(1, .int (b2i (if S1.1 6 ((0 : Int32).toNatClampNeg) ≤ S1.1 7 0 then false else true))), (0, .ref (ad 0))]) rfl ?_
        refine at_iload_n C dX8_readsShapes_60 rfl (j := 0) rfl ?_
        refine at_ifB_eq C dX8_readsShapes_61 (tgt := 79) (by decide) (fun hc2 => ?_) (fun hc2 => ?_)
        · replace h := h.2 hc2
          refine at_aload_n C dX8_readsShapes_79 rfl (j := 1) rfl ?_
          refine at_dup C dX8_readsShapes_80 rfl ?_
          refine at_get C (K := RX8) (T := TX8) (N := 18) (ci := 7) (v := .int (S1.1 7 0)) iw_X8_readsShapes_X8 0 mW_c0 rfl 7 (by decide) lk_X8_readsShapes_0 rfl dX8_readsShapes_81 ?_
          refine at_iload_n C dX8_readsShapes_84 rfl (j := 0) rfl ?_
          have K : At X 2 (mW X.E ad S1) 93 [(0, .ref (ad 0)), (1, .int (b2i (if S1.1 6 ((0 : Int32).toNatClampNeg) ≤ S1.1 7 0 then false else true)))] [.int (b2i (if (if S1.1 6 ((0 : Int32).toNatClampNeg) ≤ S1.1 7 0 then false else true) then true else false)), .int (S1.1 7 0), .ref (ad 0)] := by
            refine at_iadd C dX8_readsShapes_93 ?_
            refine at_put C (K := RX8) (T := TX8) (N := 18) (ci := 7) (ty := .int) iw_X8_readsShapes_X8 tyX8 tyX8_ok nmX8 0 mW_c0 rfl 7 (by decide) lk_X8_readsShapes_0 rfl rfl rfl rfl (Nat.le_of_ble_eq_true rfl) mW_f0_7 dX8_readsShapes_94 ?_
            refine at_goto C dX8_readsShapes_97 (tgt := 25) (by decide) ?_
            exact h
          refine at_ifB_eq C dX8_readsShapes_85 (tgt := 92) (by decide) (fun hc3 => ?_) (fun hc3 => ?_)
          · skip
            refine at_iconst C dX8_readsShapes_92 (v := 0) rfl ?_
            refine at_lv [1, 0] rfl ?_
            first | (simp only [if_neg (show ¬ (if S1.1 6 ((0 : Int32).toNatClampNeg) ≤ S1.1 7 0 then false else true) = true by rw [hc3]; decide)] at K; exact K) | exact K
          · skip
            refine at_iconst C dX8_readsShapes_88 (v := 1) rfl ?_
            refine at_goto C dX8_readsShapes_89 (tgt := 93) (by decide) ?_
            refine at_lv [1, 0] rfl ?_
            first | (simp only [if_pos hc3] at K; exact K) | exact K
        · replace h := h.1 hc2
          refine at_aload_n C dX8_readsShapes_64 rfl (j := 1) rfl ?_
          refine at_iconst C dX8_readsShapes_65 (v := 0) rfl ?_
          refine at_cV1 C 1 (c_X8_here X.l X.D X.E X.a1 X.a2 ad S1 (0 : Int32) h.1) gX8_readsShapes_X8_here rfl (by decide +kernel) ⟨rfl, rfl⟩ rfl rfl rfl 0 mW_c0 rfl dX8_readsShapes_66 ?_
          replace h := h.2
          refine at_bipush C dX8_readsShapes_69 (v := 59) rfl ?_
          refine at_icmp_eq C dX8_readsShapes_71 (tgt := 79) (by decide) (fun hc3 => ?_) (fun hc3 => ?_)
          · replace h := h.1 hc3
            refine at_aload_n C dX8_readsShapes_79 rfl (j := 1) rfl ?_
            refine at_dup C dX8_readsShapes_80 rfl ?_
            refine at_get C (K := RX8) (T := TX8) (N := 18) (ci := 7) (v := .int (S1.1 7 0)) iw_X8_readsShapes_X8 0 mW_c0 rfl 7 (by decide) lk_X8_readsShapes_0 rfl dX8_readsShapes_81 ?_
            refine at_iload_n C dX8_readsShapes_84 rfl (j := 0) rfl ?_
            have K : At X 2 (mW X.E ad S1) 93 [(0, .ref (ad 0)), (1, .int (b2i (if S1.1 6 ((0 : Int32).toNatClampNeg) ≤ S1.1 7 0 then false else true)))] [.int (b2i (if (if S1.1 6 ((0 : Int32).toNatClampNeg) ≤ S1.1 7 0 then false else true) then true else false)), .int (S1.1 7 0), .ref (ad 0)] := by
              refine at_iadd C dX8_readsShapes_93 ?_
              refine at_put C (K := RX8) (T := TX8) (N := 18) (ci := 7) (ty := .int) iw_X8_readsShapes_X8 tyX8 tyX8_ok nmX8 0 mW_c0 rfl 7 (by decide) lk_X8_readsShapes_0 rfl rfl rfl rfl (Nat.le_of_ble_eq_true rfl) mW_f0_7 dX8_readsShapes_94 ?_
              refine at_goto C dX8_readsShapes_97 (tgt := 25) (by decide) ?_
              exact h
            refine at_ifB_eq C dX8_readsShapes_85 (tgt := 92) (by decide) (fun hc4 => ?_) (fun hc4 => ?_)
            · skip
              refine at_iconst C dX8_readsShapes_92 (v := 0) rfl ?_
              refine at_lv [1, 0] rfl ?_
              first | (simp only [if_neg (show ¬ (if S1.1 6 ((0 : Int32).toNatClampNeg) ≤ S1.1 7 0 then false else true) = true by rw [hc4]; decide)] at K; exact K) | exact K
            · skip
              refine at_iconst C dX8_readsShapes_88 (v := 1) rfl ?_
              refine at_goto C dX8_readsShapes_89 (tgt := 93) (by decide) ?_
              refine at_lv [1, 0] rfl ?_
              first | (simp only [if_pos hc4] at K; exact K) | exact K
          · replace h := h.2 hc3
            refine at_aload_n C dX8_readsShapes_74 rfl (j := 1) rfl ?_
            refine at_cV1 C 0 (c_X8_noShapes X.l X.D X.E X.a1 X.a2 ad S1) gX8_readsShapes_X8_noShapes rfl (by decide +kernel) ⟨rfl, rfl⟩ rfl rfl rfl 0 mW_c0 rfl dX8_readsShapes_75 ?_
            exact at_iret C dX8_readsShapes_78 h
      refine at_icmp_ge C dX8_readsShapes_51 (tgt := 58) (by decide) (fun hc2 => ?_) (fun hc2 => ?_)
      · skip
        refine at_iconst C dX8_readsShapes_58 (v := 0) rfl ?_
        refine at_lv [0] rfl ?_
        first | (simp only [if_pos hc2] at K; exact K) | exact K
      · skip
        refine at_iconst C dX8_readsShapes_54 (v := 1) rfl ?_
        refine at_goto C dX8_readsShapes_55 (tgt := 59) (by decide) ?_
        refine at_lv [0] rfl ?_
        first | (simp only [if_neg hc2] at K; exact K) | exact K
    · replace h := h.2 hc1
      refine at_aload_n C dX8_readsShapes_36 rfl (j := 0) rfl ?_
      refine at_cV1 C 0 (c_X8_noShapes X.l X.D X.E X.a1 X.a2 ad S1) gX8_readsShapes_X8_noShapes rfl (by decide +kernel) ⟨rfl, rfl⟩ rfl rfl rfl 0 mW_c0 rfl dX8_readsShapes_37 ?_
      exact at_iret C dX8_readsShapes_40 h
/-- from the i-th shape on, at most so many: the fault (-1: none), and how many shapes there are -/
def fs0 (hx : Nat → Int32) (n : Nat) : Nat → Nat → Int32 × Nat
  | 0, i => (nI (5 * i), 0)
  | f + 1, i => if (rsh hx 4 (5 * i) 0).1 then (if n ≤ 5 * i + 4 then (-1, i + 1) else (if hx (5 * i + 4) = 59 then fs0 hx n f (i + 1) else (nI (5 * i + 4), 0))) else (nI (rsh hx 4 (5 * i) 0).2.1, 0)
def fault0 (hx : Nat → Int32) (n : Nat) : Int32 := if n = 0 then -1 else (fs0 hx n 8 0).1
def count0 (hx : Nat → Int32) (n : Nat) : Nat := if n = 0 then 0 else (fs0 hx n 8 0).2
/-- the i-th shape as told -/
def told0 (hx : Nat → Int32) (i : Nat) : Int32 := (rsh hx 4 (5 * i) 0).2.2
def rdShapes (hx : Nat → Int32) (n : Nat) (S S' : MS) : Prop := S'.1 8 0 = nI (count0 hx n) ∧ (∀ j, j < count0 hx n → S'.1 9 j = told0 hx j ∧ (rsh hx 4 (5 * j) 0).1 = true) ∧ (∀ k, k ≠ 7 → k ≠ 8 → k ≠ 9 → S'.1 k = S.1 k) ∧ S'.2 = S.2
theorem noShapes_eq (S : MS) : f_X8_noShapes S = S.1 7 0 ∧ s_X8_noShapes S = pg S 8 0 0 := ⟨rfl, rfl⟩
theorem c_X8_readsShapes (ad : Nat → Nat) (S : MS) {n : Nat} (hn : n ≤ 40) (e6 : S.1 6 0 = nI n) :
    ∃ S', rdShapes (hxv (S.1 5) 0 n) n S S' ∧ ∀ (l : Launch) (D : va_G) (E : Nat → ClassId) (a1 a2 : Nat), Fn l D E a1 a2 yX8_readsShapes wsX8_readsShapes 2 49 [.ref (ad 0)] (mW E ad S) (some (.int (fault0 (hxv (S.1 5) 0 n) n))) (mW E ad S') := by
  generalize hhx : hxv (S.1 5) 0 n = hx
  -- the loop, from the i-th shape on
  have loop : ∀ (f i : Nat) (T : MS), f + i = 8 → 5 * i < n + 1 → T.1 7 0 = nI (5 * i) → T.1 8 0 = nI i → (∀ j, j < i → T.1 9 j = told0 hx j ∧ (rsh hx 4 (5 * j) 0).1 = true) → (∀ k, k ≠ 7 → k ≠ 8 → k ≠ 9 → T.1 k = S.1 k) → T.2 = S.2 →
      ∃ S', (S'.1 8 0 = nI (fs0 hx n f i).2 ∧ (∀ j, j < (fs0 hx n f i).2 → S'.1 9 j = told0 hx j ∧ (rsh hx 4 (5 * j) 0).1 = true) ∧ (∀ k, k ≠ 7 → k ≠ 8 → k ≠ 9 → S'.1 k = S.1 k) ∧ S'.2 = S.2) ∧
        ∀ X : Bn, Cx X cX8_readsShapes 2 RX8 wsX8_readsShapes 2 49 → Ends X (some .int) (some (.int (fs0 hx n f i).1)) (mW X.E ad S') → At X 2 (mW X.E ad T) 25 [(0, .ref (ad 0)), (1, .int (b2i true))] [] := by
    intro f
    induction f with
    | zero =>
      intro i T hf h5 t7 t8 tj to t2
      -- eight shapes, and one more begins: refused, at its place
      refine ⟨pg T 8 0 0, ⟨by rw [pg_s]; rfl, fun j hj => absurd hj (Nat.not_lt_zero j), fun k k7 k8 k9 => by rw [pg_r k8]; exact to k k7 k8 k9, by rw [pg_2]; exact t2⟩, fun X C hE => ?_⟩
      refine r_X8_readsShapes_25 C ad T _ ⟨fun q => (by cases q), fun _ => ?_⟩
      refine ⟨false, T, ?_, fun q => (by cases q), fun _ => ?_⟩
      · have : i = 8 := by omega
        subst this
        exact c_X8_readsShape8 X.l X.D X.E X.a1 X.a2 ad T t8
      · rw [(noShapes_eq T).1, (noShapes_eq T).2, t7]; exact hE
    | succ f ih =>
      intro i T hf h5 t7 t8 tj to t2
      have t6 : T.1 6 0 = nI n := by rw [to 6 (by decide) (by decide) (by decide)]; exact e6
      have t5 : T.1 5 = S.1 5 := to 5 (by decide) (by decide) (by decide)
      have hF := fun (X : Bn) => c_X8_readsShape X.l X.D X.E X.a1 X.a2 ad T (n := n) (p := 5 * i) (i := i) hn t6 t7 (by omega) t8 (by omega)
      rw [t5, hhx] at hF
      obtain ⟨l1, l2⟩ := rsh_le hx 4 (5 * i) 0
      by_cases hok : (rsh hx 4 (5 * i) 0).1 = true
      · have hq : (rsh hx 4 (5 * i) 0).2.1 = 5 * i + 4 := l2 hok
        obtain ⟨S1, hS1⟩ : ∃ S1, rshB T i (rsh hx 4 (5 * i) 0) = S1 := ⟨_, rfl⟩
        have hS1' : S1 = pg (pg (pg T 7 0 (nI (5 * i + 4))) 9 i (told0 hx i)) 8 0 (nI (i + 1)) := by rw [← hS1, rshB, if_pos hok, hq]; rfl
        have s7 : S1.1 7 0 = nI (5 * i + 4) := by rw [hS1', pg_o (by decide), pg_o (by decide), pg_s]
        have s8 : S1.1 8 0 = nI (i + 1) := by rw [hS1', pg_s]
        have sj : ∀ j, j < i + 1 → S1.1 9 j = told0 hx j ∧ (rsh hx 4 (5 * j) 0).1 = true := by
          intro j hj
          rw [hS1', pg_o (by decide)]
          by_cases e : j = i
          · subst e; exact ⟨pg_s, hok⟩
          · rw [pg_n e, pg_o (by decide)]; exact tj j (by omega)
        have so : ∀ k, k ≠ 7 → k ≠ 8 → k ≠ 9 → S1.1 k = S.1 k := by
          intro k k7 k8 k9
          rw [hS1', pg_r k8, pg_r k9, pg_r k7]; exact to k k7 k8 k9
        have s2 : S1.2 = S.2 := by rw [hS1']; exact t2
        have s6 : S1.1 6 0 = nI n := by rw [so 6 (by decide) (by decide) (by decide)]; exact e6
        have s5 : S1.1 5 = S.1 5 := so 5 (by decide) (by decide) (by decide)
        obtain ⟨g1, g2⟩ := here_eq (S := S1) (t := 0) (n := n) (p := 5 * i + 4) (by decide) (by omega) (by omega) s6 s7 (by omega)
        have g3 : f_X8_here S1 0 = hx (5 * i + 4) := by rw [← hhx, ← s5]; exact g1
        have hv : vp_in 0 2 := vp_in_nI (n := 0) (by decide) (by decide)
        have c0 : (0 : Int32).toNatClampNeg = 0 := rfl
        by_cases hend : n ≤ 5 * i + 4
        · -- the text is at its end
          have hle : S1.1 6 (0 : Int32).toNatClampNeg ≤ S1.1 7 0 := by rw [c0, s6, s7]; exact (nle (by omega) (by omega)).mpr hend
          have ef : fs0 hx n (f + 1) i = (-1, i + 1) := by rw [fs0, if_pos hok, if_pos hend]
          refine ⟨pg S1 7 0 (S1.1 7 0 + b2i false), ⟨by rw [ef, pg_o (by decide)]; exact s8, fun j hj => by rw [ef] at hj; rw [pg_o (by decide)]; exact sj j hj, fun k k7 k8 k9 => by rw [pg_r k7]; exact so k k7 k8 k9, s2⟩, fun X C hE => ?_⟩
          refine r_X8_readsShapes_25 C ad T _ ⟨fun q => (by cases q), fun _ => ⟨true, S1, by have := hF X; rw [hok, hS1] at this; exact this, fun _ => ⟨hv, fun q => ?_, fun q => ?_⟩, fun q => (by cases q)⟩⟩
          · rw [if_pos hle] at q; cases q
          · simp only [if_pos hle]
            refine r_X8_readsShapes_25 C ad _ _ ⟨fun _ => ?_, fun z => absurd rfl z⟩
            rw [ef] at hE
            exact hE
        · have hle : ¬ S1.1 6 (0 : Int32).toNatClampNeg ≤ S1.1 7 0 := by rw [c0, s6, s7]; exact fun z => absurd ((nle (by omega) (by omega)).mp z) hend
          by_cases hsep : hx (5 * i + 4) = 59
          · -- one more shape
            have ef : fs0 hx n (f + 1) i = fs0 hx n f (i + 1) := by rw [fs0, if_pos hok, if_neg hend, if_pos hsep]
            obtain ⟨S', hS', hgo⟩ := ih (i + 1) (pg S1 7 0 (S1.1 7 0 + b2i true)) (by omega) (by omega) (by rw [pg_s, s7]; show nI (5 * i + 4) + 1 = _; rw [nI_1]; exact congrArg nI (by omega)) (by rw [pg_o (by decide)]; exact s8) (fun j hj => by rw [pg_o (by decide)]; exact sj j hj) (fun k k7 k8 k9 => by rw [pg_r k7]; exact so k k7 k8 k9) s2
            refine ⟨S', by rw [ef]; exact hS', fun X C hE => ?_⟩
            rw [ef] at hE
            refine r_X8_readsShapes_25 C ad T _ ⟨fun q => (by cases q), fun _ => ⟨true, S1, by have := hF X; rw [hok, hS1] at this; exact this, fun _ => ⟨hv, fun q => ⟨g2, fun _ => ?_, fun z => absurd (by rw [g3]; exact hsep) z⟩, fun q => ?_⟩, fun q => (by cases q)⟩⟩
            · simp only [if_neg hle]
              exact hgo X C hE
            · rw [if_neg hle] at q; cases q
          · -- a byte that is no separator
            have ef : fs0 hx n (f + 1) i = (nI (5 * i + 4), 0) := by rw [fs0, if_pos hok, if_neg hend, if_neg hsep]
            refine ⟨pg S1 8 0 0, ⟨by rw [ef, pg_s]; rfl, fun j hj => by rw [ef] at hj; exact absurd hj (Nat.not_lt_zero j), fun k k7 k8 k9 => by rw [pg_r k8]; exact so k k7 k8 k9, s2⟩, fun X C hE => ?_⟩
            rw [ef] at hE
            refine r_X8_readsShapes_25 C ad T _ ⟨fun q => (by cases q), fun _ => ⟨true, S1, by have := hF X; rw [hok, hS1] at this; exact this, fun _ => ⟨hv, fun q => ⟨g2, fun z => absurd (by rw [← g3]; exact z) hsep, fun _ => ?_⟩, fun q => ?_⟩, fun q => (by cases q)⟩⟩
            · rw [(noShapes_eq S1).1, (noShapes_eq S1).2, s7]; exact hE
            · rw [if_neg hle] at q; cases q
      · -- no figure there, or a shape without a cell
        have hok' : (rsh hx 4 (5 * i) 0).1 = false := by simpa using hok
        have ef : fs0 hx n (f + 1) i = (nI (rsh hx 4 (5 * i) 0).2.1, 0) := by rw [fs0, if_neg hok]
        obtain ⟨S1, hS1⟩ : ∃ S1, rshB T i (rsh hx 4 (5 * i) 0) = S1 := ⟨_, rfl⟩
        have hS1' : S1 = pg T 7 0 (nI (rsh hx 4 (5 * i) 0).2.1) := by rw [← hS1, rshB, if_neg hok]
        refine ⟨pg S1 8 0 0, ⟨by rw [ef, pg_s]; rfl, fun j hj => by rw [ef] at hj; exact absurd hj (Nat.not_lt_zero j), fun k k7 k8 k9 => by rw [pg_r k8, hS1', pg_r k7]; exact to k k7 k8 k9, by rw [hS1']; exact t2⟩, fun X C hE => ?_⟩
        rw [ef] at hE
        refine r_X8_readsShapes_25 C ad T _ ⟨fun q => (by cases q), fun _ => ⟨false, S1, by have := hF X; rw [hok', hS1] at this; exact this, fun q => (by cases q), fun _ => ?_⟩⟩
        rw [(noShapes_eq S1).1, (noShapes_eq S1).2, hS1', pg_s, ← hS1']; exact hE
  have hv : vp_in 0 2 := vp_in_nI (n := 0) (by decide) (by decide)
  by_cases h0 : n = 0
  · refine ⟨pg (pg S 7 0 0) 8 0 0, ⟨?_, ?_, ?_, rfl⟩, ?_⟩
    · rw [pg_s, count0, if_pos h0]; rfl
    · intro j hj; rw [count0, if_pos h0] at hj; exact absurd hj (Nat.not_lt_zero j)
    · intro k k7 k8 k9; rw [pg_r k8, pg_r k7]
    · intro l D E a1 a2
      refine Fn.of (cc := cX8_readsShapes) (maxL := 2) (ret := (some .int)) (own := RX8) (by decide) rfl rfl (sameM _ _ _ _) (Nat.le_of_ble_eq_true rfl) (fun X h1 h2 h3 h4 h5 C hE => ?_)
      subst h1 h2 h3 h4 h5
      rw [fault0, if_pos h0] at hE
      refine r_X8_readsShapes_0 C ad S ⟨hv, ?_⟩
      have hle : S.1 6 (0 : Int32).toNatClampNeg ≤ 0 := by show S.1 6 0 ≤ 0; rw [e6, h0]; exact Int32.le_refl _
      simp only [if_pos hle]
      exact r_X8_readsShapes_25 C ad _ _ ⟨fun _ => hE, fun z => absurd rfl z⟩
  · obtain ⟨S', hS', hgo⟩ := loop 8 0 (pg (pg S 7 0 0) 8 0 0) rfl (by omega) (by rw [pg_o (by decide), pg_s]; rfl) (by rw [pg_s]; rfl) (fun j hj => absurd hj (Nat.not_lt_zero j)) (fun k k7 k8 k9 => by rw [pg_r k8, pg_r k7]) rfl
    refine ⟨S', ⟨?_, ?_, hS'.2.2.1, hS'.2.2.2⟩, ?_⟩
    · rw [count0, if_neg h0]; exact hS'.1
    · rw [count0, if_neg h0]; exact hS'.2.1
    · intro l D E a1 a2
      refine Fn.of (cc := cX8_readsShapes) (maxL := 2) (ret := (some .int)) (own := RX8) (by decide) rfl rfl (sameM _ _ _ _) (Nat.le_of_ble_eq_true rfl) (fun X h1 h2 h3 h4 h5 C hE => ?_)
      subst h1 h2 h3 h4 h5
      rw [fault0, if_neg h0] at hE
      refine r_X8_readsShapes_0 C ad S ⟨hv, ?_⟩
      have hle : ¬ S.1 6 (0 : Int32).toNatClampNeg ≤ 0 := by
        show ¬ S.1 6 0 ≤ nI 0
        rw [e6]; exact fun z => absurd ((nle (by omega) (by decide)).mp z) (by omega)
      simp only [if_neg hle]
      exact hgo X C hE
