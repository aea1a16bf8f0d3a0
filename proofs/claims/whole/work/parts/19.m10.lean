set_option maxRecDepth 20000 in
theorem ggX8_worstFrom_X8_turned : GoodIn wsX8_worstFrom wsX8_turned := goodIn_r _ [7, 8, 9, 6, 10, 11, 12, 13] (by decide +kernel) (by decide +kernel)
set_option maxRecDepth 20000 in
theorem gX8_worstFrom_X8_turned : GoodIn wsX8_worstFrom (va_wsS RX8 132 yX8_turned wsX8_turned) := goodIn_app (goodIn_of _ (by decide +kernel)) ggX8_worstFrom_X8_turned
set_option maxRecDepth 20000 in
theorem ggX8_worstFrom_X8_sightOf : GoodIn wsX8_worstFrom wsX8_sightOf := goodIn_r _ [16, 11, 12, 6, 13, 17, 18, 19] (by decide +kernel) (by decide +kernel)
set_option maxRecDepth 20000 in
theorem gX8_worstFrom_X8_sightOf : GoodIn wsX8_worstFrom (va_wsS RX8 156 yX8_sightOf wsX8_sightOf) := goodIn_app (goodIn_of _ (by decide +kernel)) ggX8_worstFrom_X8_sightOf
set_option maxRecDepth 20000 in
theorem ggX8_worstFrom_X8_isFit : GoodIn wsX8_worstFrom wsX8_isFit := goodIn_r _ [23, 24, 3, 25, 4, 5, 6, 7, 8, 9, 10, 11, 12, 13, 14, 15, 16, 17, 18, 19, 29, 30, 31, 32, 33, 34, 35, 36, 37, 38, 39, 40, 41, 42, 43, 44, 45, 46] (by decide +kernel) (by decide +kernel)
set_option maxRecDepth 20000 in
theorem gX8_worstFrom_X8_isFit : GoodIn wsX8_worstFrom (wsV RX8 229 RX8 yX8_isFit wsX8_isFit) := goodIn_app (goodIn_of _ (by decide +kernel)) ggX8_worstFrom_X8_isFit
set_option maxRecDepth 20000 in
theorem ggX8_worstFrom_X8_ones : GoodIn wsX8_worstFrom wsX8_ones := goodIn_r _ [28] (by decide +kernel) (by decide +kernel)
set_option maxRecDepth 20000 in
theorem gX8_worstFrom_X8_ones : GoodIn wsX8_worstFrom (va_wsS RX8 169 yX8_ones wsX8_ones) := goodIn_app (goodIn_of _ (by decide +kernel)) ggX8_worstFrom_X8_ones
theorem dX8_worstFrom_0 : decode cX8_worstFrom 0 = .ok (.iconst 0, 1) := by decide +kernel
theorem dX8_worstFrom_1 : decode cX8_worstFrom 1 = .ok (.istore_n 2, 1) := by decide +kernel
theorem dX8_worstFrom_2 : decode cX8_worstFrom 2 = .ok (.iload_n 2, 1) := by decide +kernel
theorem dX8_worstFrom_3 : decode cX8_worstFrom 3 = .ok (.sipush 625, 3) := by decide +kernel
theorem dX8_worstFrom_6 : decode cX8_worstFrom 6 = .ok (.if_icmp .ge 16, 3) := by decide +kernel
theorem dX8_worstFrom_9 : decode cX8_worstFrom 9 = .ok (.aload_n 0, 1) := by decide +kernel
theorem dX8_worstFrom_10 : decode cX8_worstFrom 10 = .ok (.getfield 44, 3) := by decide +kernel
theorem dX8_worstFrom_13 : decode cX8_worstFrom 13 = .ok (.iload_n 2, 1) := by decide +kernel
theorem dX8_worstFrom_14 : decode cX8_worstFrom 14 = .ok (.iconst 0, 1) := by decide +kernel
theorem dX8_worstFrom_15 : decode cX8_worstFrom 15 = .ok (.iastore, 1) := by decide +kernel
theorem dX8_worstFrom_16 : decode cX8_worstFrom 16 = .ok (.iinc 2 1, 3) := by decide +kernel
theorem dX8_worstFrom_19 : decode cX8_worstFrom 19 = .ok (.goto (-17), 3) := by decide +kernel
theorem dX8_worstFrom_22 : decode cX8_worstFrom 22 = .ok (.iconst 0, 1) := by decide +kernel
theorem dX8_worstFrom_23 : decode cX8_worstFrom 23 = .ok (.istore_n 2, 1) := by decide +kernel
theorem dX8_worstFrom_24 : decode cX8_worstFrom 24 = .ok (.iconst 0, 1) := by decide +kernel
theorem dX8_worstFrom_25 : decode cX8_worstFrom 25 = .ok (.istore_n 3, 1) := by decide +kernel
theorem dX8_worstFrom_26 : decode cX8_worstFrom 26 = .ok (.iload_n 3, 1) := by decide +kernel
theorem dX8_worstFrom_27 : decode cX8_worstFrom 27 = .ok (.aload_n 0, 1) := by decide +kernel
theorem dX8_worstFrom_28 : decode cX8_worstFrom 28 = .ok (.getfield 90, 3) := by decide +kernel
theorem dX8_worstFrom_31 : decode cX8_worstFrom 31 = .ok (.if_icmp .ge 97, 3) := by decide +kernel
theorem dX8_worstFrom_34 : decode cX8_worstFrom 34 = .ok (.iconst 0, 1) := by decide +kernel
theorem dX8_worstFrom_35 : decode cX8_worstFrom 35 = .ok (.istore 4, 2) := by decide +kernel
theorem dX8_worstFrom_37 : decode cX8_worstFrom 37 = .ok (.iload 4, 2) := by decide +kernel
theorem dX8_worstFrom_39 : decode cX8_worstFrom 39 = .ok (.iconst 4, 1) := by decide +kernel
theorem dX8_worstFrom_40 : decode cX8_worstFrom 40 = .ok (.if_icmp .ge 82, 3) := by decide +kernel
theorem dX8_worstFrom_43 : decode cX8_worstFrom 43 = .ok (.aload_n 0, 1) := by decide +kernel
theorem dX8_worstFrom_44 : decode cX8_worstFrom 44 = .ok (.getfield 28, 3) := by decide +kernel
theorem dX8_worstFrom_47 : decode cX8_worstFrom 47 = .ok (.iload_n 3, 1) := by decide +kernel
theorem dX8_worstFrom_48 : decode cX8_worstFrom 48 = .ok (.iaload, 1) := by decide +kernel
theorem dX8_worstFrom_49 : decode cX8_worstFrom 49 = .ok (.iload 4, 2) := by decide +kernel
theorem dX8_worstFrom_51 : decode cX8_worstFrom 51 = .ok (.invokestatic 132, 3) := by decide +kernel
theorem dX8_worstFrom_54 : decode cX8_worstFrom 54 = .ok (.iload_n 1, 1) := by decide +kernel
theorem dX8_worstFrom_55 : decode cX8_worstFrom 55 = .ok (.invokestatic 156, 3) := by decide +kernel
theorem dX8_worstFrom_58 : decode cX8_worstFrom 58 = .ok (.istore 5, 2) := by decide +kernel
theorem dX8_worstFrom_60 : decode cX8_worstFrom 60 = .ok (.aload_n 0, 1) := by decide +kernel
theorem dX8_worstFrom_61 : decode cX8_worstFrom 61 = .ok (.getfield 44, 3) := by decide +kernel
theorem dX8_worstFrom_64 : decode cX8_worstFrom 64 = .ok (.iload 5, 2) := by decide +kernel
theorem dX8_worstFrom_66 : decode cX8_worstFrom 66 = .ok (.dup2, 1) := by decide +kernel
theorem dX8_worstFrom_67 : decode cX8_worstFrom 67 = .ok (.iaload, 1) := by decide +kernel
theorem dX8_worstFrom_68 : decode cX8_worstFrom 68 = .ok (.aload_n 0, 1) := by decide +kernel
theorem dX8_worstFrom_69 : decode cX8_worstFrom 69 = .ok (.iload_n 3, 1) := by decide +kernel
theorem dX8_worstFrom_70 : decode cX8_worstFrom 70 = .ok (.iload 4, 2) := by decide +kernel
theorem dX8_worstFrom_72 : decode cX8_worstFrom 72 = .ok (.invokevirtual 229, 3) := by decide +kernel
theorem dX8_worstFrom_75 : decode cX8_worstFrom 75 = .ok (.ifCond .eq 9, 3) := by decide +kernel
theorem dX8_worstFrom_78 : decode cX8_worstFrom 78 = .ok (.iconst 1, 1) := by decide +kernel
theorem dX8_worstFrom_79 : decode cX8_worstFrom 79 = .ok (.iload_n 3, 1) := by decide +kernel
theorem dX8_worstFrom_80 : decode cX8_worstFrom 80 = .ok (.ishl, 1) := by decide +kernel
theorem dX8_worstFrom_81 : decode cX8_worstFrom 81 = .ok (.goto 4, 3) := by decide +kernel
theorem dX8_worstFrom_84 : decode cX8_worstFrom 84 = .ok (.iconst 0, 1) := by decide +kernel
theorem dX8_worstFrom_85 : decode cX8_worstFrom 85 = .ok (.ior, 1) := by decide +kernel
theorem dX8_worstFrom_86 : decode cX8_worstFrom 86 = .ok (.iastore, 1) := by decide +kernel
theorem dX8_worstFrom_87 : decode cX8_worstFrom 87 = .ok (.aload_n 0, 1) := by decide +kernel
theorem dX8_worstFrom_88 : decode cX8_worstFrom 88 = .ok (.getfield 44, 3) := by decide +kernel
theorem dX8_worstFrom_91 : decode cX8_worstFrom 91 = .ok (.iload 5, 2) := by decide +kernel
theorem dX8_worstFrom_93 : decode cX8_worstFrom 93 = .ok (.iaload, 1) := by decide +kernel
theorem dX8_worstFrom_94 : decode cX8_worstFrom 94 = .ok (.invokestatic 169, 3) := by decide +kernel
theorem dX8_worstFrom_97 : decode cX8_worstFrom 97 = .ok (.iload_n 2, 1) := by decide +kernel
theorem dX8_worstFrom_98 : decode cX8_worstFrom 98 = .ok (.if_icmp .le 16, 3) := by decide +kernel
theorem dX8_worstFrom_101 : decode cX8_worstFrom 101 = .ok (.aload_n 0, 1) := by decide +kernel
theorem dX8_worstFrom_102 : decode cX8_worstFrom 102 = .ok (.getfield 44, 3) := by decide +kernel
theorem dX8_worstFrom_105 : decode cX8_worstFrom 105 = .ok (.iload 5, 2) := by decide +kernel
theorem dX8_worstFrom_107 : decode cX8_worstFrom 107 = .ok (.iaload, 1) := by decide +kernel
theorem dX8_worstFrom_108 : decode cX8_worstFrom 108 = .ok (.invokestatic 169, 3) := by decide +kernel
theorem dX8_worstFrom_111 : decode cX8_worstFrom 111 = .ok (.goto 4, 3) := by decide +kernel
theorem dX8_worstFrom_114 : decode cX8_worstFrom 114 = .ok (.iload_n 2, 1) := by decide +kernel
theorem dX8_worstFrom_115 : decode cX8_worstFrom 115 = .ok (.istore_n 2, 1) := by decide +kernel
theorem dX8_worstFrom_116 : decode cX8_worstFrom 116 = .ok (.iinc 4 1, 3) := by decide +kernel
theorem dX8_worstFrom_119 : decode cX8_worstFrom 119 = .ok (.goto (-82), 3) := by decide +kernel
theorem dX8_worstFrom_122 : decode cX8_worstFrom 122 = .ok (.iinc 3 1, 3) := by decide +kernel
theorem dX8_worstFrom_125 : decode cX8_worstFrom 125 = .ok (.goto (-99), 3) := by decide +kernel
theorem dX8_worstFrom_128 : decode cX8_worstFrom 128 = .ok (.iload_n 2, 1) := by decide +kernel
theorem dX8_worstFrom_129 : decode cX8_worstFrom 129 = .ok (.ireturn, 1) := by decide +kernel
theorem iw_X8_worstFrom_X8 : ∀ w ∈ u_ws RX8 TX8 18, w ∈ wsX8_worstFrom := by decide +kernel
theorem lk_X8_worstFrom_0 : Cond.fieldLink RX8 44 (TX8 16).1 (TX8 16).2.1 (TX8 16).2.2.1 ∈ wsX8_worstFrom := by decide +kernel
theorem lk_X8_worstFrom_1 : Cond.fieldLink RX8 90 (TX8 8).1 (TX8 8).2.1 (TX8 8).2.2.1 ∈ wsX8_worstFrom := by decide +kernel
theorem lk_X8_worstFrom_2 : Cond.fieldLink RX8 28 (TX8 9).1 (TX8 9).2.1 (TX8 9).2.2.1 ∈ wsX8_worstFrom := by decide +kernel
set_option maxRecDepth 100000 in
theorem r_X8_worstFrom_0 {X : Bn} (C : Cx X cX8_worstFrom 6 RX8 wsX8_worstFrom 4 91) (ad : Nat → Nat) (S : MS) (x1 : Int32) (h : At X 6 (mW X.E ad S) 2 [(0, .ref (ad 0)), (1, .int x1), (2, .int 0)] []) : At X 6 (mW X.E ad S) 0 [(0, .ref (ad 0)), (1, .int x1)] [] := by
  refine at_iconst C dX8_worstFrom_0 (v := 0) rfl ?_
  refine at_istore_n C dX8_worstFrom_1 rfl (by decide) (lv' := [(2, .int 0), (0, .ref (ad 0)), (1, .int x1)]) rfl ?_
  refine at_lv [1, 2, 0] rfl ?_
  exact h
set_option maxRecDepth 100000 in
theorem r_X8_worstFrom_2 {X : Bn} (C : Cx X cX8_worstFrom 6 RX8 wsX8_worstFrom 4 91) (ad : Nat → Nat) (S : MS) (x1 : Int32) (x2 : Int32) (h : ((625 ≤ x2) → (At X 6 (mW X.E ad S) 26 [(0, .ref (ad 0)), (1, .int x1), (2, .int 0), (3, .int 0)] [])) ∧ (¬ 625 ≤ x2 → ((vp_in x2 625) ∧ (At X 6 (mW X.E ad (pg S 16 x2.toNatClampNeg 0)) 2 [(0, .ref (ad 0)), (1, .int x1), (2, .int (x2 + 1))] [])))) : At X 6 (mW X.E ad S) 2 [(0, .ref (ad 0)), (1, .int x1), (2, .int x2)] [] := by
  refine at_iload_n C dX8_worstFrom_2 rfl (j := 2) rfl ?_
  refine at_sipush C dX8_worstFrom_3 (v := 625) rfl ?_
  refine at_icmp_ge C dX8_worstFrom_6 (tgt := 22) (by decide) (fun hc0 => ?_) (fun hc0 => ?_)
  · replace h := h.1 hc0
    refine at_iconst C dX8_worstFrom_22 (v := 0) rfl ?_
    refine at_istore_n C dX8_worstFrom_23 rfl (by decide) (lv' := [(2, .int 0), (0, .ref (ad 0)), (1, .int x1)]) rfl ?_
    refine at_iconst C dX8_worstFrom_24 (v := 0) rfl ?_
    refine at_istore_n C dX8_worstFrom_25 rfl (by decide) (lv' := [(3, .int 0), (2, .int 0), (0, .ref (ad 0)), (1, .int x1)]) rfl ?_
    refine at_lv [2, 3, 1, 0] rfl ?_
    exact h
  · replace h := h.2 hc0
    refine at_aload_n C dX8_worstFrom_9 rfl (j := 0) rfl ?_
    refine at_get C (K := RX8) (T := TX8) (N := 18) (ci := 7) (v := .ref (ad 12)) iw_X8_worstFrom_X8 0 mW_c0 rfl 16 (by decide) lk_X8_worstFrom_0 rfl dX8_worstFrom_10 ?_
    refine at_iload_n C dX8_worstFrom_13 rfl (j := 2) rfl ?_
    refine at_iconst C dX8_worstFrom_14 (v := 0) rfl ?_
    refine at_iast C 12 mW_c12 h.1 mW_s12 dX8_worstFrom_15 ?_
    replace h := h.2
    refine at_iinc C dX8_worstFrom_16 (j := 2) (v := x2 + 1) rfl rfl (by decide) (lv' := [(2, .int (x2 + 1)), (0, .ref (ad 0)), (1, .int x1)]) rfl ?_
    refine at_goto C dX8_worstFrom_19 (tgt := 2) (by decide) ?_
    refine at_lv [1, 2, 0] rfl ?_
    exact h
set_option maxRecDepth 100000 in
theorem r_X8_worstFrom_26 {X : Bn} (C : Cx X cX8_worstFrom 6 RX8 wsX8_worstFrom 4 91) (ad : Nat → Nat) (S : MS) (x1 : Int32) (x2 : Int32) (x3 : Int32) (h : ((S.1 8 0 ≤ x3) → (Ends X (some .int) (some (.int x2)) (mW X.E ad S))) ∧ (¬ S.1 8 0 ≤ x3 → (At X 6 (mW X.E ad S) 37 [(0, .ref (ad 0)), (1, .int x1), (2, .int x2), (3, .int x3), (4, .int 0)] []))) : At X 6 (mW X.E ad S) 26 [(0, .ref (ad 0)), (1, .int x1), (2, .int x2), (3, .int x3)] [] := by
  refine at_iload_n C dX8_worstFrom_26 rfl (j := 3) rfl ?_
  refine at_aload_n C dX8_worstFrom_27 rfl (j := 0) rfl ?_
  refine at_get C (K := RX8) (T := TX8) (N := 18) (ci := 7) (v := .int (S.1 8 0)) iw_X8_worstFrom_X8 0 mW_c0 rfl 8 (by decide) lk_X8_worstFrom_1 rfl dX8_worstFrom_28 ?_
  refine at_icmp_ge C dX8_worstFrom_31 (tgt := 128) (by decide) (fun hc1 => ?_) (fun hc1 => ?_)
  · replace h := h.1 hc1
    refine at_iload_n C dX8_worstFrom_128 rfl (j := 2) rfl ?_
    exact at_iret C dX8_worstFrom_129 h
  · replace h := h.2 hc1
    refine at_iconst C dX8_worstFrom_34 (v := 0) rfl ?_
    refine at_istore C dX8_worstFrom_35 (by decide) (lv' := [(4, .int 0), (0, .ref (ad 0)), (1, .int x1), (2, .int x2), (3, .int x3)]) rfl ?_
    refine at_lv [1, 2, 3, 4, 0] rfl ?_
    exact h
set_option maxRecDepth 100000 in
theorem r_X8_worstFrom_37 {X : Bn} (C : Cx X cX8_worstFrom 6 RX8 wsX8_worstFrom 4 91) (ad : Nat → Nat) (S : MS) (x1 : Int32) (x2 : Int32) (x3 : Int32) (x4 : Int32) (h : ((4 ≤ x4) → (At X 6 (mW X.E ad S) 26 [(0, .ref (ad 0)), (1, .int x1), (2, .int x2), (3, .int (x3 + 1))] [])) ∧ (¬ 4 ≤ x4 → ((vp_in x3 8) ∧ ((vp_in (f_X8_sightOf (f_X8_turned (S.1 9 x3.toNatClampNeg) x4) x1) 625) ∧ ((p_X8_isFit S x3) ∧ ((vp_in (f_X8_sightOf (f_X8_turned (S.1 9 x3.toNatClampNeg) x4) x1) 625) ∧ ((vp_in (f_X8_sightOf (f_X8_turned (S.1 9 x3.toNatClampNeg) x4) x1) 625) ∧ ((((¬ f_X8_ones ((pg S 16 ((f_X8_sightOf (f_X8_turned (S.1 9 x3.toNatClampNeg) x4) x1).toNatClampNeg) ((S.1 16 ((f_X8_sightOf (f_X8_turned (S.1 9 x3.toNatClampNeg) x4) x1).toNatClampNeg)) ||| (if (f_X8_isFit S x3 x4) then ishl 1 x3 else 0))).1 16 ((f_X8_sightOf (f_X8_turned (S.1 9 x3.toNatClampNeg) x4) x1).toNatClampNeg)) ≤ x2) → (vp_in (f_X8_sightOf (f_X8_turned (S.1 9 x3.toNatClampNeg) x4) x1) 625))) ∧ (At X 6 (mW X.E ad (pg S 16 ((f_X8_sightOf (f_X8_turned (S.1 9 x3.toNatClampNeg) x4) x1).toNatClampNeg) ((S.1 16 ((f_X8_sightOf (f_X8_turned (S.1 9 x3.toNatClampNeg) x4) x1).toNatClampNeg)) ||| (if (f_X8_isFit S x3 x4) then ishl 1 x3 else 0)))) 37 [(0, .ref (ad 0)), (1, .int x1), (2, .int (if f_X8_ones ((pg S 16 ((f_X8_sightOf (f_X8_turned (S.1 9 x3.toNatClampNeg) x4) x1).toNatClampNeg) ((S.1 16 ((f_X8_sightOf (f_X8_turned (S.1 9 x3.toNatClampNeg) x4) x1).toNatClampNeg)) ||| (if (f_X8_isFit S x3 x4) then ishl 1 x3 else 0))).1 16 ((f_X8_sightOf (f_X8_turned (S.1 9 x3.toNatClampNeg) x4) x1).toNatClampNeg)) ≤ x2 then x2 else f_X8_ones ((pg S 16 ((f_X8_sightOf (f_X8_turned (S.1 9 x3.toNatClampNeg) x4) x1).toNatClampNeg) ((S.1 16 ((f_X8_sightOf (f_X8_turned (S.1 9 x3.toNatClampNeg) x4) x1).toNatClampNeg)) ||| (if (f_X8_isFit S x3 x4) then ishl 1 x3 else 0))).1 16 ((f_X8_sightOf (f_X8_turned (S.1 9 x3.toNatClampNeg) x4) x1).toNatClampNeg)))), (3, .int x3), (4, .int (x4 + 1))] []))))))))) : At X 6 (mW X.E ad S) 37 [(0, .ref (ad 0)), (1, .int x1), (2, .int x2), (3, .int x3), (4, .int x4)] [] := by
  refine at_iload C dX8_worstFrom_37 (j := 4) rfl ?_
  refine at_iconst C dX8_worstFrom_39 (v := 4) rfl ?_
  refine at_icmp_ge C dX8_worstFrom_40 (tgt := 122) (by decide) (fun hc2 => ?_) (fun hc2 => ?_)
  · replace h := h.1 hc2
    refine at_iinc C dX8_worstFrom_122 (j := 3) (v := x3 + 1) rfl rfl (by decide) (lv' := [(3, .int (x3 + 1)), (0, .ref (ad 0)), (1, .int x1), (2, .int x2), (4, .int x4)]) rfl ?_
    refine at_goto C dX8_worstFrom_125 (tgt := 26) (by decide) ?_
    refine at_lv [1, 2, 3, 0] rfl ?_
    exact h
  · replace h := h.2 hc2
    refine at_aload_n C dX8_worstFrom_43 rfl (j := 0) rfl ?_
    refine at_get C (K := RX8) (T := TX8) (N := 18) (ci := 7) (v := .ref (ad 7)) iw_X8_worstFrom_X8 0 mW_c0 rfl 9 (by decide) lk_X8_worstFrom_2 rfl dX8_worstFrom_44 ?_
    refine at_iload_n C dX8_worstFrom_47 rfl (j := 3) rfl ?_
    refine at_iald C 7 mW_c7 h.1 dX8_worstFrom_48 ?_
    replace h := h.2
    refine at_iload C dX8_worstFrom_49 (j := 4) rfl ?_
    refine at_cS0 C 2 (c_X8_turned X.l X.D X.E X.a1 X.a2 (S.1 9 x3.toNatClampNeg) x4) gX8_worstFrom_X8_turned rfl (by decide +kernel) ⟨rfl, rfl⟩ rfl rfl rfl dX8_worstFrom_51 ?_
    refine at_iload_n C dX8_worstFrom_54 rfl (j := 1) rfl ?_
    refine at_cS0 C 2 (c_X8_sightOf X.l X.D X.E X.a1 X.a2 (f_X8_turned (S.1 9 x3.toNatClampNeg) x4) x1) gX8_worstFrom_X8_sightOf rfl (by decide +kernel) ⟨rfl, rfl⟩ rfl rfl rfl dX8_worstFrom_55 ?_
    refine at_istore C dX8_worstFrom_58 (by decide) (lv' := [(5, .int (f_X8_sightOf (f_X8_turned (S.1 9 x3.toNatClampNeg) x4) x1)), (0, .ref (ad 0)), (1, .int x1), (2, .int x2), (3, .int x3), (4, .int x4)]) rfl ?_
    refine at_aload_n C dX8_worstFrom_60 rfl (j := 1) rfl ?_
    refine at_get C (K := RX8) (T := TX8) (N := 18) (ci := 7) (v := .ref (ad 12)) iw_X8_worstFrom_X8 0 mW_c0 rfl 16 (by decide) lk_X8_worstFrom_0 rfl dX8_worstFrom_61 ?_
    refine at_iload C dX8_worstFrom_64 (j := 0) rfl ?_
    refine at_dup2_11 C dX8_worstFrom_66 rfl rfl ?_
    refine at_iald C 12 mW_c12 h.1 dX8_worstFrom_67 ?_
    replace h := h.2
    refine at_aload_n C dX8_worstFrom_68 rfl (j := 1) rfl ?_
    refine at_iload_n C dX8_worstFrom_69 rfl (j := 4) rfl ?_
    refine at_iload C dX8_worstFrom_70 (j := 5) rfl ?_
    refine at_cV1 C 2 (c_X8_isFit X.l X.D X.E X.a1 X.a2 ad S x3 x4 h.1) gX8_worstFrom_X8_isFit rfl (by decide +kernel) ⟨rfl, rfl⟩ rfl rfl rfl 0 mW_c0 rfl dX8_worstFrom_72 ?_
    replace h := h.2
    have K : At X 6 (mW X.E ad S) 85 [(0, .ref (ad 0)), (1, .int x1), (2, .int x2), (3, .int x3), (4, .int x4), (5, .int (f_X8_sightOf (f_X8_turned (S.1 9 x3.toNatClampNeg) x4) x1))] [.int (if (f_X8_isFit S x3 x4) then ishl 1 x3 else 0), .int (S.1 16 ((f_X8_sightOf (f_X8_turned (S.1 9 x3.toNatClampNeg) x4) x1).toNatClampNeg)), .int (f_X8_sightOf (f_X8_turned (S.1 9 x3.toNatClampNeg) x4) x1), .ref (ad 12)] := by
      refine at_ior C dX8_worstFrom_85 ?_
      refine at_iast C 12 mW_c12 h.1 mW_s12 dX8_worstFrom_86 ?_
      replace h := h.2
      refine at_aload_n C dX8_worstFrom_87 rfl (j := 0) rfl ?_
      refine at_get C (K := RX8) (T := TX8) (N := 18) (ci := 7) (v := .ref (ad 12)) iw_X8_worstFrom_X8 0 mW_c0 rfl 16 (by decide) lk_X8_worstFrom_0 rfl dX8_worstFrom_88 ?_
      refine at_iload C dX8_worstFrom_91 (j := 5) rfl ?_
      refine at_iald C 12 mW_c12 h.1 dX8_worstFrom_93 ?_
      replace h := h.2
      refine at_cS0 C 1 (c_X8_ones X.l X.D X.E X.a1 X.a2 ((pg S 16 ((f_X8_sightOf (f_X8_turned (S.1 9 x3.toNatClampNeg) x4) x1).toNatClampNeg) ((S.1 16 ((f_X8_sightOf (f_X8_turned (S.1 9 x3.toNatClampNeg) x4) x1).toNatClampNeg)) ||| (if (f_X8_isFit S x3 x4) then ishl 1 x3 else 0))).1 16 ((f_X8_sightOf (f_X8_turned (S.1 9 x3.toNatClampNeg) x4) x1).toNatClampNeg))) gX8_worstFrom_X8_ones rfl (by decide +kernel) ⟨rfl, rfl⟩ rfl rfl rfl dX8_worstFrom_94 ?_
      refine at_iload_n C dX8_worstFrom_97 rfl (j := 2) rfl ?_
      have hq := h.1
      replace h := h.2
      have K : At X 6 (mW X.E ad (pg S 16 ((f_X8_sightOf (f_X8_turned (S.1 9 x3.toNatClampNeg) x4) x1).toNatClampNeg) ((S.1 16 ((f_X8_sightOf (f_X8_turned (S.1 9 x3.toNatClampNeg) x4) x1).toNatClampNeg)) ||| (if (f_X8_isFit S x3 x4) then ishl 1 x3 else 0)))) 115 [(0, .ref (ad 0)), (1, .int x1), (3, .int x3), (4, .int x4)] [.int (if f_X8_ones ((pg S 16 ((f_X8_sightOf (f_X8_turned (S.1 9 x3.toNatClampNeg) x4) x1).toNatClampNeg) ((S.1 16 ((f_X8_sightOf (f_X8_turned (S.1 9 x3.toNatClampNeg) x4) x1).toNatClampNeg)) ||| (if (f_X8_isFit S x3 x4) then ishl 1 x3 else 0))).1 16 ((f_X8_sightOf (f_X8_turned (S.1 9 x3.toNatClampNeg) x4) x1).toNatClampNeg)) ≤ x2 then x2 else f_X8_ones ((pg S 16 ((f_X8_sightOf (f_X8_turned (S.1 9 x3.toNatClampNeg) x4) x1).toNatClampNeg) ((S.1 16 ((f_X8_sightOf (f_X8_turned (S.1 9 x3.toNatClampNeg) x4) x1).toNatClampNeg)) ||| (if (f_X8_isFit S x3 x4) then ishl 1 x3 else 0))).1 16 ((f_X8_sightOf (f_X8_turned (S.1 9 x3.toNatClampNeg) x4) x1).toNatClampNeg)))] := by
        refine at_istore_n C dX8_worstFrom_115 rfl (by decide) (lv' := [(2, .int (if f_X8_ones ((pg S 16 ((f_X8_sightOf (f_X8_turned (S.1 9 x3.toNatClampNeg) x4) x1).toNatClampNeg) ((S.1 16 ((f_X8_sightOf (f_X8_turned (S.1 9 x3.toNatClampNeg) x4) x1).toNatClampNeg)) ||| (if (f_X8_isFit S x3 x4) then ishl 1 x3 else 0))).1 16 ((f_X8_sightOf (f_X8_turned (S.1 9 x3.toNatClampNeg) x4) x1).toNatClampNeg)) ≤ x2 then x2 else f_X8_ones ((pg S 16 ((f_X8_sightOf (f_X8_turned (S.1 9 x3.toNatClampNeg) x4) x1).toNatClampNeg) ((S.1 16 ((f_X8_sightOf (f_X8_turned (S.1 9 x3.toNatClampNeg) x4) x1).toNatClampNeg)) ||| (if (f_X8_isFit S x3 x4) then ishl 1 x3 else 0))).1 16 ((f_X8_sightOf (f_X8_turned (S.1 9 x3.toNatClampNeg) x4) x1).toNatClampNeg)))), (0, .ref (ad 0)), (1, .int x1), (3, .int x3), (4, .int x4)]) rfl ?_
        refine at_iinc C dX8_worstFrom_116 (j := 4) (v := x4 + 1) rfl rfl (by decide) (lv' := [(4, .int (x4 + 1)), (2, .int (if f_X8_ones ((pg S 16 ((f_X8_sightOf (f_X8_turned (S.1 9 x3.toNatClampNeg) x4) x1).toNatClampNeg) ((S.1 16 ((f_X8_sightOf (f_X8_turned (S.1 9 x3.toNatClampNeg) x4) x1).toNatClampNeg)) ||| (if (f_X8_isFit S x3 x4) then ishl 1 x3 else 0))).1 16 ((f_X8_sightOf (f_X8_turned (S.1 9 x3.toNatClampNeg) x4) x1).toNatClampNeg)) ≤ x2 then x2 else f_X8_ones ((pg S 16 ((f_X8_sightOf (f_X8_turned (S.1 9 x3.toNatClampNeg) x4) x1).toNatClampNeg) ((S.1 16 ((f_X8_sightOf (f_X8_turned (S.1 9 x3.toNatClampNeg) x4) x1).toNatClampNeg)) ||| (if (f_X8_isFit S x3 x4) then ishl 1 x3 else 0))).1 16 ((f_X8_sightOf (f_X8_turned (S.1 9 x3.toNatClampNeg) x4) x1).toNatClampNeg)))), (0, .ref (ad 0)), (1, .int x1), (3, .int x3)]) rfl ?_
        refine at_goto C dX8_worstFrom_119 (tgt := 37) (by decide) ?_
        refine at_lv [2, 3, 1, 4, 0] rfl ?_
        exact h
      replace h := hq
      refine at_icmp_le C dX8_worstFrom_98 (tgt := 114) (by decide) (fun hc3 => ?_) (fun hc3 => ?_)
      · skip
        refine at_iload_n C dX8_worstFrom_114 rfl (j := 2) rfl ?_
        refine at_lv [0, 1, 3, 4] rfl ?_
        first | (simp only [if_pos hc3] at K; exact K) | exact K
      · replace h := h hc3
        refine at_aload_n C dX8_worstFrom_101 rfl (j := 0) rfl ?_
        refine at_get C (K := RX8) (T := TX8) (N := 18) (ci := 7) (v := .ref (ad 12)) iw_X8_worstFrom_X8 0 mW_c0 rfl 16 (by decide) lk_X8_worstFrom_0 rfl dX8_worstFrom_102 ?_
        refine at_iload C dX8_worstFrom_105 (j := 5) rfl ?_
        refine at_iald C 12 mW_c12 h dX8_worstFrom_107 ?_
        refine at_cS0 C 1 (c_X8_ones X.l X.D X.E X.a1 X.a2 ((pg S 16 ((f_X8_sightOf (f_X8_turned (S.1 9 x3.toNatClampNeg) x4) x1).toNatClampNeg) ((S.1 16 ((f_X8_sightOf (f_X8_turned (S.1 9 x3.toNatClampNeg) x4) x1).toNatClampNeg)) ||| (if (f_X8_isFit S x3 x4) then ishl 1 x3 else 0))).1 16 ((f_X8_sightOf (f_X8_turned (S.1 9 x3.toNatClampNeg) x4) x1).toNatClampNeg))) gX8_worstFrom_X8_ones rfl (by decide +kernel) ⟨rfl, rfl⟩ rfl rfl rfl dX8_worstFrom_108 ?_
        refine at_goto C dX8_worstFrom_111 (tgt := 115) (by decide) ?_
        refine at_lv [0, 1, 3, 4] rfl ?_
        first | (simp only [if_neg hc3] at K; exact K) | exact K
    refine at_ifB_eq C dX8_worstFrom_75 (tgt := 84) (by decide) (fun hc3 => ?_) (fun hc3 => ?_)
    · skip
      refine at_iconst C dX8_worstFrom_84 (v := 0) rfl ?_
      refine at_lv [1, 2, 3, 4, 5, 0] rfl ?_
      first | (simp only [if_neg (show ¬ (f_X8_isFit S x3 x4) = true by rw [hc3]; decide)] at K; exact K) | exact K
    · skip
      refine at_iconst C dX8_worstFrom_78 (v := 1) rfl ?_
      refine at_iload_n C dX8_worstFrom_79 rfl (j := 4) rfl ?_
      refine at_ishl C dX8_worstFrom_80 ?_
      refine at_goto C dX8_worstFrom_81 (tgt := 85) (by decide) ?_
      refine at_lv [1, 2, 3, 4, 5, 0] rfl ?_
      first | (simp only [if_pos hc3] at K; exact K) | exact K
set_option maxRecDepth 20000 in
theorem ggX8_lookOf_X8_fitsOf : GoodIn wsX8_lookOf wsX8_fitsOf := goodIn_r _ [5, 6, 7, 8, 9, 4, 10, 11, 12, 13, 14, 15, 16, 17, 18, 19, 20, 21, 22, 23, 24, 25, 26, 27, 28, 37, 38, 39, 40, 41, 42, 43, 44, 45, 46, 47, 48, 49, 50, 51, 52, 53, 54] (by decide +kernel) (by decide +kernel)
set_option maxRecDepth 20000 in
theorem gX8_lookOf_X8_fitsOf : GoodIn wsX8_lookOf (wsV RX8 232 RX8 yX8_fitsOf wsX8_fitsOf) := goodIn_app (goodIn_of _ (by decide +kernel)) ggX8_lookOf_X8_fitsOf
set_option maxRecDepth 20000 in
theorem ggX8_lookOf_X8_worstFrom : GoodIn wsX8_lookOf wsX8_worstFrom := goodIn_r _ [32, 33, 6, 12, 14, 15, 4, 16, 17, 18, 19, 20, 21, 22, 23, 24, 25, 26, 27, 28, 7, 8, 9, 10, 11, 13, 34, 35, 36, 37, 38, 39, 40, 41, 42, 43, 44, 45, 46, 47, 48, 49, 50, 51, 52, 53, 54] (by decide +kernel) (by decide +kernel)
set_option maxRecDepth 20000 in
theorem gX8_lookOf_X8_worstFrom : GoodIn wsX8_lookOf (wsV RX8 235 RX8 yX8_worstFrom wsX8_worstFrom) := goodIn_app (goodIn_of _ (by decide +kernel)) ggX8_lookOf_X8_worstFrom
theorem dX8_lookOf_0 : decode cX8_lookOf 0 = .ok (.aload_n 0, 1) := by decide +kernel
theorem dX8_lookOf_1 : decode cX8_lookOf 1 = .ok (.iconst 0, 1) := by decide +kernel
theorem dX8_lookOf_2 : decode cX8_lookOf 2 = .ok (.invokevirtual 232, 3) := by decide +kernel
theorem dX8_lookOf_5 : decode cX8_lookOf 5 = .ok (.ifCond .ne 6, 3) := by decide +kernel
theorem dX8_lookOf_8 : decode cX8_lookOf 8 = .ok (.bipush (-3), 2) := by decide +kernel
theorem dX8_lookOf_10 : decode cX8_lookOf 10 = .ok (.ireturn, 1) := by decide +kernel
theorem dX8_lookOf_11 : decode cX8_lookOf 11 = .ok (.iconst 0, 1) := by decide +kernel
theorem dX8_lookOf_12 : decode cX8_lookOf 12 = .ok (.istore_n 2, 1) := by decide +kernel
theorem dX8_lookOf_13 : decode cX8_lookOf 13 = .ok (.iconst 1, 1) := by decide +kernel
theorem dX8_lookOf_14 : decode cX8_lookOf 14 = .ok (.istore_n 3, 1) := by decide +kernel
theorem dX8_lookOf_15 : decode cX8_lookOf 15 = .ok (.iload_n 3, 1) := by decide +kernel
theorem dX8_lookOf_16 : decode cX8_lookOf 16 = .ok (.iconst 4, 1) := by decide +kernel
theorem dX8_lookOf_17 : decode cX8_lookOf 17 = .ok (.if_icmp .ge 28, 3) := by decide +kernel
theorem dX8_lookOf_20 : decode cX8_lookOf 20 = .ok (.aload_n 0, 1) := by decide +kernel
theorem dX8_lookOf_21 : decode cX8_lookOf 21 = .ok (.iload_n 3, 1) := by decide +kernel
theorem dX8_lookOf_22 : decode cX8_lookOf 22 = .ok (.invokevirtual 235, 3) := by decide +kernel
theorem dX8_lookOf_25 : decode cX8_lookOf 25 = .ok (.aload_n 0, 1) := by decide +kernel
theorem dX8_lookOf_26 : decode cX8_lookOf 26 = .ok (.iload_n 2, 1) := by decide +kernel
theorem dX8_lookOf_27 : decode cX8_lookOf 27 = .ok (.invokevirtual 235, 3) := by decide +kernel
theorem dX8_lookOf_30 : decode cX8_lookOf 30 = .ok (.if_icmp .ge 7, 3) := by decide +kernel
theorem dX8_lookOf_33 : decode cX8_lookOf 33 = .ok (.iload_n 3, 1) := by decide +kernel
theorem dX8_lookOf_34 : decode cX8_lookOf 34 = .ok (.goto 4, 3) := by decide +kernel
theorem dX8_lookOf_37 : decode cX8_lookOf 37 = .ok (.iload_n 2, 1) := by decide +kernel
theorem dX8_lookOf_38 : decode cX8_lookOf 38 = .ok (.istore_n 2, 1) := by decide +kernel
theorem dX8_lookOf_39 : decode cX8_lookOf 39 = .ok (.iinc 3 1, 3) := by decide +kernel
theorem dX8_lookOf_42 : decode cX8_lookOf 42 = .ok (.goto (-27), 3) := by decide +kernel
theorem dX8_lookOf_45 : decode cX8_lookOf 45 = .ok (.iload_n 1, 1) := by decide +kernel
theorem dX8_lookOf_46 : decode cX8_lookOf 46 = .ok (.ifCond .ne 7, 3) := by decide +kernel
theorem dX8_lookOf_49 : decode cX8_lookOf 49 = .ok (.iload_n 2, 1) := by decide +kernel
theorem dX8_lookOf_50 : decode cX8_lookOf 50 = .ok (.goto 8, 3) := by decide +kernel
theorem dX8_lookOf_53 : decode cX8_lookOf 53 = .ok (.aload_n 0, 1) := by decide +kernel
theorem dX8_lookOf_54 : decode cX8_lookOf 54 = .ok (.iload_n 2, 1) := by decide +kernel
theorem dX8_lookOf_55 : decode cX8_lookOf 55 = .ok (.invokevirtual 235, 3) := by decide +kernel
theorem dX8_lookOf_58 : decode cX8_lookOf 58 = .ok (.ireturn, 1) := by decide +kernel
set_option maxRecDepth 100000 in
theorem r_X8_lookOf_0 {X : Bn} (C : Cx X cX8_lookOf 4 RX8 wsX8_lookOf 5 116) (ad : Nat → Nat) (S : MS) (x1 : Int32) (h : (p_X8_fitsOf S) ∧ (((f_X8_fitsOf S (0 : Int32) = 0) → (Ends X (some .int) (some (.int (-3))) (mW X.E ad S))) ∧ (¬ f_X8_fitsOf S (0 : Int32) = 0 → (At X 4 (mW X.E ad S) 15 [(0, .ref (ad 0)), (1, .int x1), (2, .int 0), (3, .int 1)] [])))) : At X 4 (mW X.E ad S) 0 [(0, .ref (ad 0)), (1, .int x1)] [] := by
  refine at_aload_n C dX8_lookOf_0 rfl (j := 0) rfl ?_
  refine at_iconst C dX8_lookOf_1 (v := 0) rfl ?_
  refine at_cV1 C 1 (c_X8_fitsOf X.l X.D X.E X.a1 X.a2 ad S (0 : Int32) h.1) gX8_lookOf_X8_fitsOf rfl (by decide +kernel) ⟨rfl, rfl⟩ rfl rfl rfl 0 mW_c0 rfl dX8_lookOf_2 ?_
  replace h := h.2
  refine at_if_ne C dX8_lookOf_5 (tgt := 11) (by decide) (fun hc0 => ?_) (fun hc0 => ?_)
  · replace h := h.2 hc0
    refine at_iconst C dX8_lookOf_11 (v := 0) rfl ?_
    refine at_istore_n C dX8_lookOf_12 rfl (by decide) (lv' := [(2, .int 0), (0, .ref (ad 0)), (1, .int x1)]) rfl ?_
    refine at_iconst C dX8_lookOf_13 (v := 1) rfl ?_
    refine at_istore_n C dX8_lookOf_14 rfl (by decide) (lv' := [(3, .int 1), (2, .int 0), (0, .ref (ad 0)), (1, .int x1)]) rfl ?_
    refine at_lv [2, 3, 1, 0] rfl ?_
    exact h
  · replace h := h.1 hc0
    refine at_bipush C dX8_lookOf_8 (v := (-3)) rfl ?_
    exact at_iret C dX8_lookOf_10 h
set_option maxRecDepth 100000 in
theorem r_X8_lookOf_15 {X : Bn} (C : Cx X cX8_lookOf 4 RX8 wsX8_lookOf 5 116) (ad : Nat → Nat) (S : MS) (x1 : Int32) (x2 : Int32) (x3 : Int32) (h : ((4 ≤ x3) → (((x1 = 0) → (Ends X (some .int) (some (.int x2)) (mW X.E ad S))) ∧ (¬ x1 = 0 → (∃ (r1 : Int32) (S1 : MS), (Fn X.l X.D X.E X.a1 X.a2 yX8_worstFrom wsX8_worstFrom 4 91 [.ref (ad 0), .int x2] (mW X.E ad S) (some (.int r1)) (mW X.E ad S1)) ∧ (Ends X (some .int) (some (.int r1)) (mW X.E ad S1)))))) ∧ (¬ 4 ≤ x3 → (∃ (r2 : Int32) (S2 : MS), (Fn X.l X.D X.E X.a1 X.a2 yX8_worstFrom wsX8_worstFrom 4 91 [.ref (ad 0), .int x3] (mW X.E ad S) (some (.int r2)) (mW X.E ad S2)) ∧ (∃ (r3 : Int32) (S3 : MS), (Fn X.l X.D X.E X.a1 X.a2 yX8_worstFrom wsX8_worstFrom 4 91 [.ref (ad 0), .int x2] (mW X.E ad S2) (some (.int r3)) (mW X.E ad S3)) ∧ (At X 4 (mW X.E ad S3) 15 [(0, .ref (ad 0)), (1, .int x1), (2, .int (if r3 ≤ r2 then x2 else x3)), (3, .int (x3 + 1))] []))))) : At X 4 (mW X.E ad S) 15 [(0, .ref (ad 0)), (1, .int x1), (2, .int x2), (3, .int x3)] [] := by
  refine at_iload_n C dX8_lookOf_15 rfl (j := 3) rfl ?_
  refine at_iconst C dX8_lookOf_16 (v := 4) rfl ?_
  refine at_icmp_ge C dX8_lookOf_17 (tgt := 45) (by decide) (fun hc1 => ?_) (fun hc1 => ?_)
  · replace h := h.1 hc1
    refine at_iload_n C dX8_lookOf_45 rfl (j := 1) rfl ?_
    refine at_if_ne C dX8_lookOf_46 (tgt := 53) (by decide) (fun hc2 => ?_) (fun hc2 => ?_)
    · replace h := h.2 hc2
      refine at_aload_n C dX8_lookOf_53 rfl (j := 0) rfl ?_
      refine at_iload_n C dX8_lookOf_54 rfl (j := 2) rfl ?_
      obtain ⟨r1, S1, hF1, h⟩ := h
      refine at_cV1 C 1 hF1 gX8_lookOf_X8_worstFrom rfl (by decide +kernel) ⟨rfl, rfl⟩ rfl rfl rfl 0 mW_c0 rfl dX8_lookOf_55 ?_
      exact at_iret C dX8_lookOf_58 h
    · replace h := h.1 hc2
      refine at_iload_n C dX8_lookOf_49 rfl (j := 2) rfl ?_
      refine at_goto C dX8_lookOf_50 (tgt := 58) (by decide) ?_
      exact at_iret C dX8_lookOf_58 h
  · replace h := h.2 hc1
    refine at_aload_n C dX8_lookOf_20 rfl (j := 0) rfl ?_
    refine at_iload_n C dX8_lookOf_21 rfl (j := 3) rfl ?_
    obtain ⟨r2, S2, hF2, h⟩ := h
    refine at_cV1 C 1 hF2 gX8_lookOf_X8_worstFrom rfl (by decide +kernel) ⟨rfl, rfl⟩ rfl rfl rfl 0 mW_c0 rfl dX8_lookOf_22 ?_
    refine at_aload_n C dX8_lookOf_25 rfl (j := 0) rfl ?_
    refine at_iload_n C dX8_lookOf_26 rfl (j := 2) rfl ?_
    obtain ⟨r3, S3, hF3, h⟩ := h
    refine at_cV1 C 1 hF3 gX8_lookOf_X8_worstFrom rfl (by decide +kernel) ⟨rfl, rfl⟩ rfl rfl rfl 0 mW_c0 rfl dX8_lookOf_27 ?_
    have K : At X 4 (mW X.E ad S3) 38 [(0, .ref (ad 0)), (1, .int x1), (3, .int x3)] [.int (if r3 ≤ r2 then x2 else x3)] := by
      refine at_istore_n C dX8_lookOf_38 rfl (by decide) (lv' := [(2, .int (if r3 ≤ r2 then x2 else x3)), (0, .ref (ad 0)), (1, .int x1), (3, .int x3)]) rfl ?_
      refine at_iinc C dX8_lookOf_39 (j := 3) (v := x3 + 1) rfl rfl (by decide) (lv' := [(3, .int (x3 + 1)), (2, .int (if r3 ≤ r2 then x2 else x3)), (0, .ref (ad 0)), (1, .int x1)]) rfl ?_
      refine at_goto C dX8_lookOf_42 (tgt := 15) (by decide) ?_
      refine at_lv [2, 3, 1, 0] rfl ?_
      exact h
    refine at_icmp_ge C dX8_lookOf_30 (tgt := 37) (by decide) (fun hc3 => ?_) (fun hc3 => ?_)
    · skip
      refine at_iload_n C dX8_lookOf_37 rfl (j := 2) rfl ?_
      refine at_lv [0, 1, 3] rfl ?_
      first | (simp only [if_pos hc3] at K; exact K) | exact K
    · skip
      refine at_iload_n C dX8_lookOf_33 rfl (j := 3) rfl ?_
      refine at_goto C dX8_lookOf_34 (tgt := 38) (by decide) ?_
      refine at_lv [0, 1, 3] rfl ?_
      first | (simp only [if_neg hc3] at K; exact K) | exact K
set_option maxRecDepth 20000 in
theorem ggX8_watchersOf_X8_stepsTo : GoodIn wsX8_watchersOf wsX8_stepsTo := goodIn_r _ [7, 8, 9, 10, 6, 11, 12, 2, 13, 14, 15, 16, 17, 18, 19, 20, 21, 22, 23, 24, 25, 26, 27, 28, 29, 30, 31, 32, 33] (by decide +kernel) (by decide +kernel)
set_option maxRecDepth 20000 in
theorem gX8_watchersOf_X8_stepsTo : GoodIn wsX8_watchersOf (wsV RX8 253 RX8 yX8_stepsTo wsX8_stepsTo) := goodIn_app (goodIn_of _ (by decide +kernel)) ggX8_watchersOf_X8_stepsTo
theorem dX8_watchersOf_0 : decode cX8_watchersOf 0 = .ok (.lconst 0, 1) := by decide +kernel
theorem dX8_watchersOf_1 : decode cX8_watchersOf 1 = .ok (.lstore_n 2, 1) := by decide +kernel
theorem dX8_watchersOf_2 : decode cX8_watchersOf 2 = .ok (.iconst 0, 1) := by decide +kernel
theorem dX8_watchersOf_3 : decode cX8_watchersOf 3 = .ok (.istore 4, 2) := by decide +kernel
theorem dX8_watchersOf_5 : decode cX8_watchersOf 5 = .ok (.iload 4, 2) := by decide +kernel
theorem dX8_watchersOf_7 : decode cX8_watchersOf 7 = .ok (.bipush 64, 2) := by decide +kernel
theorem dX8_watchersOf_9 : decode cX8_watchersOf 9 = .ok (.if_icmp .ge 104, 3) := by decide +kernel
theorem dX8_watchersOf_12 : decode cX8_watchersOf 12 = .ok (.aload_n 0, 1) := by decide +kernel
theorem dX8_watchersOf_13 : decode cX8_watchersOf 13 = .ok (.getfield 47, 3) := by decide +kernel
theorem dX8_watchersOf_16 : decode cX8_watchersOf 16 = .ok (.iload 4, 2) := by decide +kernel
theorem dX8_watchersOf_18 : decode cX8_watchersOf 18 = .ok (.lconst 0, 1) := by decide +kernel
theorem dX8_watchersOf_19 : decode cX8_watchersOf 19 = .ok (.lastore, 1) := by decide +kernel
theorem dX8_watchersOf_20 : decode cX8_watchersOf 20 = .ok (.iconst 0, 1) := by decide +kernel
theorem dX8_watchersOf_21 : decode cX8_watchersOf 21 = .ok (.istore 5, 2) := by decide +kernel
theorem dX8_watchersOf_23 : decode cX8_watchersOf 23 = .ok (.iload 5, 2) := by decide +kernel
theorem dX8_watchersOf_25 : decode cX8_watchersOf 25 = .ok (.bipush 64, 2) := by decide +kernel
theorem dX8_watchersOf_27 : decode cX8_watchersOf 27 = .ok (.if_icmp .ge 59, 3) := by decide +kernel
theorem dX8_watchersOf_30 : decode cX8_watchersOf 30 = .ok (.aload_n 0, 1) := by decide +kernel
theorem dX8_watchersOf_31 : decode cX8_watchersOf 31 = .ok (.getfield 31, 3) := by decide +kernel
theorem dX8_watchersOf_34 : decode cX8_watchersOf 34 = .ok (.iload 4, 2) := by decide +kernel
theorem dX8_watchersOf_36 : decode cX8_watchersOf 36 = .ok (.baload, 1) := by decide +kernel
theorem dX8_watchersOf_37 : decode cX8_watchersOf 37 = .ok (.ifCond .eq 49, 3) := by decide +kernel
theorem dX8_watchersOf_40 : decode cX8_watchersOf 40 = .ok (.aload_n 0, 1) := by decide +kernel
theorem dX8_watchersOf_41 : decode cX8_watchersOf 41 = .ok (.getfield 47, 3) := by decide +kernel
theorem dX8_watchersOf_44 : decode cX8_watchersOf 44 = .ok (.iload 4, 2) := by decide +kernel
theorem dX8_watchersOf_46 : decode cX8_watchersOf 46 = .ok (.dup2, 1) := by decide +kernel
theorem dX8_watchersOf_47 : decode cX8_watchersOf 47 = .ok (.laload, 1) := by decide +kernel
theorem dX8_watchersOf_48 : decode cX8_watchersOf 48 = .ok (.aload_n 0, 1) := by decide +kernel
theorem dX8_watchersOf_49 : decode cX8_watchersOf 49 = .ok (.getfield 31, 3) := by decide +kernel
theorem dX8_watchersOf_52 : decode cX8_watchersOf 52 = .ok (.iload 5, 2) := by decide +kernel
theorem dX8_watchersOf_54 : decode cX8_watchersOf 54 = .ok (.baload, 1) := by decide +kernel
theorem dX8_watchersOf_55 : decode cX8_watchersOf 55 = .ok (.ifCond .eq 22, 3) := by decide +kernel
theorem dX8_watchersOf_58 : decode cX8_watchersOf 58 = .ok (.aload_n 0, 1) := by decide +kernel
theorem dX8_watchersOf_59 : decode cX8_watchersOf 59 = .ok (.iload 4, 2) := by decide +kernel
theorem dX8_watchersOf_61 : decode cX8_watchersOf 61 = .ok (.iload 5, 2) := by decide +kernel
theorem dX8_watchersOf_63 : decode cX8_watchersOf 63 = .ok (.invokevirtual 253, 3) := by decide +kernel
theorem dX8_watchersOf_66 : decode cX8_watchersOf 66 = .ok (.iconst (-1), 1) := by decide +kernel
theorem dX8_watchersOf_67 : decode cX8_watchersOf 67 = .ok (.if_icmp .eq 10, 3) := by decide +kernel
theorem dX8_watchersOf_70 : decode cX8_watchersOf 70 = .ok (.lconst 1, 1) := by decide +kernel
theorem dX8_watchersOf_71 : decode cX8_watchersOf 71 = .ok (.iload 5, 2) := by decide +kernel
theorem dX8_watchersOf_73 : decode cX8_watchersOf 73 = .ok (.lshl, 1) := by decide +kernel
theorem dX8_watchersOf_74 : decode cX8_watchersOf 74 = .ok (.goto 4, 3) := by decide +kernel
theorem dX8_watchersOf_77 : decode cX8_watchersOf 77 = .ok (.lconst 0, 1) := by decide +kernel
theorem dX8_watchersOf_78 : decode cX8_watchersOf 78 = .ok (.lor, 1) := by decide +kernel
theorem dX8_watchersOf_79 : decode cX8_watchersOf 79 = .ok (.lastore, 1) := by decide +kernel
theorem dX8_watchersOf_80 : decode cX8_watchersOf 80 = .ok (.iinc 5 1, 3) := by decide +kernel
theorem dX8_watchersOf_83 : decode cX8_watchersOf 83 = .ok (.goto (-60), 3) := by decide +kernel
theorem dX8_watchersOf_86 : decode cX8_watchersOf 86 = .ok (.lload_n 2, 1) := by decide +kernel
theorem dX8_watchersOf_87 : decode cX8_watchersOf 87 = .ok (.aload_n 0, 1) := by decide +kernel
theorem dX8_watchersOf_88 : decode cX8_watchersOf 88 = .ok (.getfield 31, 3) := by decide +kernel
theorem dX8_watchersOf_91 : decode cX8_watchersOf 91 = .ok (.iload 4, 2) := by decide +kernel
theorem dX8_watchersOf_93 : decode cX8_watchersOf 93 = .ok (.baload, 1) := by decide +kernel
theorem dX8_watchersOf_94 : decode cX8_watchersOf 94 = .ok (.ifCond .eq 10, 3) := by decide +kernel
theorem dX8_watchersOf_97 : decode cX8_watchersOf 97 = .ok (.lconst 1, 1) := by decide +kernel
theorem dX8_watchersOf_98 : decode cX8_watchersOf 98 = .ok (.iload 4, 2) := by decide +kernel
theorem dX8_watchersOf_100 : decode cX8_watchersOf 100 = .ok (.lshl, 1) := by decide +kernel
theorem dX8_watchersOf_101 : decode cX8_watchersOf 101 = .ok (.goto 4, 3) := by decide +kernel
theorem dX8_watchersOf_104 : decode cX8_watchersOf 104 = .ok (.lconst 0, 1) := by decide +kernel
theorem dX8_watchersOf_105 : decode cX8_watchersOf 105 = .ok (.lor, 1) := by decide +kernel
theorem dX8_watchersOf_106 : decode cX8_watchersOf 106 = .ok (.lstore_n 2, 1) := by decide +kernel
theorem dX8_watchersOf_107 : decode cX8_watchersOf 107 = .ok (.iinc 4 1, 3) := by decide +kernel
theorem dX8_watchersOf_110 : decode cX8_watchersOf 110 = .ok (.goto (-105), 3) := by decide +kernel
theorem dX8_watchersOf_113 : decode cX8_watchersOf 113 = .ok (.lload_n 2, 1) := by decide +kernel
theorem dX8_watchersOf_114 : decode cX8_watchersOf 114 = .ok (.lconst 0, 1) := by decide +kernel
theorem dX8_watchersOf_115 : decode cX8_watchersOf 115 = .ok (.lcmp, 1) := by decide +kernel
theorem dX8_watchersOf_116 : decode cX8_watchersOf 116 = .ok (.ifCond .ne 13, 3) := by decide +kernel
theorem dX8_watchersOf_119 : decode cX8_watchersOf 119 = .ok (.iload_n 1, 1) := by decide +kernel
theorem dX8_watchersOf_120 : decode cX8_watchersOf 120 = .ok (.ifCond .ne 7, 3) := by decide +kernel
theorem dX8_watchersOf_123 : decode cX8_watchersOf 123 = .ok (.iconst 0, 1) := by decide +kernel
theorem dX8_watchersOf_124 : decode cX8_watchersOf 124 = .ok (.goto 4, 3) := by decide +kernel
theorem dX8_watchersOf_127 : decode cX8_watchersOf 127 = .ok (.iconst (-1), 1) := by decide +kernel
theorem dX8_watchersOf_128 : decode cX8_watchersOf 128 = .ok (.ireturn, 1) := by decide +kernel
theorem dX8_watchersOf_129 : decode cX8_watchersOf 129 = .ok (.iconst 0, 1) := by decide +kernel
theorem dX8_watchersOf_130 : decode cX8_watchersOf 130 = .ok (.istore 4, 2) := by decide +kernel
theorem dX8_watchersOf_132 : decode cX8_watchersOf 132 = .ok (.iload 4, 2) := by decide +kernel
theorem dX8_watchersOf_134 : decode cX8_watchersOf 134 = .ok (.bipush 64, 2) := by decide +kernel
theorem dX8_watchersOf_136 : decode cX8_watchersOf 136 = .ok (.if_icmp .ge 41, 3) := by decide +kernel
theorem dX8_watchersOf_139 : decode cX8_watchersOf 139 = .ok (.aload_n 0, 1) := by decide +kernel
theorem dX8_watchersOf_140 : decode cX8_watchersOf 140 = .ok (.getfield 47, 3) := by decide +kernel
theorem dX8_watchersOf_143 : decode cX8_watchersOf 143 = .ok (.iload 4, 2) := by decide +kernel
theorem dX8_watchersOf_145 : decode cX8_watchersOf 145 = .ok (.laload, 1) := by decide +kernel
theorem dX8_watchersOf_146 : decode cX8_watchersOf 146 = .ok (.lload_n 2, 1) := by decide +kernel
theorem dX8_watchersOf_147 : decode cX8_watchersOf 147 = .ok (.lcmp, 1) := by decide +kernel
theorem dX8_watchersOf_148 : decode cX8_watchersOf 148 = .ok (.ifCond .ne 23, 3) := by decide +kernel
theorem dX8_watchersOf_151 : decode cX8_watchersOf 151 = .ok (.iload_n 1, 1) := by decide +kernel
theorem dX8_watchersOf_152 : decode cX8_watchersOf 152 = .ok (.ifCond .ne 7, 3) := by decide +kernel
theorem dX8_watchersOf_155 : decode cX8_watchersOf 155 = .ok (.iconst 1, 1) := by decide +kernel
theorem dX8_watchersOf_156 : decode cX8_watchersOf 156 = .ok (.goto 14, 3) := by decide +kernel
theorem dX8_watchersOf_159 : decode cX8_watchersOf 159 = .ok (.iload_n 1, 1) := by decide +kernel
theorem dX8_watchersOf_160 : decode cX8_watchersOf 160 = .ok (.iconst 1, 1) := by decide +kernel
theorem dX8_watchersOf_161 : decode cX8_watchersOf 161 = .ok (.if_icmp .ne 8, 3) := by decide +kernel
theorem dX8_watchersOf_164 : decode cX8_watchersOf 164 = .ok (.iload 4, 2) := by decide +kernel
theorem dX8_watchersOf_166 : decode cX8_watchersOf 166 = .ok (.goto 4, 3) := by decide +kernel
theorem dX8_watchersOf_169 : decode cX8_watchersOf 169 = .ok (.iconst (-1), 1) := by decide +kernel
theorem dX8_watchersOf_170 : decode cX8_watchersOf 170 = .ok (.ireturn, 1) := by decide +kernel
theorem dX8_watchersOf_171 : decode cX8_watchersOf 171 = .ok (.iinc 4 1, 3) := by decide +kernel
theorem dX8_watchersOf_174 : decode cX8_watchersOf 174 = .ok (.goto (-42), 3) := by decide +kernel
theorem dX8_watchersOf_177 : decode cX8_watchersOf 177 = .ok (.iconst 0, 1) := by decide +kernel
theorem dX8_watchersOf_178 : decode cX8_watchersOf 178 = .ok (.istore 4, 2) := by decide +kernel
theorem dX8_watchersOf_180 : decode cX8_watchersOf 180 = .ok (.iload 4, 2) := by decide +kernel
theorem dX8_watchersOf_182 : decode cX8_watchersOf 182 = .ok (.bipush 64, 2) := by decide +kernel
theorem dX8_watchersOf_184 : decode cX8_watchersOf 184 = .ok (.if_icmp .ge 89, 3) := by decide +kernel
theorem dX8_watchersOf_187 : decode cX8_watchersOf 187 = .ok (.iload 4, 2) := by decide +kernel
theorem dX8_watchersOf_189 : decode cX8_watchersOf 189 = .ok (.iconst 1, 1) := by decide +kernel
theorem dX8_watchersOf_190 : decode cX8_watchersOf 190 = .ok (.iadd, 1) := by decide +kernel
theorem dX8_watchersOf_191 : decode cX8_watchersOf 191 = .ok (.istore 5, 2) := by decide +kernel
theorem dX8_watchersOf_193 : decode cX8_watchersOf 193 = .ok (.iload 5, 2) := by decide +kernel
theorem dX8_watchersOf_195 : decode cX8_watchersOf 195 = .ok (.bipush 64, 2) := by decide +kernel
theorem dX8_watchersOf_197 : decode cX8_watchersOf 197 = .ok (.if_icmp .ge 70, 3) := by decide +kernel
theorem dX8_watchersOf_200 : decode cX8_watchersOf 200 = .ok (.aload_n 0, 1) := by decide +kernel
theorem dX8_watchersOf_201 : decode cX8_watchersOf 201 = .ok (.getfield 31, 3) := by decide +kernel
theorem dX8_watchersOf_204 : decode cX8_watchersOf 204 = .ok (.iload 4, 2) := by decide +kernel
theorem dX8_watchersOf_206 : decode cX8_watchersOf 206 = .ok (.baload, 1) := by decide +kernel
theorem dX8_watchersOf_207 : decode cX8_watchersOf 207 = .ok (.ifCond .eq 54, 3) := by decide +kernel
theorem dX8_watchersOf_210 : decode cX8_watchersOf 210 = .ok (.aload_n 0, 1) := by decide +kernel
theorem dX8_watchersOf_211 : decode cX8_watchersOf 211 = .ok (.getfield 31, 3) := by decide +kernel
theorem dX8_watchersOf_214 : decode cX8_watchersOf 214 = .ok (.iload 5, 2) := by decide +kernel
theorem dX8_watchersOf_216 : decode cX8_watchersOf 216 = .ok (.baload, 1) := by decide +kernel
theorem dX8_watchersOf_217 : decode cX8_watchersOf 217 = .ok (.ifCond .eq 44, 3) := by decide +kernel
theorem dX8_watchersOf_220 : decode cX8_watchersOf 220 = .ok (.aload_n 0, 1) := by decide +kernel
theorem dX8_watchersOf_221 : decode cX8_watchersOf 221 = .ok (.getfield 47, 3) := by decide +kernel
theorem dX8_watchersOf_224 : decode cX8_watchersOf 224 = .ok (.iload 4, 2) := by decide +kernel
theorem dX8_watchersOf_226 : decode cX8_watchersOf 226 = .ok (.laload, 1) := by decide +kernel
theorem dX8_watchersOf_227 : decode cX8_watchersOf 227 = .ok (.aload_n 0, 1) := by decide +kernel
theorem dX8_watchersOf_228 : decode cX8_watchersOf 228 = .ok (.getfield 47, 3) := by decide +kernel
theorem dX8_watchersOf_231 : decode cX8_watchersOf 231 = .ok (.iload 5, 2) := by decide +kernel
theorem dX8_watchersOf_233 : decode cX8_watchersOf 233 = .ok (.laload, 1) := by decide +kernel
theorem dX8_watchersOf_234 : decode cX8_watchersOf 234 = .ok (.lor, 1) := by decide +kernel
theorem dX8_watchersOf_235 : decode cX8_watchersOf 235 = .ok (.lload_n 2, 1) := by decide +kernel
theorem dX8_watchersOf_236 : decode cX8_watchersOf 236 = .ok (.lcmp, 1) := by decide +kernel
theorem dX8_watchersOf_237 : decode cX8_watchersOf 237 = .ok (.ifCond .ne 24, 3) := by decide +kernel
theorem dX8_watchersOf_240 : decode cX8_watchersOf 240 = .ok (.iload_n 1, 1) := by decide +kernel
theorem dX8_watchersOf_241 : decode cX8_watchersOf 241 = .ok (.ifCond .ne 7, 3) := by decide +kernel
theorem dX8_watchersOf_244 : decode cX8_watchersOf 244 = .ok (.iconst 2, 1) := by decide +kernel
theorem dX8_watchersOf_245 : decode cX8_watchersOf 245 = .ok (.goto 15, 3) := by decide +kernel
theorem dX8_watchersOf_248 : decode cX8_watchersOf 248 = .ok (.iload_n 1, 1) := by decide +kernel
theorem dX8_watchersOf_249 : decode cX8_watchersOf 249 = .ok (.iconst 1, 1) := by decide +kernel
theorem dX8_watchersOf_250 : decode cX8_watchersOf 250 = .ok (.if_icmp .ne 8, 3) := by decide +kernel
theorem dX8_watchersOf_253 : decode cX8_watchersOf 253 = .ok (.iload 4, 2) := by decide +kernel
theorem dX8_watchersOf_255 : decode cX8_watchersOf 255 = .ok (.goto 5, 3) := by decide +kernel
theorem dX8_watchersOf_258 : decode cX8_watchersOf 258 = .ok (.iload 5, 2) := by decide +kernel
theorem dX8_watchersOf_260 : decode cX8_watchersOf 260 = .ok (.ireturn, 1) := by decide +kernel
theorem dX8_watchersOf_261 : decode cX8_watchersOf 261 = .ok (.iinc 5 1, 3) := by decide +kernel
theorem dX8_watchersOf_264 : decode cX8_watchersOf 264 = .ok (.goto (-71), 3) := by decide +kernel
theorem dX8_watchersOf_267 : decode cX8_watchersOf 267 = .ok (.iinc 4 1, 3) := by decide +kernel
theorem dX8_watchersOf_270 : decode cX8_watchersOf 270 = .ok (.goto (-90), 3) := by decide +kernel
theorem dX8_watchersOf_273 : decode cX8_watchersOf 273 = .ok (.iconst (-1), 1) := by decide +kernel
theorem dX8_watchersOf_274 : decode cX8_watchersOf 274 = .ok (.ireturn, 1) := by decide +kernel
theorem iw_X8_watchersOf_X8 : ∀ w ∈ u_ws RX8 TX8 18, w ∈ wsX8_watchersOf := by decide +kernel
theorem lk_X8_watchersOf_0 : Cond.fieldLink RX8 47 (TX8 17).1 (TX8 17).2.1 (TX8 17).2.2.1 ∈ wsX8_watchersOf := by decide +kernel
theorem lk_X8_watchersOf_1 : Cond.fieldLink RX8 31 (TX8 10).1 (TX8 10).2.1 (TX8 10).2.2.1 ∈ wsX8_watchersOf := by decide +kernel
set_option maxRecDepth 100000 in
theorem r_X8_watchersOf_0 {X : Bn} (C : Cx X cX8_watchersOf 6 RX8 wsX8_watchersOf 3 75) (ad : Nat → Nat) (S : MS) (x1 : Int32) (h : At X 6 (mW X.E ad S) 5 [(0, .ref (ad 0)), (1, .int x1), (2, .long 0), (4, .int 0)] []) : At X 6 (mW X.E ad S) 0 [(0, .ref (ad 0)), (1, .int x1)] [] := by
  refine at_lconst C dX8_watchersOf_0 (v := 0) rfl ?_
  refine at_lstore_n C dX8_watchersOf_1 rfl (by decide) (lv' := [(2, .long 0), (0, .ref (ad 0)), (1, .int x1)]) rfl ?_
  refine at_iconst C dX8_watchersOf_2 (v := 0) rfl ?_
  refine at_istore C dX8_watchersOf_3 (by decide) (lv' := [(4, .int 0), (2, .long 0), (0, .ref (ad 0)), (1, .int x1)]) rfl ?_
  refine at_lv [2, 3, 1, 0] rfl ?_
  exact h
set_option maxRecDepth 100000 in
theorem r_X8_watchersOf_5 {X : Bn} (C : Cx X cX8_watchersOf 6 RX8 wsX8_watchersOf 3 75) (ad : Nat → Nat) (S : MS) (x1 : Int32) (x2 : Int64) (x4 : Int32) (h : ((64 ≤ x4) → (((x2 = 0) → (Ends X (some .int) (some (.int (if x1 = 0 then 0 else (-1)))) (mW X.E ad S))) ∧ (¬ x2 = 0 → (At X 6 (mW X.E ad S) 132 [(0, .ref (ad 0)), (1, .int x1), (2, .long x2), (4, .int 0)] [])))) ∧ (¬ 64 ≤ x4 → ((vp_in x4 64) ∧ (At X 6 (mW X.E ad (pv S 0 x4.toNatClampNeg 0)) 23 [(0, .ref (ad 0)), (1, .int x1), (2, .long x2), (4, .int x4), (5, .int 0)] [])))) : At X 6 (mW X.E ad S) 5 [(0, .ref (ad 0)), (1, .int x1), (2, .long x2), (4, .int x4)] [] := by
  refine at_iload C dX8_watchersOf_5 (j := 3) rfl ?_
  refine at_bipush C dX8_watchersOf_7 (v := 64) rfl ?_
  refine at_icmp_ge C dX8_watchersOf_9 (tgt := 113) (by decide) (fun hc0 => ?_) (fun hc0 => ?_)
  · replace h := h.1 hc0
    refine at_lload_n C dX8_watchersOf_113 rfl (j := 2) rfl ?_
    refine at_lconst C dX8_watchersOf_114 (v := 0) rfl ?_
    refine at_lif_ne C dX8_watchersOf_115 dX8_watchersOf_116 (tgt := 129) (by decide) (fun hc1 => ?_) (fun hc1 => ?_)
    · replace h := h.2 hc1
      refine at_iconst C dX8_watchersOf_129 (v := 0) rfl ?_
      refine at_istore C dX8_watchersOf_130 (by decide) (lv' := [(4, .int 0), (0, .ref (ad 0)), (1, .int x1), (2, .long x2)]) rfl ?_
      refine at_lv [1, 2, 3, 0] rfl ?_
      exact h
    · replace h := h.1 hc1
      refine at_iload_n C dX8_watchersOf_119 rfl (j := 1) rfl ?_
      have K : At X 6 (mW X.E ad S) 128 [] [.int (if x1 = 0 then 0 else (-1))] := by
        exact at_iret C dX8_watchersOf_128 h
      refine at_if_ne C dX8_watchersOf_120 (tgt := 127) (by decide) (fun hc2 => ?_) (fun hc2 => ?_)
      · skip
        refine at_iconst C dX8_watchersOf_127 (v := (-1)) rfl ?_
        refine at_lv [] rfl ?_
        first | (simp only [if_neg hc2] at K; exact K) | exact K
      · skip
        refine at_iconst C dX8_watchersOf_123 (v := 0) rfl ?_
        refine at_goto C dX8_watchersOf_124 (tgt := 128) (by decide) ?_
        refine at_lv [] rfl ?_
        first | (simp only [if_pos hc2] at K; exact K) | exact K
  · replace h := h.2 hc0
    refine at_aload_n C dX8_watchersOf_12 rfl (j := 0) rfl ?_
    refine at_get C (K := RX8) (T := TX8) (N := 18) (ci := 7) (v := .ref (ad 13)) iw_X8_watchersOf_X8 0 mW_c0 rfl 17 (by decide) lk_X8_watchersOf_0 rfl dX8_watchersOf_13 ?_
    refine at_iload C dX8_watchersOf_16 (j := 3) rfl ?_
    refine at_lconst C dX8_watchersOf_18 (v := 0) rfl ?_
    refine at_last C 13 mW_c13 h.1 mW_s13 dX8_watchersOf_19 ?_
    replace h := h.2
    refine at_iconst C dX8_watchersOf_20 (v := 0) rfl ?_
    refine at_istore C dX8_watchersOf_21 (by decide) (lv' := [(5, .int 0), (0, .ref (ad 0)), (1, .int x1), (2, .long x2), (4, .int x4)]) rfl ?_
    refine at_lv [1, 2, 3, 4, 0] rfl ?_
    exact h
set_option maxRecDepth 100000 in
theorem r_X8_watchersOf_23 {X : Bn} (C : Cx X cX8_watchersOf 6 RX8 wsX8_watchersOf 3 75) (ad : Nat → Nat) (S : MS) (x1 : Int32) (x2 : Int64) (x4 : Int32) (x5 : Int32) (h : ((64 ≤ x5) → ((vp_in x4 64) ∧ (At X 6 (mW X.E ad S) 5 [(0, .ref (ad 0)), (1, .int x1), (2, .long (x2 ||| (if S.1 10 x4.toNatClampNeg = 0 then 0 else lshl 1 x4))), (4, .int (x4 + 1))] []))) ∧ (¬ 64 ≤ x5 → ((vp_in x4 64) ∧ (((S.1 10 x4.toNatClampNeg = 0) → ((vp_in x4 64) ∧ (At X 6 (mW X.E ad S) 5 [(0, .ref (ad 0)), (1, .int x1), (2, .long (x2 ||| (if S.1 10 x4.toNatClampNeg = 0 then 0 else lshl 1 x4))), (4, .int (x4 + 1))] []))) ∧ (¬ S.1 10 x4.toNatClampNeg = 0 → ((vp_in x4 64) ∧ ((vp_in x5 64) ∧ ((((¬ S.1 10 x5.toNatClampNeg = 0) → (p_X8_stepsTo x4 x5))) ∧ ((vp_in x4 64) ∧ (At X 6 (mW X.E ad (pv S 0 x4.toNatClampNeg ((S.2 0 x4.toNatClampNeg) ||| (if S.1 10 x5.toNatClampNeg = 0 then 0 else (if f_X8_stepsTo S x4 x5 = (-1) then 0 else lshl 1 x5))))) 23 [(0, .ref (ad 0)), (1, .int x1), (2, .long x2), (4, .int x4), (5, .int (x5 + 1))] [])))))))))) : At X 6 (mW X.E ad S) 23 [(0, .ref (ad 0)), (1, .int x1), (2, .long x2), (4, .int x4), (5, .int x5)] [] := by
  refine at_iload C dX8_watchersOf_23 (j := 4) rfl ?_
  refine at_bipush C dX8_watchersOf_25 (v := 64) rfl ?_
  refine at_icmp_ge C dX8_watchersOf_27 (tgt := 86) (by decide) (fun hc2 => ?_) (fun hc2 => ?_)
  · replace h := h.1 hc2
    refine at_lload_n C dX8_watchersOf_86 rfl (j := 2) rfl ?_
    refine at_aload_n C dX8_watchersOf_87 rfl (j := 0) rfl ?_
    refine at_get C (K := RX8) (T := TX8) (N := 18) (ci := 7) (v := .ref (ad 8)) iw_X8_watchersOf_X8 0 mW_c0 rfl 10 (by decide) lk_X8_watchersOf_1 rfl dX8_watchersOf_88 ?_
    refine at_iload C dX8_watchersOf_91 (j := 3) rfl ?_
    refine at_zald C 8 mW_c8 h.1 dX8_watchersOf_93 ?_
    replace h := h.2
    have K : At X 6 (mW X.E ad S) 105 [(0, .ref (ad 0)), (1, .int x1), (4, .int x4)] [.long (if S.1 10 x4.toNatClampNeg = 0 then 0 else lshl 1 x4), .long x2] := by
      refine at_lor C dX8_watchersOf_105 ?_
      refine at_lstore_n C dX8_watchersOf_106 rfl (by decide) (lv' := [(2, .long (x2 ||| (if S.1 10 x4.toNatClampNeg = 0 then 0 else lshl 1 x4))), (0, .ref (ad 0)), (1, .int x1), (4, .int x4)]) rfl ?_
      refine at_iinc C dX8_watchersOf_107 (j := 3) (v := x4 + 1) rfl rfl (by decide) (lv' := [(4, .int (x4 + 1)), (2, .long (x2 ||| (if S.1 10 x4.toNatClampNeg = 0 then 0 else lshl 1 x4))), (0, .ref (ad 0)), (1, .int x1)]) rfl ?_
      refine at_goto C dX8_watchersOf_110 (tgt := 5) (by decide) ?_
      refine at_lv [2, 3, 1, 0] rfl ?_
      exact h
    refine at_if_eq C dX8_watchersOf_94 (tgt := 104) (by decide) (fun hc3 => ?_) (fun hc3 => ?_)
    · skip
      refine at_lconst C dX8_watchersOf_104 (v := 0) rfl ?_
      refine at_lv [0, 1, 3] rfl ?_
      first | (simp only [if_pos hc3] at K; exact K) | exact K
    · skip
      refine at_lconst C dX8_watchersOf_97 (v := 1) rfl ?_
      refine at_iload C dX8_watchersOf_98 (j := 3) rfl ?_
      refine at_lshl C dX8_watchersOf_100 ?_
      refine at_goto C dX8_watchersOf_101 (tgt := 105) (by decide) ?_
      refine at_lv [0, 1, 3] rfl ?_
      first | (simp only [if_neg hc3] at K; exact K) | exact K
  · replace h := h.2 hc2
    refine at_aload_n C dX8_watchersOf_30 rfl (j := 0) rfl ?_
    refine at_get C (K := RX8) (T := TX8) (N := 18) (ci := 7) (v := .ref (ad 8)) iw_X8_watchersOf_X8 0 mW_c0 rfl 10 (by decide) lk_X8_watchersOf_1 rfl dX8_watchersOf_31 ?_
    refine at_iload C dX8_watchersOf_34 (j := 3) rfl ?_
    refine at_zald C 8 mW_c8 h.1 dX8_watchersOf_36 ?_
    replace h := h.2
    refine at_if_eq C dX8_watchersOf_37 (tgt := 86) (by decide) (fun hc3 => ?_) (fun hc3 => ?_)
    · replace h := h.1 hc3
      refine at_lload_n C dX8_watchersOf_86 rfl (j := 2) rfl ?_
      refine at_aload_n C dX8_watchersOf_87 rfl (j := 0) rfl ?_
      refine at_get C (K := RX8) (T := TX8) (N := 18) (ci := 7) (v := .ref (ad 8)) iw_X8_watchersOf_X8 0 mW_c0 rfl 10 (by decide) lk_X8_watchersOf_1 rfl dX8_watchersOf_88 ?_
      refine at_iload C dX8_watchersOf_91 (j := 3) rfl ?_
      refine at_zald C 8 mW_c8 h.1 dX8_watchersOf_93 ?_
      replace h := h.2
      have K : At X 6 (mW X.E ad S) 105 [(0, .ref (ad 0)), (1, .int x1), (4, .int x4)] [.long (if S.1 10 x4.toNatClampNeg = 0 then 0 else lshl 1 x4), .long x2] := by
        refine at_lor C dX8_watchersOf_105 ?_
        refine at_lstore_n C dX8_watchersOf_106 rfl (by decide) (lv' := [(2, .long (x2 ||| (if S.1 10 x4.toNatClampNeg = 0 then 0 else lshl 1 x4))), (0, .ref (ad 0)), (1, .int x1), (4, .int x4)]) rfl ?_
        refine at_iinc C dX8_watchersOf_107 (j := 3) (v := x4 + 1) rfl rfl (by decide) (lv' := [(4, .int (x4 + 1)), (2, .long (x2 ||| (if S.1 10 x4.toNatClampNeg = 0 then 0 else lshl 1 x4))), (0, .ref (ad 0)), (1, .int x1)]) rfl ?_
        refine at_goto C dX8_watchersOf_110 (tgt := 5) (by decide) ?_
        refine at_lv [2, 3, 1, 0] rfl ?_
        exact h
      refine at_if_eq C dX8_watchersOf_94 (tgt := 104) (by decide) (fun hc4 => ?_) (fun hc4 => ?_)
      · skip
        refine at_lconst C dX8_watchersOf_104 (v := 0) rfl ?_
        refine at_lv [0, 1, 3] rfl ?_
        first | (simp only [if_pos hc4] at K; exact K) | exact K
      · skip
        refine at_lconst C dX8_watchersOf_97 (v := 1) rfl ?_
        refine at_iload C dX8_watchersOf_98 (j := 3) rfl ?_
        refine at_lshl C dX8_watchersOf_100 ?_
        refine at_goto C dX8_watchersOf_101 (tgt := 105) (by decide) ?_
        refine at_lv [0, 1, 3] rfl ?_
        first | (simp only [if_neg hc4] at K; exact K) | exact K
    · replace h := h.2 hc3
      refine at_aload_n C dX8_watchersOf_40 rfl (j := 0) rfl ?_
      refine at_get C (K := RX8) (T := TX8) (N := 18) (ci := 7) (v := .ref (ad 13)) iw_X8_watchersOf_X8 0 mW_c0 rfl 17 (by decide) lk_X8_watchersOf_0 rfl dX8_watchersOf_41 ?_
      refine at_iload C dX8_watchersOf_44 (j := 3) rfl ?_
      refine at_dup2_11 C dX8_watchersOf_46 rfl rfl ?_
      refine at_lald C 13 mW_c13 h.1 dX8_watchersOf_47 ?_
      replace h := h.2
      refine at_aload_n C dX8_watchersOf_48 rfl (j := 0) rfl ?_
      refine at_get C (K := RX8) (T := TX8) (N := 18) (ci := 7) (v := .ref (ad 8)) iw_X8_watchersOf_X8 0 mW_c0 rfl 10 (by decide) lk_X8_watchersOf_1 rfl dX8_watchersOf_49 ?_
      refine at_iload C dX8_watchersOf_52 (j := 4) rfl ?_
      refine at_zald C 8 mW_c8 h.1 dX8_watchersOf_54 ?_
      replace h := h.2
      have hq := h.1
      replace h := h.2
      have K : At X 6 (mW X.E ad S) 78 [(0, .ref (ad 0)), (1, .int x1), (2, .long x2), (4, .int x4), (5, .int x5)] [.long (if S.1 10 x5.toNatClampNeg = 0 then 0 else (if f_X8_stepsTo S x4 x5 = (-1) then 0 else lshl 1 x5)), .long (S.2 0 x4.toNatClampNeg), .int x4, .ref (ad 13)] := by
        refine at_lor C dX8_watchersOf_78 ?_
        refine at_last C 13 mW_c13 h.1 mW_s13 dX8_watchersOf_79 ?_
        replace h := h.2
        refine at_iinc C dX8_watchersOf_80 (j := 4) (v := x5 + 1) rfl rfl (by decide) (lv' := [(5, .int (x5 + 1)), (0, .ref (ad 0)), (1, .int x1), (2, .long x2), (4, .int x4)]) rfl ?_
        refine at_goto C dX8_watchersOf_83 (tgt := 23) (by decide) ?_
        refine at_lv [1, 2, 3, 4, 0] rfl ?_
        exact h
      replace h := hq
      refine at_if_eq C dX8_watchersOf_55 (tgt := 77) (by decide) (fun hc4 => ?_) (fun hc4 => ?_)
      · skip
        refine at_lconst C dX8_watchersOf_77 (v := 0) rfl ?_
        first | (simp only [if_pos hc4] at K; exact K) | exact K
      · replace h := h hc4
        refine at_aload_n C dX8_watchersOf_58 rfl (j := 0) rfl ?_
        refine at_iload C dX8_watchersOf_59 (j := 3) rfl ?_
        refine at_iload C dX8_watchersOf_61 (j := 4) rfl ?_
        refine at_cV1 C 2 (c_X8_stepsTo X.l X.D X.E X.a1 X.a2 ad S x4 x5 h) gX8_watchersOf_X8_stepsTo rfl (by decide +kernel) ⟨rfl, rfl⟩ rfl rfl rfl 0 mW_c0 rfl dX8_watchersOf_63 ?_
        refine at_iconst C dX8_watchersOf_66 (v := (-1)) rfl ?_
        refine at_icmp_eq C dX8_watchersOf_67 (tgt := 77) (by decide) (fun hc5 => ?_) (fun hc5 => ?_)
        · skip
          refine at_lconst C dX8_watchersOf_77 (v := 0) rfl ?_
          first | (simp only [if_neg hc4, if_pos hc5] at K; exact K) | exact K
        · skip
          refine at_lconst C dX8_watchersOf_70 (v := 1) rfl ?_
          refine at_iload C dX8_watchersOf_71 (j := 4) rfl ?_
          refine at_lshl C dX8_watchersOf_73 ?_
          refine at_goto C dX8_watchersOf_74 (tgt := 78) (by decide) ?_
          first | (simp only [if_neg hc4, if_neg hc5] at K; exact K) | exact K
set_option maxRecDepth 100000 in
theorem r_X8_watchersOf_132 {X : Bn} (C : Cx X cX8_watchersOf 6 RX8 wsX8_watchersOf 3 75) (ad : Nat → Nat) (S : MS) (x1 : Int32) (x2 : Int64) (x4 : Int32) (h : ((64 ≤ x4) → (At X 6 (mW X.E ad S) 180 [(0, .ref (ad 0)), (1, .int x1), (2, .long x2), (4, .int 0)] [])) ∧ (¬ 64 ≤ x4 → ((vp_in x4 64) ∧ (((S.2 0 x4.toNatClampNeg = x2) → (Ends X (some .int) (some (.int (if x1 = 0 then 1 else (if x1 = 1 then x4 else (-1))))) (mW X.E ad S))) ∧ (¬ S.2 0 x4.toNatClampNeg = x2 → (At X 6 (mW X.E ad S) 132 [(0, .ref (ad 0)), (1, .int x1), (2, .long x2), (4, .int (x4 + 1))] [])))))) : At X 6 (mW X.E ad S) 132 [(0, .ref (ad 0)), (1, .int x1), (2, .long x2), (4, .int x4)] [] := by
  refine at_iload C dX8_watchersOf_132 (j := 3) rfl ?_
  refine at_bipush C dX8_watchersOf_134 (v := 64) rfl ?_
  refine at_icmp_ge C dX8_watchersOf_136 (tgt := 177) (by decide) (fun hc4 => ?_) (fun hc4 => ?_)
  · replace h := h.1 hc4
    refine at_iconst C dX8_watchersOf_177 (v := 0) rfl ?_
    refine at_istore C dX8_watchersOf_178 (by decide) (lv' := [(4, .int 0), (0, .ref (ad 0)), (1, .int x1), (2, .long x2)]) rfl ?_
    refine at_lv [1, 2, 3, 0] rfl ?_
    exact h
  · replace h := h.2 hc4
    refine at_aload_n C dX8_watchersOf_139 rfl (j := 0) rfl ?_
    refine at_get C (K := RX8) (T := TX8) (N := 18) (ci := 7) (v := .ref (ad 13)) iw_X8_watchersOf_X8 0 mW_c0 rfl 17 (by decide) lk_X8_watchersOf_0 rfl dX8_watchersOf_140 ?_
    refine at_iload C dX8_watchersOf_143 (j := 3) rfl ?_
    refine at_lald C 13 mW_c13 h.1 dX8_watchersOf_145 ?_
    replace h := h.2
    refine at_lload_n C dX8_watchersOf_146 rfl (j := 2) rfl ?_
    refine at_lif_ne C dX8_watchersOf_147 dX8_watchersOf_148 (tgt := 171) (by decide) (fun hc5 => ?_) (fun hc5 => ?_)
    · replace h := h.2 hc5
      refine at_iinc C dX8_watchersOf_171 (j := 3) (v := x4 + 1) rfl rfl (by decide) (lv' := [(4, .int (x4 + 1)), (0, .ref (ad 0)), (1, .int x1), (2, .long x2)]) rfl ?_
      refine at_goto C dX8_watchersOf_174 (tgt := 132) (by decide) ?_
      refine at_lv [1, 2, 3, 0] rfl ?_
      exact h
    · replace h := h.1 hc5
      refine at_iload_n C dX8_watchersOf_151 rfl (j := 1) rfl ?_
      have K : At X 6 (mW X.E ad S) 170 [] [.int (if x1 = 0 then 1 else (if x1 = 1 then x4 else (-1)))] := by
        exact at_iret C dX8_watchersOf_170 h
      refine at_if_ne C dX8_watchersOf_152 (tgt := 159) (by decide) (fun hc6 => ?_) (fun hc6 => ?_)
      · skip
        refine at_iload_n C dX8_watchersOf_159 rfl (j := 1) rfl ?_
        refine at_iconst C dX8_watchersOf_160 (v := 1) rfl ?_
        refine at_icmp_ne C dX8_watchersOf_161 (tgt := 169) (by decide) (fun hc7 => ?_) (fun hc7 => ?_)
        · skip
          refine at_iconst C dX8_watchersOf_169 (v := (-1)) rfl ?_
          refine at_lv [] rfl ?_
          first | (simp only [if_neg hc6, if_neg hc7] at K; exact K) | exact K
        · skip
          refine at_iload C dX8_watchersOf_164 (j := 3) rfl ?_
          refine at_goto C dX8_watchersOf_166 (tgt := 170) (by decide) ?_
          refine at_lv [] rfl ?_
          first | (simp only [if_neg hc6, if_pos hc7] at K; exact K) | exact K
      · skip
        refine at_iconst C dX8_watchersOf_155 (v := 1) rfl ?_
        refine at_goto C dX8_watchersOf_156 (tgt := 170) (by decide) ?_
        refine at_lv [] rfl ?_
        first | (simp only [if_pos hc6] at K; exact K) | exact K
set_option maxRecDepth 100000 in
theorem r_X8_watchersOf_180 {X : Bn} (C : Cx X cX8_watchersOf 6 RX8 wsX8_watchersOf 3 75) (ad : Nat → Nat) (S : MS) (x1 : Int32) (x2 : Int64) (x4 : Int32) (h : ((64 ≤ x4) → (Ends X (some .int) (some (.int (-1))) (mW X.E ad S))) ∧ (¬ 64 ≤ x4 → (At X 6 (mW X.E ad S) 193 [(0, .ref (ad 0)), (1, .int x1), (2, .long x2), (4, .int x4), (5, .int (x4 + 1))] []))) : At X 6 (mW X.E ad S) 180 [(0, .ref (ad 0)), (1, .int x1), (2, .long x2), (4, .int x4)] [] := by
  refine at_iload C dX8_watchersOf_180 (j := 3) rfl ?_
  refine at_bipush C dX8_watchersOf_182 (v := 64) rfl ?_
  refine at_icmp_ge C dX8_watchersOf_184 (tgt := 273) (by decide) (fun hc6 => ?_) (fun hc6 => ?_)
  · replace h := h.1 hc6
    refine at_iconst C dX8_watchersOf_273 (v := (-1)) rfl ?_
    exact at_iret C dX8_watchersOf_274 h
  · replace h := h.2 hc6
    refine at_iload C dX8_watchersOf_187 (j := 3) rfl ?_
    refine at_iconst C dX8_watchersOf_189 (v := 1) rfl ?_
    refine at_iadd C dX8_watchersOf_190 ?_
    refine at_istore C dX8_watchersOf_191 (by decide) (lv' := [(5, .int (x4 + 1)), (0, .ref (ad 0)), (1, .int x1), (2, .long x2), (4, .int x4)]) rfl ?_
    refine at_lv [1, 2, 3, 4, 0] rfl ?_
    exact h
set_option maxRecDepth 100000 in
theorem r_X8_watchersOf_193 {X : Bn} (C : Cx X cX8_watchersOf 6 RX8 wsX8_watchersOf 3 75) (ad : Nat → Nat) (S : MS) (x1 : Int32) (x2 : Int64) (x4 : Int32) (x5 : Int32) (h : ((64 ≤ x5) → (At X 6 (mW X.E ad S) 180 [(0, .ref (ad 0)), (1, .int x1), (2, .long x2), (4, .int (x4 + 1))] [])) ∧ (¬ 64 ≤ x5 → ((vp_in x4 64) ∧ (((S.1 10 x4.toNatClampNeg = 0) → (At X 6 (mW X.E ad S) 193 [(0, .ref (ad 0)), (1, .int x1), (2, .long x2), (4, .int x4), (5, .int (x5 + 1))] [])) ∧ (¬ S.1 10 x4.toNatClampNeg = 0 → ((vp_in x5 64) ∧ (((S.1 10 x5.toNatClampNeg = 0) → (At X 6 (mW X.E ad S) 193 [(0, .ref (ad 0)), (1, .int x1), (2, .long x2), (4, .int x4), (5, .int (x5 + 1))] [])) ∧ (¬ S.1 10 x5.toNatClampNeg = 0 → ((vp_in x4 64) ∧ ((vp_in x5 64) ∧ ((((S.2 0 x4.toNatClampNeg) ||| (S.2 0 x5.toNatClampNeg) = x2) → (Ends X (some .int) (some (.int (if x1 = 0 then 2 else (if x1 = 1 then x4 else x5)))) (mW X.E ad S))) ∧ (¬ (S.2 0 x4.toNatClampNeg) ||| (S.2 0 x5.toNatClampNeg) = x2 → (At X 6 (mW X.E ad S) 193 [(0, .ref (ad 0)), (1, .int x1), (2, .long x2), (4, .int x4), (5, .int (x5 + 1))] []))))))))))))) : At X 6 (mW X.E ad S) 193 [(0, .ref (ad 0)), (1, .int x1), (2, .long x2), (4, .int x4), (5, .int x5)] [] := by
  refine at_iload C dX8_watchersOf_193 (j := 4) rfl ?_
  refine at_bipush C dX8_watchersOf_195 (v := 64) rfl ?_
  refine at_icmp_ge C dX8_watchersOf_197 (tgt := 267) (by decide) (fun hc7 => ?_) (fun hc7 => ?_)
  · replace h := h.1 hc7
    refine at_iinc C dX8_watchersOf_267 (j := 3) (v := x4 + 1) rfl rfl (by decide) (lv' := [(4, .int (x4 + 1)), (0, .ref (ad 0)), (1, .int x1), (2, .long x2), (5, .int x5)]) rfl ?_
    refine at_goto C dX8_watchersOf_270 (tgt := 180) (by decide) ?_
    refine at_lv [1, 2, 3, 0] rfl ?_
    exact h
  · replace h := h.2 hc7
    refine at_aload_n C dX8_watchersOf_200 rfl (j := 0) rfl ?_
    refine at_get C (K := RX8) (T := TX8) (N := 18) (ci := 7) (v := .ref (ad 8)) iw_X8_watchersOf_X8 0 mW_c0 rfl 10 (by decide) lk_X8_watchersOf_1 rfl dX8_watchersOf_201 ?_
    refine at_iload C dX8_watchersOf_204 (j := 3) rfl ?_
    refine at_zald C 8 mW_c8 h.1 dX8_watchersOf_206 ?_
    replace h := h.2
    refine at_if_eq C dX8_watchersOf_207 (tgt := 261) (by decide) (fun hc8 => ?_) (fun hc8 => ?_)
    · replace h := h.1 hc8
      refine at_iinc C dX8_watchersOf_261 (j := 4) (v := x5 + 1) rfl rfl (by decide) (lv' := [(5, .int (x5 + 1)), (0, .ref (ad 0)), (1, .int x1), (2, .long x2), (4, .int x4)]) rfl ?_
      refine at_goto C dX8_watchersOf_264 (tgt := 193) (by decide) ?_
      refine at_lv [1, 2, 3, 4, 0] rfl ?_
      exact h
    · replace h := h.2 hc8
      refine at_aload_n C dX8_watchersOf_210 rfl (j := 0) rfl ?_
      refine at_get C (K := RX8) (T := TX8) (N := 18) (ci := 7) (v := .ref (ad 8)) iw_X8_watchersOf_X8 0 mW_c0 rfl 10 (by decide) lk_X8_watchersOf_1 rfl dX8_watchersOf_211 ?_
      refine at_iload C dX8_watchersOf_214 (j := 4) rfl ?_
      refine at_zald C 8 mW_c8 h.1 dX8_watchersOf_216 ?_
      replace h := h.2
      refine at_if_eq C dX8_watchersOf_217 (tgt := 261) (by decide) (fun hc9 => ?_) (fun hc9 => ?_)
      · replace h := h.1 hc9
        refine at_iinc C dX8_watchersOf_261 (j := 4) (v := x5 + 1) rfl rfl (by decide) (lv' := [(5, .int (x5 + 1)), (0, .ref (ad 0)), (1, .int x1), (2, .long x2), (4, .int x4)]) rfl ?_
        refine at_goto C dX8_watchersOf_264 (tgt := 193) (by decide) ?_
        refine at_lv [1, 2, 3, 4, 0] rfl ?_
        exact h
      · replace h := h.2 hc9
        refine at_aload_n C dX8_watchersOf_220 rfl (j := 0) rfl ?_
        refine at_get C (K := RX8) (T := TX8) (N := 18) (ci := 7) (v := .ref (ad 13)) iw_X8_watchersOf_X8 0 mW_c0 rfl 17 (by decide) lk_X8_watchersOf_0 rfl dX8_watchersOf_221 ?_
        refine at_iload C dX8_watchersOf_224 (j := 3) rfl ?_
        refine at_lald C 13 mW_c13 h.1 dX8_watchersOf_226 ?_
        replace h := h.2
        refine at_aload_n C dX8_watchersOf_227 rfl (j := 0) rfl ?_
        refine at_get C (K := RX8) (T := TX8) (N := 18) (ci := 7) (v := .ref (ad 13)) iw_X8_watchersOf_X8 0 mW_c0 rfl 17 (by decide) lk_X8_watchersOf_0 rfl dX8_watchersOf_228 ?_
        refine at_iload C dX8_watchersOf_231 (j := 4) rfl ?_
        refine at_lald C 13 mW_c13 h.1 dX8_watchersOf_233 ?_
        replace h := h.2
        refine at_lor C dX8_watchersOf_234 ?_
        refine at_lload_n C dX8_watchersOf_235 rfl (j := 2) rfl ?_
        refine at_lif_ne C dX8_watchersOf_236 dX8_watchersOf_237 (tgt := 261) (by decide) (fun hc10 => ?_) (fun hc10 => ?_)
        · replace h := h.2 hc10
          refine at_iinc C dX8_watchersOf_261 (j := 4) (v := x5 + 1) rfl rfl (by decide) (lv' := [(5, .int (x5 + 1)), (0, .ref (ad 0)), (1, .int x1), (2, .long x2), (4, .int x4)]) rfl ?_
          refine at_goto C dX8_watchersOf_264 (tgt := 193) (by decide) ?_
          refine at_lv [1, 2, 3, 4, 0] rfl ?_
          exact h
        · replace h := h.1 hc10
          refine at_iload_n C dX8_watchersOf_240 rfl (j := 1) rfl ?_
          have K : At X 6 (mW X.E ad S) 260 [] [.int (if x1 = 0 then 2 else (if x1 = 1 then x4 else x5))] := by
            exact at_iret C dX8_watchersOf_260 h
          refine at_if_ne C dX8_watchersOf_241 (tgt := 248) (by decide) (fun hc11 => ?_) (fun hc11 => ?_)
          · skip
            refine at_iload_n C dX8_watchersOf_248 rfl (j := 1) rfl ?_
            refine at_iconst C dX8_watchersOf_249 (v := 1) rfl ?_
            refine at_icmp_ne C dX8_watchersOf_250 (tgt := 258) (by decide) (fun hc12 => ?_) (fun hc12 => ?_)
            · skip
              refine at_iload C dX8_watchersOf_258 (j := 4) rfl ?_
              refine at_lv [] rfl ?_
              first | (simp only [if_neg hc11, if_neg hc12] at K; exact K) | exact K
            · skip
              refine at_iload C dX8_watchersOf_253 (j := 3) rfl ?_
              refine at_goto C dX8_watchersOf_255 (tgt := 260) (by decide) ?_
              refine at_lv [] rfl ?_
              first | (simp only [if_neg hc11, if_pos hc12] at K; exact K) | exact K
          · skip
            refine at_iconst C dX8_watchersOf_244 (v := 2) rfl ?_
            refine at_goto C dX8_watchersOf_245 (tgt := 260) (by decide) ?_
            refine at_lv [] rfl ?_
            first | (simp only [if_pos hc11] at K; exact K) | exact K
set_option maxRecDepth 20000 in
theorem ggX8_comes_X8_in : GoodIn wsX8_comes wsX8_in := goodIn_r _ [9] (by decide +kernel) (by decide +kernel)
set_option maxRecDepth 20000 in
theorem gX8_comes_X8_in : GoodIn wsX8_comes (va_wsS RX8 53 yX8_in wsX8_in) := goodIn_app (goodIn_of _ (by decide +kernel)) ggX8_comes_X8_in
set_option maxRecDepth 20000 in
theorem ggX8_comes_X8_turned : GoodIn wsX8_comes wsX8_turned := goodIn_r _ [12, 13, 14, 8, 15, 16, 17, 18] (by decide +kernel) (by decide +kernel)
set_option maxRecDepth 20000 in
theorem gX8_comes_X8_turned : GoodIn wsX8_comes (va_wsS RX8 132 yX8_turned wsX8_turned) := goodIn_app (goodIn_of _ (by decide +kernel)) ggX8_comes_X8_turned
set_option maxRecDepth 20000 in
theorem ggX8_comes_X8_canStand : GoodIn wsX8_comes wsX8_canStand := goodIn_r _ [22, 23, 16, 17, 8, 18, 24, 25, 26, 27, 28, 29, 30, 31, 32, 33, 34, 35, 36, 37, 38, 39, 40, 41, 42, 43, 44] (by decide +kernel) (by decide +kernel)
set_option maxRecDepth 20000 in
theorem gX8_comes_X8_canStand : GoodIn wsX8_comes (wsV RX8 192 RX8 yX8_canStand wsX8_canStand) := goodIn_app (goodIn_of _ (by decide +kernel)) ggX8_comes_X8_canStand
theorem dX8_comes_0 : decode cX8_comes 0 = .ok (.iload_n 3, 1) := by decide +kernel
theorem dX8_comes_1 : decode cX8_comes 1 = .ok (.i2l, 1) := by decide +kernel
theorem dX8_comes_2 : decode cX8_comes 2 = .ok (.lconst 0, 1) := by decide +kernel
theorem dX8_comes_3 : decode cX8_comes 3 = .ok (.ldc2_w 195, 3) := by decide +kernel
theorem dX8_comes_6 : decode cX8_comes 6 = .ok (.invokestatic 53, 3) := by decide +kernel
theorem dX8_comes_9 : decode cX8_comes 9 = .ok (.ifCond .eq 95, 3) := by decide +kernel
theorem dX8_comes_12 : decode cX8_comes 12 = .ok (.iload 4, 2) := by decide +kernel
theorem dX8_comes_14 : decode cX8_comes 14 = .ok (.i2l, 1) := by decide +kernel
theorem dX8_comes_15 : decode cX8_comes 15 = .ok (.lconst 0, 1) := by decide +kernel
theorem dX8_comes_16 : decode cX8_comes 16 = .ok (.ldc2_w 195, 3) := by decide +kernel
theorem dX8_comes_19 : decode cX8_comes 19 = .ok (.invokestatic 53, 3) := by decide +kernel
theorem dX8_comes_22 : decode cX8_comes 22 = .ok (.ifCond .eq 82, 3) := by decide +kernel
theorem dX8_comes_25 : decode cX8_comes 25 = .ok (.bipush 64, 2) := by decide +kernel
theorem dX8_comes_27 : decode cX8_comes 27 = .ok (.iload_n 2, 1) := by decide +kernel
theorem dX8_comes_28 : decode cX8_comes 28 = .ok (.imul, 1) := by decide +kernel
theorem dX8_comes_29 : decode cX8_comes 29 = .ok (.bipush 8, 2) := by decide +kernel
theorem dX8_comes_31 : decode cX8_comes 31 = .ok (.iload_n 3, 1) := by decide +kernel
theorem dX8_comes_32 : decode cX8_comes 32 = .ok (.imul, 1) := by decide +kernel
theorem dX8_comes_33 : decode cX8_comes 33 = .ok (.iadd, 1) := by decide +kernel
theorem dX8_comes_34 : decode cX8_comes 34 = .ok (.iload 4, 2) := by decide +kernel
theorem dX8_comes_36 : decode cX8_comes 36 = .ok (.iadd, 1) := by decide +kernel
theorem dX8_comes_37 : decode cX8_comes 37 = .ok (.istore 6, 2) := by decide +kernel
theorem dX8_comes_39 : decode cX8_comes 39 = .ok (.aload_n 0, 1) := by decide +kernel
theorem dX8_comes_40 : decode cX8_comes 40 = .ok (.getfield 35, 3) := by decide +kernel
theorem dX8_comes_43 : decode cX8_comes 43 = .ok (.iload 6, 2) := by decide +kernel
theorem dX8_comes_45 : decode cX8_comes 45 = .ok (.iaload, 1) := by decide +kernel
theorem dX8_comes_46 : decode cX8_comes 46 = .ok (.iconst (-1), 1) := by decide +kernel
theorem dX8_comes_47 : decode cX8_comes 47 = .ok (.if_icmp .ne 57, 3) := by decide +kernel
theorem dX8_comes_50 : decode cX8_comes 50 = .ok (.aload_n 0, 1) := by decide +kernel
theorem dX8_comes_51 : decode cX8_comes 51 = .ok (.aload_n 0, 1) := by decide +kernel
theorem dX8_comes_52 : decode cX8_comes 52 = .ok (.getfield 28, 3) := by decide +kernel
theorem dX8_comes_55 : decode cX8_comes 55 = .ok (.iload_n 1, 1) := by decide +kernel
theorem dX8_comes_56 : decode cX8_comes 56 = .ok (.iaload, 1) := by decide +kernel
theorem dX8_comes_57 : decode cX8_comes 57 = .ok (.iload_n 2, 1) := by decide +kernel
theorem dX8_comes_58 : decode cX8_comes 58 = .ok (.invokestatic 132, 3) := by decide +kernel
theorem dX8_comes_61 : decode cX8_comes 61 = .ok (.bipush 8, 2) := by decide +kernel
theorem dX8_comes_63 : decode cX8_comes 63 = .ok (.iload_n 3, 1) := by decide +kernel
theorem dX8_comes_64 : decode cX8_comes 64 = .ok (.imul, 1) := by decide +kernel
theorem dX8_comes_65 : decode cX8_comes 65 = .ok (.iload 4, 2) := by decide +kernel
theorem dX8_comes_67 : decode cX8_comes 67 = .ok (.iadd, 1) := by decide +kernel
theorem dX8_comes_68 : decode cX8_comes 68 = .ok (.invokevirtual 192, 3) := by decide +kernel
theorem dX8_comes_71 : decode cX8_comes 71 = .ok (.ifCond .eq 33, 3) := by decide +kernel
theorem dX8_comes_74 : decode cX8_comes 74 = .ok (.aload_n 0, 1) := by decide +kernel
theorem dX8_comes_75 : decode cX8_comes 75 = .ok (.getfield 35, 3) := by decide +kernel
theorem dX8_comes_78 : decode cX8_comes 78 = .ok (.iload 6, 2) := by decide +kernel
theorem dX8_comes_80 : decode cX8_comes 80 = .ok (.iload 5, 2) := by decide +kernel
theorem dX8_comes_82 : decode cX8_comes 82 = .ok (.iastore, 1) := by decide +kernel
theorem dX8_comes_83 : decode cX8_comes 83 = .ok (.aload_n 0, 1) := by decide +kernel
theorem dX8_comes_84 : decode cX8_comes 84 = .ok (.getfield 38, 3) := by decide +kernel
theorem dX8_comes_87 : decode cX8_comes 87 = .ok (.aload_n 0, 1) := by decide +kernel
theorem dX8_comes_88 : decode cX8_comes 88 = .ok (.getfield 197, 3) := by decide +kernel
theorem dX8_comes_91 : decode cX8_comes 91 = .ok (.iload 6, 2) := by decide +kernel
theorem dX8_comes_93 : decode cX8_comes 93 = .ok (.iastore, 1) := by decide +kernel
theorem dX8_comes_94 : decode cX8_comes 94 = .ok (.aload_n 0, 1) := by decide +kernel
theorem dX8_comes_95 : decode cX8_comes 95 = .ok (.dup, 1) := by decide +kernel
theorem dX8_comes_96 : decode cX8_comes 96 = .ok (.getfield 197, 3) := by decide +kernel
theorem dX8_comes_99 : decode cX8_comes 99 = .ok (.iconst 1, 1) := by decide +kernel
theorem dX8_comes_100 : decode cX8_comes 100 = .ok (.iadd, 1) := by decide +kernel
theorem dX8_comes_101 : decode cX8_comes 101 = .ok (.putfield 197, 3) := by decide +kernel
theorem dX8_comes_104 : decode cX8_comes 104 = .ok (.return_, 1) := by decide +kernel
theorem iw_X8_comes_X8 : ∀ w ∈ u_ws RX8 TX8 18, w ∈ wsX8_comes := by decide +kernel
theorem lk_X8_comes_0 : Cond.constantLong RX8 195 7 ∈ wsX8_comes := by decide +kernel
theorem lk_X8_comes_1 : Cond.fieldLink RX8 35 (TX8 11).1 (TX8 11).2.1 (TX8 11).2.2.1 ∈ wsX8_comes := by decide +kernel
theorem lk_X8_comes_2 : Cond.fieldLink RX8 28 (TX8 9).1 (TX8 9).2.1 (TX8 9).2.2.1 ∈ wsX8_comes := by decide +kernel
theorem lk_X8_comes_3 : Cond.fieldLink RX8 38 (TX8 12).1 (TX8 12).2.1 (TX8 12).2.2.1 ∈ wsX8_comes := by decide +kernel
theorem lk_X8_comes_4 : Cond.fieldLink RX8 197 (TX8 13).1 (TX8 13).2.1 (TX8 13).2.2.1 ∈ wsX8_comes := by decide +kernel
set_option maxRecDepth 100000 in
theorem r_X8_comes_0 {X : Bn} (C : Cx X cX8_comes 7 RX8 wsX8_comes 3 67) (ad : Nat → Nat) (S : MS) (x1 : Int32) (x2 : Int32) (x3 : Int32) (x4 : Int32) (x5 : Int32) (h : ((((f_X8_in x3.toInt64 (0 : Int64) (7 : Int64)) = true) → (((f_X8_in x4.toInt64 (0 : Int64) (7 : Int64)) = true) → (vp_in (((64 * x2) + (8 * x3)) + x4) 256) ∧ ((S.1 11 ((((64 * x2) + (8 * x3)) + x4).toNatClampNeg) = (-1)) → (vp_in x1 8) ∧ (p_X8_canStand ((8 * x3) + x4)) ∧ (((f_X8_canStand S (f_X8_turned (S.1 9 x1.toNatClampNeg) x2) ((8 * x3) + x4)) = true) → (vp_in (((64 * x2) + (8 * x3)) + x4) 256) ∧ (vp_in (S.1 13 0) 256)))))) ∧ (Ends X (none) none (mW X.E ad (if (f_X8_in x3.toInt64 (0 : Int64) (7 : Int64)) then (if (f_X8_in x4.toInt64 (0 : Int64) (7 : Int64)) then (if S.1 11 ((((64 * x2) + (8 * x3)) + x4).toNatClampNeg) = (-1) then (if (f_X8_canStand S (f_X8_turned (S.1 9 x1.toNatClampNeg) x2) ((8 * x3) + x4)) then (pg (pg (pg S 11 ((((64 * x2) + (8 * x3)) + x4).toNatClampNeg) x5) 12 ((S.1 13 0).toNatClampNeg) (((64 * x2) + (8 * x3)) + x4)) 13 0 ((S.1 13 0) + 1)) else S) else S) else S) else S)))) : At X 7 (mW X.E ad S) 0 [(0, .ref (ad 0)), (1, .int x1), (2, .int x2), (3, .int x3), (4, .int x4), (5, .int x5)] [] := by
  refine at_iload_n C dX8_comes_0 rfl (j := 3) rfl ?_
  refine at_i2l C dX8_comes_1 ?_
  refine at_lconst C dX8_comes_2 (v := 0) rfl ?_
  refine at_ldc2 C lk_X8_comes_0 dX8_comes_3 ?_
  refine at_cS0 C 3 (c_X8_in X.l X.D X.E X.a1 X.a2 x3.toInt64 (0 : Int64) (7 : Int64)) gX8_comes_X8_in rfl (by decide +kernel) ⟨rfl, rfl⟩ rfl rfl rfl dX8_comes_6 ?_
  have hq := h.1
  replace h := h.2
  have K : At X 7 (mW X.E ad (if (f_X8_in x3.toInt64 (0 : Int64) (7 : Int64)) then (if (f_X8_in x4.toInt64 (0 : Int64) (7 : Int64)) then (if S.1 11 ((((64 * x2) + (8 * x3)) + x4).toNatClampNeg) = (-1) then (if (f_X8_canStand S (f_X8_turned (S.1 9 x1.toNatClampNeg) x2) ((8 * x3) + x4)) then (pg (pg (pg S 11 ((((64 * x2) + (8 * x3)) + x4).toNatClampNeg) x5) 12 ((S.1 13 0).toNatClampNeg) (((64 * x2) + (8 * x3)) + x4)) 13 0 ((S.1 13 0) + 1)) else S) else S) else S) else S)) 104 [] [] := by
    exact at_vret C dX8_comes_104 h
  replace h := hq
  refine at_ifB_eq C dX8_comes_9 (tgt := 104) (by decide) (fun hc0 => ?_) (fun hc0 => ?_)
  · skip
    refine at_lv [] rfl ?_
    first | (simp only [if_neg (show ¬ (f_X8_in x3.toInt64 (0 : Int64) (7 : Int64)) = true by rw [hc0]; decide)] at K; exact K) | exact K
  · replace h := h hc0
    refine at_iload C dX8_comes_12 (j := 4) rfl ?_
    refine at_i2l C dX8_comes_14 ?_
    refine at_lconst C dX8_comes_15 (v := 0) rfl ?_
    refine at_ldc2 C lk_X8_comes_0 dX8_comes_16 ?_
    refine at_cS0 C 3 (c_X8_in X.l X.D X.E X.a1 X.a2 x4.toInt64 (0 : Int64) (7 : Int64)) gX8_comes_X8_in rfl (by decide +kernel) ⟨rfl, rfl⟩ rfl rfl rfl dX8_comes_19 ?_
    refine at_ifB_eq C dX8_comes_22 (tgt := 104) (by decide) (fun hc1 => ?_) (fun hc1 => ?_)
    · skip
      refine at_lv [] rfl ?_
      first | (simp only [if_pos hc0, if_neg (show ¬ (f_X8_in x4.toInt64 (0 : Int64) (7 : Int64)) = true by rw [hc1]; decide)] at K; exact K) | exact K
    · replace h := h hc1
      refine at_bipush C dX8_comes_25 (v := 64) rfl ?_
      refine at_iload_n C dX8_comes_27 rfl (j := 2) rfl ?_
      refine at_imul C dX8_comes_28 ?_
      refine at_bipush C dX8_comes_29 (v := 8) rfl ?_
      refine at_iload_n C dX8_comes_31 rfl (j := 3) rfl ?_
      refine at_imul C dX8_comes_32 ?_
      refine at_iadd C dX8_comes_33 ?_
      refine at_iload C dX8_comes_34 (j := 4) rfl ?_
      refine at_iadd C dX8_comes_36 ?_
      refine at_istore C dX8_comes_37 (by decide) (lv' := [(6, .int (((64 * x2) + (8 * x3)) + x4)), (0, .ref (ad 0)), (1, .int x1), (2, .int x2), (3, .int x3), (4, .int x4), (5, .int x5)]) rfl ?_
      refine at_aload_n C dX8_comes_39 rfl (j := 1) rfl ?_
      refine at_get C (K := RX8) (T := TX8) (N := 18) (ci := 7) (v := .ref (ad 9)) iw_X8_comes_X8 0 mW_c0 rfl 11 (by decide) lk_X8_comes_1 rfl dX8_comes_40 ?_
      refine at_iload C dX8_comes_43 (j := 0) rfl ?_
      refine at_iald C 9 mW_c9 h.1 dX8_comes_45 ?_
      replace h := h.2
      refine at_iconst C dX8_comes_46 (v := (-1)) rfl ?_
      refine at_icmp_ne C dX8_comes_47 (tgt := 104) (by decide) (fun hc2 => ?_) (fun hc2 => ?_)
      · skip
        refine at_lv [] rfl ?_
        first | (simp only [if_pos hc0, if_pos hc1, if_neg hc2] at K; exact K) | exact K
      · replace h := h hc2
        refine at_aload_n C dX8_comes_50 rfl (j := 1) rfl ?_
        refine at_aload_n C dX8_comes_51 rfl (j := 1) rfl ?_
        refine at_get C (K := RX8) (T := TX8) (N := 18) (ci := 7) (v := .ref (ad 7)) iw_X8_comes_X8 0 mW_c0 rfl 9 (by decide) lk_X8_comes_2 rfl dX8_comes_52 ?_
        refine at_iload_n C dX8_comes_55 rfl (j := 2) rfl ?_
        refine at_iald C 7 mW_c7 h.1 dX8_comes_56 ?_
        replace h := h.2
        refine at_iload_n C dX8_comes_57 rfl (j := 3) rfl ?_
        refine at_cS0 C 2 (c_X8_turned X.l X.D X.E X.a1 X.a2 (S.1 9 x1.toNatClampNeg) x2) gX8_comes_X8_turned rfl (by decide +kernel) ⟨rfl, rfl⟩ rfl rfl rfl dX8_comes_58 ?_
        refine at_bipush C dX8_comes_61 (v := 8) rfl ?_
        refine at_iload_n C dX8_comes_63 rfl (j := 4) rfl ?_
        refine at_imul C dX8_comes_64 ?_
        refine at_iload C dX8_comes_65 (j := 5) rfl ?_
        refine at_iadd C dX8_comes_67 ?_
        refine at_cV1 C 2 (c_X8_canStand X.l X.D X.E X.a1 X.a2 ad S (f_X8_turned (S.1 9 x1.toNatClampNeg) x2) ((8 * x3) + x4) h.1) gX8_comes_X8_canStand rfl (by decide +kernel) ⟨rfl, rfl⟩ rfl rfl rfl 0 mW_c0 rfl dX8_comes_68 ?_
        replace h := h.2
        refine at_ifB_eq C dX8_comes_71 (tgt := 104) (by decide) (fun hc3 => ?_) (fun hc3 => ?_)
        · skip
          refine at_lv [] rfl ?_
          first | (simp only [if_pos hc0, if_pos hc1, if_pos hc2, if_neg (show ¬ (f_X8_canStand S (f_X8_turned (S.1 9 x1.toNatClampNeg) x2) ((8 * x3) + x4)) = true by rw [hc3]; decide)] at K; exact K) | exact K
        · replace h := h hc3
          refine at_aload_n C dX8_comes_74 rfl (j := 1) rfl ?_
          refine at_get C (K := RX8) (T := TX8) (N := 18) (ci := 7) (v := .ref (ad 9)) iw_X8_comes_X8 0 mW_c0 rfl 11 (by decide) lk_X8_comes_1 rfl dX8_comes_75 ?_
          refine at_iload C dX8_comes_78 (j := 0) rfl ?_
          refine at_iload C dX8_comes_80 (j := 6) rfl ?_
          refine at_iast C 9 mW_c9 h.1 mW_s9 dX8_comes_82 ?_
          replace h := h.2
          refine at_aload_n C dX8_comes_83 rfl (j := 1) rfl ?_
          refine at_get C (K := RX8) (T := TX8) (N := 18) (ci := 7) (v := .ref (ad 10)) iw_X8_comes_X8 0 mW_c0 rfl 12 (by decide) lk_X8_comes_3 rfl dX8_comes_84 ?_
          refine at_aload_n C dX8_comes_87 rfl (j := 1) rfl ?_
          refine at_get C (K := RX8) (T := TX8) (N := 18) (ci := 7) (v := .int ((pg S 11 ((((64 * x2) + (8 * x3)) + x4).toNatClampNeg) x5).1 13 0)) iw_X8_comes_X8 0 mW_c0 rfl 13 (by decide) lk_X8_comes_4 rfl dX8_comes_88 ?_
          refine at_topI (pg_o (by decide)) ?_
          refine at_iload C dX8_comes_91 (j := 0) rfl ?_
          refine at_iast C 10 mW_c10 h mW_s10 dX8_comes_93 ?_
          refine at_aload_n C dX8_comes_94 rfl (j := 1) rfl ?_
          refine at_dup C dX8_comes_95 rfl ?_
          refine at_get C (K := RX8) (T := TX8) (N := 18) (ci := 7) (v := .int ((pg (pg S 11 ((((64 * x2) + (8 * x3)) + x4).toNatClampNeg) x5) 12 ((S.1 13 0).toNatClampNeg) (((64 * x2) + (8 * x3)) + x4)).1 13 0)) iw_X8_comes_X8 0 mW_c0 rfl 13 (by decide) lk_X8_comes_4 rfl dX8_comes_96 ?_
          refine at_topI ((pg_o (by decide)).trans (pg_o (by decide))) ?_
          refine at_iconst C dX8_comes_99 (v := 1) rfl ?_
          refine at_iadd C dX8_comes_100 ?_
          refine at_put C (K := RX8) (T := TX8) (N := 18) (ci := 7) (ty := .int) iw_X8_comes_X8 tyX8 tyX8_ok nmX8 0 mW_c0 rfl 13 (by decide) lk_X8_comes_4 rfl rfl rfl rfl (Nat.le_of_ble_eq_true rfl) mW_f0_13 dX8_comes_101 ?_
          refine at_lv [] rfl ?_
          first | (simp only [if_pos hc0, if_pos hc1, if_pos hc2, if_pos hc3] at K; exact K) | exact K
set_option maxRecDepth 20000 in
theorem ggX8_findFar_X8_comes : GoodIn wsX8_findFar wsX8_comes := goodIn_r _ [8, 9, 1, 10, 3, 2, 11, 12, 7, 13, 14, 15, 16, 17, 18, 19, 20, 21, 22, 23, 24, 25, 26, 27, 28, 29, 30, 31, 32, 33, 34, 35, 36, 37, 38, 39, 40, 41, 42, 43, 44, 45, 46, 47, 48] (by decide +kernel) (by decide +kernel)
set_option maxRecDepth 20000 in
theorem gX8_findFar_X8_comes : GoodIn wsX8_findFar (wsV RX8 200 RX8 yX8_comes wsX8_comes) := goodIn_app (goodIn_of _ (by decide +kernel)) ggX8_findFar_X8_comes
theorem dX8_findFar_0 : decode cX8_findFar 0 = .ok (.iconst 0, 1) := by decide +kernel
theorem dX8_findFar_1 : decode cX8_findFar 1 = .ok (.istore 4, 2) := by decide +kernel
theorem dX8_findFar_3 : decode cX8_findFar 3 = .ok (.iload 4, 2) := by decide +kernel
theorem dX8_findFar_5 : decode cX8_findFar 5 = .ok (.sipush 256, 3) := by decide +kernel
theorem dX8_findFar_8 : decode cX8_findFar 8 = .ok (.if_icmp .ge 17, 3) := by decide +kernel
theorem dX8_findFar_11 : decode cX8_findFar 11 = .ok (.aload_n 0, 1) := by decide +kernel
theorem dX8_findFar_12 : decode cX8_findFar 12 = .ok (.getfield 35, 3) := by decide +kernel
theorem dX8_findFar_15 : decode cX8_findFar 15 = .ok (.iload 4, 2) := by decide +kernel
theorem dX8_findFar_17 : decode cX8_findFar 17 = .ok (.iconst (-1), 1) := by decide +kernel
theorem dX8_findFar_18 : decode cX8_findFar 18 = .ok (.iastore, 1) := by decide +kernel
theorem dX8_findFar_19 : decode cX8_findFar 19 = .ok (.iinc 4 1, 3) := by decide +kernel
theorem dX8_findFar_22 : decode cX8_findFar 22 = .ok (.goto (-19), 3) := by decide +kernel
theorem dX8_findFar_25 : decode cX8_findFar 25 = .ok (.aload_n 0, 1) := by decide +kernel
theorem dX8_findFar_26 : decode cX8_findFar 26 = .ok (.iconst 0, 1) := by decide +kernel
theorem dX8_findFar_27 : decode cX8_findFar 27 = .ok (.putfield 197, 3) := by decide +kernel
theorem dX8_findFar_30 : decode cX8_findFar 30 = .ok (.aload_n 0, 1) := by decide +kernel
theorem dX8_findFar_31 : decode cX8_findFar 31 = .ok (.iload_n 1, 1) := by decide +kernel
theorem dX8_findFar_32 : decode cX8_findFar 32 = .ok (.iload_n 2, 1) := by decide +kernel
theorem dX8_findFar_33 : decode cX8_findFar 33 = .ok (.iload_n 3, 1) := by decide +kernel
theorem dX8_findFar_34 : decode cX8_findFar 34 = .ok (.bipush 8, 2) := by decide +kernel
theorem dX8_findFar_36 : decode cX8_findFar 36 = .ok (.idiv, 1) := by decide +kernel
theorem dX8_findFar_37 : decode cX8_findFar 37 = .ok (.iload_n 3, 1) := by decide +kernel
theorem dX8_findFar_38 : decode cX8_findFar 38 = .ok (.bipush 8, 2) := by decide +kernel
theorem dX8_findFar_40 : decode cX8_findFar 40 = .ok (.irem, 1) := by decide +kernel
theorem dX8_findFar_41 : decode cX8_findFar 41 = .ok (.iconst 0, 1) := by decide +kernel
theorem dX8_findFar_42 : decode cX8_findFar 42 = .ok (.invokevirtual 200, 3) := by decide +kernel
theorem dX8_findFar_45 : decode cX8_findFar 45 = .ok (.iconst 0, 1) := by decide +kernel
theorem dX8_findFar_46 : decode cX8_findFar 46 = .ok (.istore 4, 2) := by decide +kernel
theorem dX8_findFar_48 : decode cX8_findFar 48 = .ok (.iload 4, 2) := by decide +kernel
theorem dX8_findFar_50 : decode cX8_findFar 50 = .ok (.aload_n 0, 1) := by decide +kernel
theorem dX8_findFar_51 : decode cX8_findFar 51 = .ok (.getfield 197, 3) := by decide +kernel
theorem dX8_findFar_54 : decode cX8_findFar 54 = .ok (.if_icmp .ge 158, 3) := by decide +kernel
theorem dX8_findFar_57 : decode cX8_findFar 57 = .ok (.aload_n 0, 1) := by decide +kernel
theorem dX8_findFar_58 : decode cX8_findFar 58 = .ok (.getfield 38, 3) := by decide +kernel
theorem dX8_findFar_61 : decode cX8_findFar 61 = .ok (.iload 4, 2) := by decide +kernel
theorem dX8_findFar_63 : decode cX8_findFar 63 = .ok (.iaload, 1) := by decide +kernel
theorem dX8_findFar_64 : decode cX8_findFar 64 = .ok (.bipush 64, 2) := by decide +kernel
theorem dX8_findFar_66 : decode cX8_findFar 66 = .ok (.idiv, 1) := by decide +kernel
theorem dX8_findFar_67 : decode cX8_findFar 67 = .ok (.istore 5, 2) := by decide +kernel
theorem dX8_findFar_69 : decode cX8_findFar 69 = .ok (.aload_n 0, 1) := by decide +kernel
theorem dX8_findFar_70 : decode cX8_findFar 70 = .ok (.getfield 38, 3) := by decide +kernel
theorem dX8_findFar_73 : decode cX8_findFar 73 = .ok (.iload 4, 2) := by decide +kernel
theorem dX8_findFar_75 : decode cX8_findFar 75 = .ok (.iaload, 1) := by decide +kernel
theorem dX8_findFar_76 : decode cX8_findFar 76 = .ok (.bipush 64, 2) := by decide +kernel
theorem dX8_findFar_78 : decode cX8_findFar 78 = .ok (.irem, 1) := by decide +kernel
theorem dX8_findFar_79 : decode cX8_findFar 79 = .ok (.bipush 8, 2) := by decide +kernel
theorem dX8_findFar_81 : decode cX8_findFar 81 = .ok (.idiv, 1) := by decide +kernel
theorem dX8_findFar_82 : decode cX8_findFar 82 = .ok (.istore 6, 2) := by decide +kernel
theorem dX8_findFar_84 : decode cX8_findFar 84 = .ok (.aload_n 0, 1) := by decide +kernel
theorem dX8_findFar_85 : decode cX8_findFar 85 = .ok (.getfield 38, 3) := by decide +kernel
theorem dX8_findFar_88 : decode cX8_findFar 88 = .ok (.iload 4, 2) := by decide +kernel
theorem dX8_findFar_90 : decode cX8_findFar 90 = .ok (.iaload, 1) := by decide +kernel
theorem dX8_findFar_91 : decode cX8_findFar 91 = .ok (.bipush 8, 2) := by decide +kernel
theorem dX8_findFar_93 : decode cX8_findFar 93 = .ok (.irem, 1) := by decide +kernel
theorem dX8_findFar_94 : decode cX8_findFar 94 = .ok (.istore 7, 2) := by decide +kernel
theorem dX8_findFar_96 : decode cX8_findFar 96 = .ok (.aload_n 0, 1) := by decide +kernel
theorem dX8_findFar_97 : decode cX8_findFar 97 = .ok (.getfield 35, 3) := by decide +kernel
theorem dX8_findFar_100 : decode cX8_findFar 100 = .ok (.aload_n 0, 1) := by decide +kernel
theorem dX8_findFar_101 : decode cX8_findFar 101 = .ok (.getfield 38, 3) := by decide +kernel
theorem dX8_findFar_104 : decode cX8_findFar 104 = .ok (.iload 4, 2) := by decide +kernel
theorem dX8_findFar_106 : decode cX8_findFar 106 = .ok (.iaload, 1) := by decide +kernel
theorem dX8_findFar_107 : decode cX8_findFar 107 = .ok (.iaload, 1) := by decide +kernel
theorem dX8_findFar_108 : decode cX8_findFar 108 = .ok (.iconst 1, 1) := by decide +kernel
theorem dX8_findFar_109 : decode cX8_findFar 109 = .ok (.iadd, 1) := by decide +kernel
theorem dX8_findFar_110 : decode cX8_findFar 110 = .ok (.istore 8, 2) := by decide +kernel
theorem dX8_findFar_112 : decode cX8_findFar 112 = .ok (.aload_n 0, 1) := by decide +kernel
theorem dX8_findFar_113 : decode cX8_findFar 113 = .ok (.iload_n 1, 1) := by decide +kernel
theorem dX8_findFar_114 : decode cX8_findFar 114 = .ok (.iload 5, 2) := by decide +kernel
theorem dX8_findFar_116 : decode cX8_findFar 116 = .ok (.iload 6, 2) := by decide +kernel
theorem dX8_findFar_118 : decode cX8_findFar 118 = .ok (.iconst 1, 1) := by decide +kernel
theorem dX8_findFar_119 : decode cX8_findFar 119 = .ok (.isub, 1) := by decide +kernel
theorem dX8_findFar_120 : decode cX8_findFar 120 = .ok (.iload 7, 2) := by decide +kernel
theorem dX8_findFar_122 : decode cX8_findFar 122 = .ok (.iload 8, 2) := by decide +kernel
theorem dX8_findFar_124 : decode cX8_findFar 124 = .ok (.invokevirtual 200, 3) := by decide +kernel
theorem dX8_findFar_127 : decode cX8_findFar 127 = .ok (.aload_n 0, 1) := by decide +kernel
theorem dX8_findFar_128 : decode cX8_findFar 128 = .ok (.iload_n 1, 1) := by decide +kernel
theorem dX8_findFar_129 : decode cX8_findFar 129 = .ok (.iload 5, 2) := by decide +kernel
theorem dX8_findFar_131 : decode cX8_findFar 131 = .ok (.iload 6, 2) := by decide +kernel
theorem dX8_findFar_133 : decode cX8_findFar 133 = .ok (.iload 7, 2) := by decide +kernel
theorem dX8_findFar_135 : decode cX8_findFar 135 = .ok (.iconst 1, 1) := by decide +kernel
theorem dX8_findFar_136 : decode cX8_findFar 136 = .ok (.iadd, 1) := by decide +kernel
theorem dX8_findFar_137 : decode cX8_findFar 137 = .ok (.iload 8, 2) := by decide +kernel
theorem dX8_findFar_139 : decode cX8_findFar 139 = .ok (.invokevirtual 200, 3) := by decide +kernel
theorem dX8_findFar_142 : decode cX8_findFar 142 = .ok (.aload_n 0, 1) := by decide +kernel
theorem dX8_findFar_143 : decode cX8_findFar 143 = .ok (.iload_n 1, 1) := by decide +kernel
theorem dX8_findFar_144 : decode cX8_findFar 144 = .ok (.iload 5, 2) := by decide +kernel
theorem dX8_findFar_146 : decode cX8_findFar 146 = .ok (.iload 6, 2) := by decide +kernel
theorem dX8_findFar_148 : decode cX8_findFar 148 = .ok (.iconst 1, 1) := by decide +kernel
theorem dX8_findFar_149 : decode cX8_findFar 149 = .ok (.iadd, 1) := by decide +kernel
theorem dX8_findFar_150 : decode cX8_findFar 150 = .ok (.iload 7, 2) := by decide +kernel
theorem dX8_findFar_152 : decode cX8_findFar 152 = .ok (.iload 8, 2) := by decide +kernel
theorem dX8_findFar_154 : decode cX8_findFar 154 = .ok (.invokevirtual 200, 3) := by decide +kernel
theorem dX8_findFar_157 : decode cX8_findFar 157 = .ok (.aload_n 0, 1) := by decide +kernel
theorem dX8_findFar_158 : decode cX8_findFar 158 = .ok (.iload_n 1, 1) := by decide +kernel
theorem dX8_findFar_159 : decode cX8_findFar 159 = .ok (.iload 5, 2) := by decide +kernel
theorem dX8_findFar_161 : decode cX8_findFar 161 = .ok (.iload 6, 2) := by decide +kernel
theorem dX8_findFar_163 : decode cX8_findFar 163 = .ok (.iload 7, 2) := by decide +kernel
theorem dX8_findFar_165 : decode cX8_findFar 165 = .ok (.iconst 1, 1) := by decide +kernel
theorem dX8_findFar_166 : decode cX8_findFar 166 = .ok (.isub, 1) := by decide +kernel
theorem dX8_findFar_167 : decode cX8_findFar 167 = .ok (.iload 8, 2) := by decide +kernel
theorem dX8_findFar_169 : decode cX8_findFar 169 = .ok (.invokevirtual 200, 3) := by decide +kernel
theorem dX8_findFar_172 : decode cX8_findFar 172 = .ok (.aload_n 0, 1) := by decide +kernel
theorem dX8_findFar_173 : decode cX8_findFar 173 = .ok (.iload_n 1, 1) := by decide +kernel
theorem dX8_findFar_174 : decode cX8_findFar 174 = .ok (.iload 5, 2) := by decide +kernel
theorem dX8_findFar_176 : decode cX8_findFar 176 = .ok (.iconst 1, 1) := by decide +kernel
theorem dX8_findFar_177 : decode cX8_findFar 177 = .ok (.iadd, 1) := by decide +kernel
theorem dX8_findFar_178 : decode cX8_findFar 178 = .ok (.iconst 4, 1) := by decide +kernel
theorem dX8_findFar_179 : decode cX8_findFar 179 = .ok (.irem, 1) := by decide +kernel
theorem dX8_findFar_180 : decode cX8_findFar 180 = .ok (.iload 6, 2) := by decide +kernel
theorem dX8_findFar_182 : decode cX8_findFar 182 = .ok (.iload 7, 2) := by decide +kernel
theorem dX8_findFar_184 : decode cX8_findFar 184 = .ok (.iload 8, 2) := by decide +kernel
theorem dX8_findFar_186 : decode cX8_findFar 186 = .ok (.invokevirtual 200, 3) := by decide +kernel
theorem dX8_findFar_189 : decode cX8_findFar 189 = .ok (.aload_n 0, 1) := by decide +kernel
theorem dX8_findFar_190 : decode cX8_findFar 190 = .ok (.iload_n 1, 1) := by decide +kernel
theorem dX8_findFar_191 : decode cX8_findFar 191 = .ok (.iload 5, 2) := by decide +kernel
theorem dX8_findFar_193 : decode cX8_findFar 193 = .ok (.iconst 3, 1) := by decide +kernel
theorem dX8_findFar_194 : decode cX8_findFar 194 = .ok (.iadd, 1) := by decide +kernel
theorem dX8_findFar_195 : decode cX8_findFar 195 = .ok (.iconst 4, 1) := by decide +kernel
theorem dX8_findFar_196 : decode cX8_findFar 196 = .ok (.irem, 1) := by decide +kernel
theorem dX8_findFar_197 : decode cX8_findFar 197 = .ok (.iload 6, 2) := by decide +kernel
theorem dX8_findFar_199 : decode cX8_findFar 199 = .ok (.iload 7, 2) := by decide +kernel
theorem dX8_findFar_201 : decode cX8_findFar 201 = .ok (.iload 8, 2) := by decide +kernel
theorem dX8_findFar_203 : decode cX8_findFar 203 = .ok (.invokevirtual 200, 3) := by decide +kernel
theorem dX8_findFar_206 : decode cX8_findFar 206 = .ok (.iinc 4 1, 3) := by decide +kernel
theorem dX8_findFar_209 : decode cX8_findFar 209 = .ok (.goto (-161), 3) := by decide +kernel
theorem dX8_findFar_212 : decode cX8_findFar 212 = .ok (.return_, 1) := by decide +kernel
theorem iw_X8_findFar_X8 : ∀ w ∈ u_ws RX8 TX8 18, w ∈ wsX8_findFar := by decide +kernel
theorem lk_X8_findFar_0 : Cond.fieldLink RX8 35 (TX8 11).1 (TX8 11).2.1 (TX8 11).2.2.1 ∈ wsX8_findFar := by decide +kernel
theorem lk_X8_findFar_1 : Cond.fieldLink RX8 197 (TX8 13).1 (TX8 13).2.1 (TX8 13).2.2.1 ∈ wsX8_findFar := by decide +kernel
theorem lk_X8_findFar_2 : Cond.fieldLink RX8 38 (TX8 12).1 (TX8 12).2.1 (TX8 12).2.2.1 ∈ wsX8_findFar := by decide +kernel
set_option maxRecDepth 100000 in
theorem r_X8_findFar_0 {X : Bn} (C : Cx X cX8_findFar 9 RX8 wsX8_findFar 4 93) (ad : Nat → Nat) (S : MS) (x1 : Int32) (x2 : Int32) (x3 : Int32) (h : At X 9 (mW X.E ad S) 3 [(0, .ref (ad 0)), (1, .int x1), (2, .int x2), (3, .int x3), (4, .int 0)] []) : At X 9 (mW X.E ad S) 0 [(0, .ref (ad 0)), (1, .int x1), (2, .int x2), (3, .int x3)] [] := by
  refine at_iconst C dX8_findFar_0 (v := 0) rfl ?_
  refine at_istore C dX8_findFar_1 (by decide) (lv' := [(4, .int 0), (0, .ref (ad 0)), (1, .int x1), (2, .int x2), (3, .int x3)]) rfl ?_
  refine at_lv [1, 2, 3, 4, 0] rfl ?_
  exact h
set_option maxRecDepth 100000 in
theorem r_X8_findFar_3 {X : Bn} (C : Cx X cX8_findFar 9 RX8 wsX8_findFar 4 93) (ad : Nat → Nat) (S : MS) (x1 : Int32) (x2 : Int32) (x3 : Int32) (x4 : Int32) (h : ((256 ≤ x4) → (∃ (S1 : MS), (Fn X.l X.D X.E X.a1 X.a2 yX8_comes wsX8_comes 3 67 [.ref (ad 0), .int x1, .int x2, .int (x3 / 8), .int (irm x3 8), .int 0] (mW X.E ad (pg S 13 0 0)) none (mW X.E ad S1)) ∧ (At X 9 (mW X.E ad S1) 48 [(0, .ref (ad 0)), (1, .int x1), (4, .int 0)] []))) ∧ (¬ 256 ≤ x4 → ((vp_in x4 256) ∧ (At X 9 (mW X.E ad (pg S 11 x4.toNatClampNeg (-1))) 3 [(0, .ref (ad 0)), (1, .int x1), (2, .int x2), (3, .int x3), (4, .int (x4 + 1))] [])))) : At X 9 (mW X.E ad S) 3 [(0, .ref (ad 0)), (1, .int x1), (2, .int x2), (3, .int x3), (4, .int x4)] [] := by
  refine at_iload C dX8_findFar_3 (j := 4) rfl ?_
  refine at_sipush C dX8_findFar_5 (v := 256) rfl ?_
  refine at_icmp_ge C dX8_findFar_8 (tgt := 25) (by decide) (fun hc0 => ?_) (fun hc0 => ?_)
  · replace h := h.1 hc0
    refine at_aload_n C dX8_findFar_25 rfl (j := 0) rfl ?_
    refine at_iconst C dX8_findFar_26 (v := 0) rfl ?_
    refine at_put C (K := RX8) (T := TX8) (N := 18) (ci := 7) (ty := .int) iw_X8_findFar_X8 tyX8 tyX8_ok nmX8 0 mW_c0 rfl 13 (by decide) lk_X8_findFar_1 rfl rfl rfl rfl (Nat.le_of_ble_eq_true rfl) mW_f0_13 dX8_findFar_27 ?_
    refine at_aload_n C dX8_findFar_30 rfl (j := 0) rfl ?_
    refine at_iload_n C dX8_findFar_31 rfl (j := 1) rfl ?_
    refine at_iload_n C dX8_findFar_32 rfl (j := 2) rfl ?_
    refine at_iload_n C dX8_findFar_33 rfl (j := 3) rfl ?_
    refine at_bipush C dX8_findFar_34 (v := 8) rfl ?_
    refine at_idiv C dX8_findFar_36 (by decide) ?_
    refine at_iload_n C dX8_findFar_37 rfl (j := 3) rfl ?_
    refine at_bipush C dX8_findFar_38 (v := 8) rfl ?_
    refine at_irem C dX8_findFar_40 (by decide) ?_
    refine at_iconst C dX8_findFar_41 (v := 0) rfl ?_
    obtain ⟨S1, hF1, h⟩ := h
    refine at_cV1v C 5 hF1 gX8_findFar_X8_comes rfl (by decide +kernel) ⟨rfl, rfl⟩ rfl rfl rfl 0 mW_c0 rfl dX8_findFar_42 ?_
    refine at_iconst C dX8_findFar_45 (v := 0) rfl ?_
    refine at_istore C dX8_findFar_46 (by decide) (lv' := [(4, .int 0), (0, .ref (ad 0)), (1, .int x1), (2, .int x2), (3, .int x3)]) rfl ?_
    refine at_lv [1, 2, 0] rfl ?_
    exact h
  · replace h := h.2 hc0
    refine at_aload_n C dX8_findFar_11 rfl (j := 0) rfl ?_
    refine at_get C (K := RX8) (T := TX8) (N := 18) (ci := 7) (v := .ref (ad 9)) iw_X8_findFar_X8 0 mW_c0 rfl 11 (by decide) lk_X8_findFar_0 rfl dX8_findFar_12 ?_
    refine at_iload C dX8_findFar_15 (j := 4) rfl ?_
    refine at_iconst C dX8_findFar_17 (v := (-1)) rfl ?_
    refine at_iast C 9 mW_c9 h.1 mW_s9 dX8_findFar_18 ?_
    replace h := h.2
    refine at_iinc C dX8_findFar_19 (j := 4) (v := x4 + 1) rfl rfl (by decide) (lv' := [(4, .int (x4 + 1)), (0, .ref (ad 0)), (1, .int x1), (2, .int x2), (3, .int x3)]) rfl ?_
    refine at_goto C dX8_findFar_22 (tgt := 3) (by decide) ?_
    refine at_lv [1, 2, 3, 4, 0] rfl ?_
    exact h
set_option maxRecDepth 100000 in
theorem r_X8_findFar_48 {X : Bn} (C : Cx X cX8_findFar 9 RX8 wsX8_findFar 4 93) (ad : Nat → Nat) (S : MS) (x1 : Int32) (x4 : Int32) (h : ((S.1 13 0 ≤ x4) → (Ends X (none) none (mW X.E ad S))) ∧ (¬ S.1 13 0 ≤ x4 → ((vp_in x4 256) ∧ ((vp_in x4 256) ∧ ((vp_in x4 256) ∧ ((vp_in x4 256) ∧ ((vp_in (S.1 12 x4.toNatClampNeg) 256) ∧ (∃ (S2 : MS), (Fn X.l X.D X.E X.a1 X.a2 yX8_comes wsX8_comes 3 67 [.ref (ad 0), .int x1, .int ((S.1 12 x4.toNatClampNeg) / 64), .int (((irm (S.1 12 x4.toNatClampNeg) 64) / 8) - 1), .int (irm (S.1 12 x4.toNatClampNeg) 8), .int ((S.1 11 ((S.1 12 x4.toNatClampNeg).toNatClampNeg)) + 1)] (mW X.E ad S) none (mW X.E ad S2)) ∧ (∃ (S3 : MS), (Fn X.l X.D X.E X.a1 X.a2 yX8_comes wsX8_comes 3 67 [.ref (ad 0), .int x1, .int ((S.1 12 x4.toNatClampNeg) / 64), .int ((irm (S.1 12 x4.toNatClampNeg) 64) / 8), .int ((irm (S.1 12 x4.toNatClampNeg) 8) + 1), .int ((S.1 11 ((S.1 12 x4.toNatClampNeg).toNatClampNeg)) + 1)] (mW X.E ad S2) none (mW X.E ad S3)) ∧ (∃ (S4 : MS), (Fn X.l X.D X.E X.a1 X.a2 yX8_comes wsX8_comes 3 67 [.ref (ad 0), .int x1, .int ((S.1 12 x4.toNatClampNeg) / 64), .int (((irm (S.1 12 x4.toNatClampNeg) 64) / 8) + 1), .int (irm (S.1 12 x4.toNatClampNeg) 8), .int ((S.1 11 ((S.1 12 x4.toNatClampNeg).toNatClampNeg)) + 1)] (mW X.E ad S3) none (mW X.E ad S4)) ∧ (∃ (S5 : MS), (Fn X.l X.D X.E X.a1 X.a2 yX8_comes wsX8_comes 3 67 [.ref (ad 0), .int x1, .int ((S.1 12 x4.toNatClampNeg) / 64), .int ((irm (S.1 12 x4.toNatClampNeg) 64) / 8), .int ((irm (S.1 12 x4.toNatClampNeg) 8) - 1), .int ((S.1 11 ((S.1 12 x4.toNatClampNeg).toNatClampNeg)) + 1)] (mW X.E ad S4) none (mW X.E ad S5)) ∧ (∃ (S6 : MS), (Fn X.l X.D X.E X.a1 X.a2 yX8_comes wsX8_comes 3 67 [.ref (ad 0), .int x1, .int (irm (((S.1 12 x4.toNatClampNeg) / 64) + 1) 4), .int ((irm (S.1 12 x4.toNatClampNeg) 64) / 8), .int (irm (S.1 12 x4.toNatClampNeg) 8), .int ((S.1 11 ((S.1 12 x4.toNatClampNeg).toNatClampNeg)) + 1)] (mW X.E ad S5) none (mW X.E ad S6)) ∧ (∃ (S7 : MS), (Fn X.l X.D X.E X.a1 X.a2 yX8_comes wsX8_comes 3 67 [.ref (ad 0), .int x1, .int (irm (((S.1 12 x4.toNatClampNeg) / 64) + 3) 4), .int ((irm (S.1 12 x4.toNatClampNeg) 64) / 8), .int (irm (S.1 12 x4.toNatClampNeg) 8), .int ((S.1 11 ((S.1 12 x4.toNatClampNeg).toNatClampNeg)) + 1)] (mW X.E ad S6) none (mW X.E ad S7)) ∧ (At X 9 (mW X.E ad S7) 48 [(0, .ref (ad 0)), (1, .int x1), (4, .int (x4 + 1))] [])))))))))))))) : At X 9 (mW X.E ad S) 48 [(0, .ref (ad 0)), (1, .int x1), (4, .int x4)] [] := by
  refine at_iload C dX8_findFar_48 (j := 2) rfl ?_
  refine at_aload_n C dX8_findFar_50 rfl (j := 0) rfl ?_
  refine at_get C (K := RX8) (T := TX8) (N := 18) (ci := 7) (v := .int (S.1 13 0)) iw_X8_findFar_X8 0 mW_c0 rfl 13 (by decide) lk_X8_findFar_1 rfl dX8_findFar_51 ?_
  refine at_icmp_ge C dX8_findFar_54 (tgt := 212) (by decide) (fun hc1 => ?_) (fun hc1 => ?_)
  · replace h := h.1 hc1
    exact at_vret C dX8_findFar_212 h
  · replace h := h.2 hc1
    refine at_aload_n C dX8_findFar_57 rfl (j := 0) rfl ?_
    refine at_get C (K := RX8) (T := TX8) (N := 18) (ci := 7) (v := .ref (ad 10)) iw_X8_findFar_X8 0 mW_c0 rfl 12 (by decide) lk_X8_findFar_2 rfl dX8_findFar_58 ?_
    refine at_iload C dX8_findFar_61 (j := 2) rfl ?_
    refine at_iald C 10 mW_c10 h.1 dX8_findFar_63 ?_
    replace h := h.2
    refine at_bipush C dX8_findFar_64 (v := 64) rfl ?_
    refine at_idiv C dX8_findFar_66 (by decide) ?_
    refine at_istore C dX8_findFar_67 (by decide) (lv' := [(5, .int ((S.1 12 x4.toNatClampNeg) / 64)), (0, .ref (ad 0)), (1, .int x1), (4, .int x4)]) rfl ?_
    refine at_aload_n C dX8_findFar_69 rfl (j := 1) rfl ?_
    refine at_get C (K := RX8) (T := TX8) (N := 18) (ci := 7) (v := .ref (ad 10)) iw_X8_findFar_X8 0 mW_c0 rfl 12 (by decide) lk_X8_findFar_2 rfl dX8_findFar_70 ?_
    refine at_iload C dX8_findFar_73 (j := 3) rfl ?_
    refine at_iald C 10 mW_c10 h.1 dX8_findFar_75 ?_
    replace h := h.2
    refine at_bipush C dX8_findFar_76 (v := 64) rfl ?_
    refine at_irem C dX8_findFar_78 (by decide) ?_
    refine at_bipush C dX8_findFar_79 (v := 8) rfl ?_
    refine at_idiv C dX8_findFar_81 (by decide) ?_
    refine at_istore C dX8_findFar_82 (by decide) (lv' := [(6, .int ((irm (S.1 12 x4.toNatClampNeg) 64) / 8)), (5, .int ((S.1 12 x4.toNatClampNeg) / 64)), (0, .ref (ad 0)), (1, .int x1), (4, .int x4)]) rfl ?_
    refine at_aload_n C dX8_findFar_84 rfl (j := 2) rfl ?_
    refine at_get C (K := RX8) (T := TX8) (N := 18) (ci := 7) (v := .ref (ad 10)) iw_X8_findFar_X8 0 mW_c0 rfl 12 (by decide) lk_X8_findFar_2 rfl dX8_findFar_85 ?_
    refine at_iload C dX8_findFar_88 (j := 4) rfl ?_
    refine at_iald C 10 mW_c10 h.1 dX8_findFar_90 ?_
    replace h := h.2
    refine at_bipush C dX8_findFar_91 (v := 8) rfl ?_
    refine at_irem C dX8_findFar_93 (by decide) ?_
    refine at_istore C dX8_findFar_94 (by decide) (lv' := [(7, .int (irm (S.1 12 x4.toNatClampNeg) 8)), (6, .int ((irm (S.1 12 x4.toNatClampNeg) 64) / 8)), (5, .int ((S.1 12 x4.toNatClampNeg) / 64)), (0, .ref (ad 0)), (1, .int x1), (4, .int x4)]) rfl ?_
    refine at_aload_n C dX8_findFar_96 rfl (j := 3) rfl ?_
    refine at_get C (K := RX8) (T := TX8) (N := 18) (ci := 7) (v := .ref (ad 9)) iw_X8_findFar_X8 0 mW_c0 rfl 11 (by decide) lk_X8_findFar_0 rfl dX8_findFar_97 ?_
    refine at_aload_n C dX8_findFar_100 rfl (j := 3) rfl ?_
    refine at_get C (K := RX8) (T := TX8) (N := 18) (ci := 7) (v := .ref (ad 10)) iw_X8_findFar_X8 0 mW_c0 rfl 12 (by decide) lk_X8_findFar_2 rfl dX8_findFar_101 ?_
    refine at_iload C dX8_findFar_104 (j := 5) rfl ?_
    refine at_iald C 10 mW_c10 h.1 dX8_findFar_106 ?_
    replace h := h.2
    refine at_iald C 9 mW_c9 h.1 dX8_findFar_107 ?_
    replace h := h.2
    refine at_iconst C dX8_findFar_108 (v := 1) rfl ?_
    refine at_iadd C dX8_findFar_109 ?_
    refine at_istore C dX8_findFar_110 (by decide) (lv' := [(8, .int ((S.1 11 ((S.1 12 x4.toNatClampNeg).toNatClampNeg)) + 1)), (7, .int (irm (S.1 12 x4.toNatClampNeg) 8)), (6, .int ((irm (S.1 12 x4.toNatClampNeg) 64) / 8)), (5, .int ((S.1 12 x4.toNatClampNeg) / 64)), (0, .ref (ad 0)), (1, .int x1), (4, .int x4)]) rfl ?_
    refine at_aload_n C dX8_findFar_112 rfl (j := 4) rfl ?_
    refine at_iload_n C dX8_findFar_113 rfl (j := 5) rfl ?_
    refine at_iload C dX8_findFar_114 (j := 3) rfl ?_
    refine at_iload C dX8_findFar_116 (j := 2) rfl ?_
    refine at_iconst C dX8_findFar_118 (v := 1) rfl ?_
    refine at_isub C dX8_findFar_119 ?_
    refine at_iload C dX8_findFar_120 (j := 1) rfl ?_
    refine at_iload C dX8_findFar_122 (j := 0) rfl ?_
    obtain ⟨S2, hF2, h⟩ := h
    refine at_cV1v C 5 hF2 gX8_findFar_X8_comes rfl (by decide +kernel) ⟨rfl, rfl⟩ rfl rfl rfl 0 mW_c0 rfl dX8_findFar_124 ?_
    refine at_aload_n C dX8_findFar_127 rfl (j := 4) rfl ?_
    refine at_iload_n C dX8_findFar_128 rfl (j := 5) rfl ?_
    refine at_iload C dX8_findFar_129 (j := 3) rfl ?_
    refine at_iload C dX8_findFar_131 (j := 2) rfl ?_
    refine at_iload C dX8_findFar_133 (j := 1) rfl ?_
    refine at_iconst C dX8_findFar_135 (v := 1) rfl ?_
    refine at_iadd C dX8_findFar_136 ?_
    refine at_iload C dX8_findFar_137 (j := 0) rfl ?_
    obtain ⟨S3, hF3, h⟩ := h
    refine at_cV1v C 5 hF3 gX8_findFar_X8_comes rfl (by decide +kernel) ⟨rfl, rfl⟩ rfl rfl rfl 0 mW_c0 rfl dX8_findFar_139 ?_
    refine at_aload_n C dX8_findFar_142 rfl (j := 4) rfl ?_
    refine at_iload_n C dX8_findFar_143 rfl (j := 5) rfl ?_
    refine at_iload C dX8_findFar_144 (j := 3) rfl ?_
    refine at_iload C dX8_findFar_146 (j := 2) rfl ?_
    refine at_iconst C dX8_findFar_148 (v := 1) rfl ?_
    refine at_iadd C dX8_findFar_149 ?_
    refine at_iload C dX8_findFar_150 (j := 1) rfl ?_
    refine at_iload C dX8_findFar_152 (j := 0) rfl ?_
    obtain ⟨S4, hF4, h⟩ := h
    refine at_cV1v C 5 hF4 gX8_findFar_X8_comes rfl (by decide +kernel) ⟨rfl, rfl⟩ rfl rfl rfl 0 mW_c0 rfl dX8_findFar_154 ?_
    refine at_aload_n C dX8_findFar_157 rfl (j := 4) rfl ?_
    refine at_iload_n C dX8_findFar_158 rfl (j := 5) rfl ?_
    refine at_iload C dX8_findFar_159 (j := 3) rfl ?_
    refine at_iload C dX8_findFar_161 (j := 2) rfl ?_
    refine at_iload C dX8_findFar_163 (j := 1) rfl ?_
    refine at_iconst C dX8_findFar_165 (v := 1) rfl ?_
    refine at_isub C dX8_findFar_166 ?_
    refine at_iload C dX8_findFar_167 (j := 0) rfl ?_
    obtain ⟨S5, hF5, h⟩ := h
    refine at_cV1v C 5 hF5 gX8_findFar_X8_comes rfl (by decide +kernel) ⟨rfl, rfl⟩ rfl rfl rfl 0 mW_c0 rfl dX8_findFar_169 ?_
    refine at_aload_n C dX8_findFar_172 rfl (j := 4) rfl ?_
    refine at_iload_n C dX8_findFar_173 rfl (j := 5) rfl ?_
    refine at_iload C dX8_findFar_174 (j := 3) rfl ?_
    refine at_iconst C dX8_findFar_176 (v := 1) rfl ?_
    refine at_iadd C dX8_findFar_177 ?_
    refine at_iconst C dX8_findFar_178 (v := 4) rfl ?_
    refine at_irem C dX8_findFar_179 (by decide) ?_
    refine at_iload C dX8_findFar_180 (j := 2) rfl ?_
    refine at_iload C dX8_findFar_182 (j := 1) rfl ?_
    refine at_iload C dX8_findFar_184 (j := 0) rfl ?_
    obtain ⟨S6, hF6, h⟩ := h
    refine at_cV1v C 5 hF6 gX8_findFar_X8_comes rfl (by decide +kernel) ⟨rfl, rfl⟩ rfl rfl rfl 0 mW_c0 rfl dX8_findFar_186 ?_
    refine at_aload_n C dX8_findFar_189 rfl (j := 4) rfl ?_
    refine at_iload_n C dX8_findFar_190 rfl (j := 5) rfl ?_
    refine at_iload C dX8_findFar_191 (j := 3) rfl ?_
    refine at_iconst C dX8_findFar_193 (v := 3) rfl ?_
    refine at_iadd C dX8_findFar_194 ?_
    refine at_iconst C dX8_findFar_195 (v := 4) rfl ?_
    refine at_irem C dX8_findFar_196 (by decide) ?_
    refine at_iload C dX8_findFar_197 (j := 2) rfl ?_
    refine at_iload C dX8_findFar_199 (j := 1) rfl ?_
    refine at_iload C dX8_findFar_201 (j := 0) rfl ?_
    obtain ⟨S7, hF7, h⟩ := h
    refine at_cV1v C 5 hF7 gX8_findFar_X8_comes rfl (by decide +kernel) ⟨rfl, rfl⟩ rfl rfl rfl 0 mW_c0 rfl dX8_findFar_203 ?_
    refine at_iinc C dX8_findFar_206 (j := 6) (v := x4 + 1) rfl rfl (by decide) (lv' := [(4, .int (x4 + 1)), (8, .int ((S.1 11 ((S.1 12 x4.toNatClampNeg).toNatClampNeg)) + 1)), (7, .int (irm (S.1 12 x4.toNatClampNeg) 8)), (6, .int ((irm (S.1 12 x4.toNatClampNeg) 64) / 8)), (5, .int ((S.1 12 x4.toNatClampNeg) / 64)), (0, .ref (ad 0)), (1, .int x1)]) rfl ?_
    refine at_goto C dX8_findFar_209 (tgt := 48) (by decide) ?_
    refine at_lv [5, 6, 0] rfl ?_
    exact h
set_option maxRecDepth 20000 in
theorem ggX8_throughOf_X8_turned : GoodIn wsX8_throughOf wsX8_turned := goodIn_r _ [6, 7, 8, 5, 9, 10, 11, 12] (by decide +kernel) (by decide +kernel)
set_option maxRecDepth 20000 in
theorem gX8_throughOf_X8_turned : GoodIn wsX8_throughOf (va_wsS RX8 132 yX8_turned wsX8_turned) := goodIn_app (goodIn_of _ (by decide +kernel)) ggX8_throughOf_X8_turned
set_option maxRecDepth 20000 in
theorem ggX8_throughOf_X8_canStand : GoodIn wsX8_throughOf wsX8_canStand := goodIn_r _ [16, 17, 10, 11, 5, 12, 18, 19, 20, 35, 36, 37, 38, 39, 40, 41, 42, 43, 44, 45, 46, 47, 48, 49, 50, 51, 52] (by decide +kernel) (by decide +kernel)
set_option maxRecDepth 20000 in
theorem gX8_throughOf_X8_canStand : GoodIn wsX8_throughOf (wsV RX8 192 RX8 yX8_canStand wsX8_canStand) := goodIn_app (goodIn_of _ (by decide +kernel)) ggX8_throughOf_X8_canStand
set_option maxRecDepth 20000 in
theorem ggX8_throughOf_X8_findFar : GoodIn wsX8_throughOf wsX8_findFar := goodIn_r _ [24, 2, 25, 26, 27, 28, 29, 5, 30, 31, 1, 32, 33, 34, 3, 4, 6, 7, 8, 9, 10, 11, 12, 13, 14, 15, 16, 17, 18, 19, 20, 35, 36, 37, 38, 39, 40, 41, 42, 43, 44, 45, 46, 47, 48, 49, 50, 51, 52] (by decide +kernel) (by decide +kernel)
set_option maxRecDepth 20000 in
theorem gX8_throughOf_X8_findFar : GoodIn wsX8_throughOf (wsV RX8 204 RX8 yX8_findFar wsX8_findFar) := goodIn_app (goodIn_of _ (by decide +kernel)) ggX8_throughOf_X8_findFar
theorem dX8_throughOf_0 : decode cX8_throughOf 0 = .ok (.aload_n 0, 1) := by decide +kernel
theorem dX8_throughOf_1 : decode cX8_throughOf 1 = .ok (.aload_n 0, 1) := by decide +kernel
theorem dX8_throughOf_2 : decode cX8_throughOf 2 = .ok (.getfield 28, 3) := by decide +kernel
theorem dX8_throughOf_5 : decode cX8_throughOf 5 = .ok (.iload_n 1, 1) := by decide +kernel
theorem dX8_throughOf_6 : decode cX8_throughOf 6 = .ok (.iaload, 1) := by decide +kernel
theorem dX8_throughOf_7 : decode cX8_throughOf 7 = .ok (.iload_n 2, 1) := by decide +kernel
theorem dX8_throughOf_8 : decode cX8_throughOf 8 = .ok (.invokestatic 132, 3) := by decide +kernel
theorem dX8_throughOf_11 : decode cX8_throughOf 11 = .ok (.iload_n 3, 1) := by decide +kernel
theorem dX8_throughOf_12 : decode cX8_throughOf 12 = .ok (.invokevirtual 192, 3) := by decide +kernel
theorem dX8_throughOf_15 : decode cX8_throughOf 15 = .ok (.ifCond .eq 23, 3) := by decide +kernel
theorem dX8_throughOf_18 : decode cX8_throughOf 18 = .ok (.aload_n 0, 1) := by decide +kernel
theorem dX8_throughOf_19 : decode cX8_throughOf 19 = .ok (.aload_n 0, 1) := by decide +kernel
theorem dX8_throughOf_20 : decode cX8_throughOf 20 = .ok (.getfield 28, 3) := by decide +kernel
theorem dX8_throughOf_23 : decode cX8_throughOf 23 = .ok (.iload_n 1, 1) := by decide +kernel
theorem dX8_throughOf_24 : decode cX8_throughOf 24 = .ok (.iaload, 1) := by decide +kernel
theorem dX8_throughOf_25 : decode cX8_throughOf 25 = .ok (.iload 4, 2) := by decide +kernel
theorem dX8_throughOf_27 : decode cX8_throughOf 27 = .ok (.invokestatic 132, 3) := by decide +kernel
theorem dX8_throughOf_30 : decode cX8_throughOf 30 = .ok (.iload 5, 2) := by decide +kernel
theorem dX8_throughOf_32 : decode cX8_throughOf 32 = .ok (.invokevirtual 192, 3) := by decide +kernel
theorem dX8_throughOf_35 : decode cX8_throughOf 35 = .ok (.ifCond .ne 6, 3) := by decide +kernel
theorem dX8_throughOf_38 : decode cX8_throughOf 38 = .ok (.bipush (-3), 2) := by decide +kernel
theorem dX8_throughOf_40 : decode cX8_throughOf 40 = .ok (.ireturn, 1) := by decide +kernel
theorem dX8_throughOf_41 : decode cX8_throughOf 41 = .ok (.aload_n 0, 1) := by decide +kernel
theorem dX8_throughOf_42 : decode cX8_throughOf 42 = .ok (.iload_n 1, 1) := by decide +kernel
theorem dX8_throughOf_43 : decode cX8_throughOf 43 = .ok (.iload_n 2, 1) := by decide +kernel
theorem dX8_throughOf_44 : decode cX8_throughOf 44 = .ok (.iload_n 3, 1) := by decide +kernel
theorem dX8_throughOf_45 : decode cX8_throughOf 45 = .ok (.invokevirtual 204, 3) := by decide +kernel
theorem dX8_throughOf_48 : decode cX8_throughOf 48 = .ok (.aload_n 0, 1) := by decide +kernel
theorem dX8_throughOf_49 : decode cX8_throughOf 49 = .ok (.getfield 35, 3) := by decide +kernel
theorem dX8_throughOf_52 : decode cX8_throughOf 52 = .ok (.bipush 64, 2) := by decide +kernel
theorem dX8_throughOf_54 : decode cX8_throughOf 54 = .ok (.iload 4, 2) := by decide +kernel
theorem dX8_throughOf_56 : decode cX8_throughOf 56 = .ok (.imul, 1) := by decide +kernel
theorem dX8_throughOf_57 : decode cX8_throughOf 57 = .ok (.iload 5, 2) := by decide +kernel
theorem dX8_throughOf_59 : decode cX8_throughOf 59 = .ok (.iadd, 1) := by decide +kernel
theorem dX8_throughOf_60 : decode cX8_throughOf 60 = .ok (.iaload, 1) := by decide +kernel
theorem dX8_throughOf_61 : decode cX8_throughOf 61 = .ok (.ireturn, 1) := by decide +kernel
theorem iw_X8_throughOf_X8 : ∀ w ∈ u_ws RX8 TX8 18, w ∈ wsX8_throughOf := by decide +kernel
theorem lk_X8_throughOf_0 : Cond.fieldLink RX8 28 (TX8 9).1 (TX8 9).2.1 (TX8 9).2.2.1 ∈ wsX8_throughOf := by decide +kernel
theorem lk_X8_throughOf_1 : Cond.fieldLink RX8 35 (TX8 11).1 (TX8 11).2.1 (TX8 11).2.2.1 ∈ wsX8_throughOf := by decide +kernel
set_option maxRecDepth 100000 in
theorem r_X8_throughOf_0 {X : Bn} (C : Cx X cX8_throughOf 6 RX8 wsX8_throughOf 5 121) (ad : Nat → Nat) (S : MS) (x1 : Int32) (x2 : Int32) (x3 : Int32) (x4 : Int32) (x5 : Int32) (h : (vp_in x1 8) ∧ ((p_X8_canStand x3) ∧ ((((f_X8_canStand S (f_X8_turned (S.1 9 x1.toNatClampNeg) x2) x3) = true) → ((vp_in x1 8) ∧ ((p_X8_canStand x5) ∧ ((((f_X8_canStand S (f_X8_turned (S.1 9 x1.toNatClampNeg) x4) x5) = true) → (∃ (S1 : MS), (Fn X.l X.D X.E X.a1 X.a2 yX8_findFar wsX8_findFar 4 93 [.ref (ad 0), .int x1, .int x2, .int x3] (mW X.E ad S) none (mW X.E ad S1)) ∧ ((vp_in ((64 * x4) + x5) 256) ∧ (Ends X (some .int) (some (.int (S1.1 11 (((64 * x4) + x5).toNatClampNeg)))) (mW X.E ad S1))))) ∧ ((f_X8_canStand S (f_X8_turned (S.1 9 x1.toNatClampNeg) x4) x5) = false → (Ends X (some .int) (some (.int (-3))) (mW X.E ad S))))))) ∧ ((f_X8_canStand S (f_X8_turned (S.1 9 x1.toNatClampNeg) x2) x3) = false → (Ends X (some .int) (some (.int (-3))) (mW X.E ad S)))))) : At X 6 (mW X.E ad S) 0 [(0, .ref (ad 0)), (1, .int x1), (2, .int x2), (3, .int x3), (4, .int x4), (5, .int x5)] [] := by
  refine at_aload_n C dX8_throughOf_0 rfl (j := 0) rfl ?_
  refine at_aload_n C dX8_throughOf_1 rfl (j := 0) rfl ?_
  refine at_get C (K := RX8) (T := TX8) (N := 18) (ci := 7) (v := .ref (ad 7)) iw_X8_throughOf_X8 0 mW_c0 rfl 9 (by decide) lk_X8_throughOf_0 rfl dX8_throughOf_2 ?_
  refine at_iload_n C dX8_throughOf_5 rfl (j := 1) rfl ?_
  refine at_iald C 7 mW_c7 h.1 dX8_throughOf_6 ?_
  replace h := h.2
  refine at_iload_n C dX8_throughOf_7 rfl (j := 2) rfl ?_
  refine at_cS0 C 2 (c_X8_turned X.l X.D X.E X.a1 X.a2 (S.1 9 x1.toNatClampNeg) x2) gX8_throughOf_X8_turned rfl (by decide +kernel) ⟨rfl, rfl⟩ rfl rfl rfl dX8_throughOf_8 ?_
  refine at_iload_n C dX8_throughOf_11 rfl (j := 3) rfl ?_
  refine at_cV1 C 2 (c_X8_canStand X.l X.D X.E X.a1 X.a2 ad S (f_X8_turned (S.1 9 x1.toNatClampNeg) x2) x3 h.1) gX8_throughOf_X8_canStand rfl (by decide +kernel) ⟨rfl, rfl⟩ rfl rfl rfl 0 mW_c0 rfl dX8_throughOf_12 ?_
  replace h := h.2
  refine at_ifB_eq C dX8_throughOf_15 (tgt := 38) (by decide) (fun hc0 => ?_) (fun hc0 => ?_)
  · replace h := h.2 hc0
    refine at_bipush C dX8_throughOf_38 (v := (-3)) rfl ?_
    exact at_iret C dX8_throughOf_40 h
  · replace h := h.1 hc0
    refine at_aload_n C dX8_throughOf_18 rfl (j := 0) rfl ?_
    refine at_aload_n C dX8_throughOf_19 rfl (j := 0) rfl ?_
    refine at_get C (K := RX8) (T := TX8) (N := 18) (ci := 7) (v := .ref (ad 7)) iw_X8_throughOf_X8 0 mW_c0 rfl 9 (by decide) lk_X8_throughOf_0 rfl dX8_throughOf_20 ?_
    refine at_iload_n C dX8_throughOf_23 rfl (j := 1) rfl ?_
    refine at_iald C 7 mW_c7 h.1 dX8_throughOf_24 ?_
    replace h := h.2
    refine at_iload C dX8_throughOf_25 (j := 4) rfl ?_
    refine at_cS0 C 2 (c_X8_turned X.l X.D X.E X.a1 X.a2 (S.1 9 x1.toNatClampNeg) x4) gX8_throughOf_X8_turned rfl (by decide +kernel) ⟨rfl, rfl⟩ rfl rfl rfl dX8_throughOf_27 ?_
    refine at_iload C dX8_throughOf_30 (j := 5) rfl ?_
    refine at_cV1 C 2 (c_X8_canStand X.l X.D X.E X.a1 X.a2 ad S (f_X8_turned (S.1 9 x1.toNatClampNeg) x4) x5 h.1) gX8_throughOf_X8_canStand rfl (by decide +kernel) ⟨rfl, rfl⟩ rfl rfl rfl 0 mW_c0 rfl dX8_throughOf_32 ?_
    replace h := h.2
    refine at_ifB_ne C dX8_throughOf_35 (tgt := 41) (by decide) (fun hc1 => ?_) (fun hc1 => ?_)
    · replace h := h.1 hc1
      refine at_aload_n C dX8_throughOf_41 rfl (j := 0) rfl ?_
      refine at_iload_n C dX8_throughOf_42 rfl (j := 1) rfl ?_
      refine at_iload_n C dX8_throughOf_43 rfl (j := 2) rfl ?_
      refine at_iload_n C dX8_throughOf_44 rfl (j := 3) rfl ?_
      obtain ⟨S1, hF1, h⟩ := h
      refine at_cV1v C 3 hF1 gX8_throughOf_X8_findFar rfl (by decide +kernel) ⟨rfl, rfl⟩ rfl rfl rfl 0 mW_c0 rfl dX8_throughOf_45 ?_
      refine at_aload_n C dX8_throughOf_48 rfl (j := 0) rfl ?_
      refine at_get C (K := RX8) (T := TX8) (N := 18) (ci := 7) (v := .ref (ad 9)) iw_X8_throughOf_X8 0 mW_c0 rfl 11 (by decide) lk_X8_throughOf_1 rfl dX8_throughOf_49 ?_
      refine at_bipush C dX8_throughOf_52 (v := 64) rfl ?_
      refine at_iload C dX8_throughOf_54 (j := 4) rfl ?_
      refine at_imul C dX8_throughOf_56 ?_
      refine at_iload C dX8_throughOf_57 (j := 5) rfl ?_
      refine at_iadd C dX8_throughOf_59 ?_
      refine at_iald C 9 mW_c9 h.1 dX8_throughOf_60 ?_
      replace h := h.2
      exact at_iret C dX8_throughOf_61 h
    · replace h := h.2 hc1
      refine at_bipush C dX8_throughOf_38 (v := (-3)) rfl ?_
      exact at_iret C dX8_throughOf_40 h
set_option maxRecDepth 20000 in
theorem ggX8_reachOf_X8_turned : GoodIn wsX8_reachOf wsX8_turned := goodIn_r _ [6, 7, 8, 5, 9, 10, 11, 12] (by decide +kernel) (by decide +kernel)
set_option maxRecDepth 20000 in
theorem gX8_reachOf_X8_turned : GoodIn wsX8_reachOf (va_wsS RX8 132 yX8_turned wsX8_turned) := goodIn_app (goodIn_of _ (by decide +kernel)) ggX8_reachOf_X8_turned
set_option maxRecDepth 20000 in
theorem ggX8_reachOf_X8_canStand : GoodIn wsX8_reachOf wsX8_canStand := goodIn_r _ [16, 17, 10, 11, 5, 12, 18, 19, 20, 35, 36, 37, 38, 39, 40, 41, 42, 43, 44, 45, 46, 47, 48, 49, 50, 51, 52] (by decide +kernel) (by decide +kernel)
set_option maxRecDepth 20000 in
theorem gX8_reachOf_X8_canStand : GoodIn wsX8_reachOf (wsV RX8 192 RX8 yX8_canStand wsX8_canStand) := goodIn_app (goodIn_of _ (by decide +kernel)) ggX8_reachOf_X8_canStand
set_option maxRecDepth 20000 in
theorem ggX8_reachOf_X8_findFar : GoodIn wsX8_reachOf wsX8_findFar := goodIn_r _ [24, 2, 25, 26, 27, 28, 29, 5, 30, 31, 1, 32, 33, 34, 3, 4, 6, 7, 8, 9, 10, 11, 12, 13, 14, 15, 16, 17, 18, 19, 20, 35, 36, 37, 38, 39, 40, 41, 42, 43, 44, 45, 46, 47, 48, 49, 50, 51, 52] (by decide +kernel) (by decide +kernel)
set_option maxRecDepth 20000 in
theorem gX8_reachOf_X8_findFar : GoodIn wsX8_reachOf (wsV RX8 204 RX8 yX8_findFar wsX8_findFar) := goodIn_app (goodIn_of _ (by decide +kernel)) ggX8_reachOf_X8_findFar
theorem dX8_reachOf_0 : decode cX8_reachOf 0 = .ok (.aload_n 0, 1) := by decide +kernel
theorem dX8_reachOf_1 : decode cX8_reachOf 1 = .ok (.aload_n 0, 1) := by decide +kernel
theorem dX8_reachOf_2 : decode cX8_reachOf 2 = .ok (.getfield 28, 3) := by decide +kernel
theorem dX8_reachOf_5 : decode cX8_reachOf 5 = .ok (.iload_n 1, 1) := by decide +kernel
theorem dX8_reachOf_6 : decode cX8_reachOf 6 = .ok (.iaload, 1) := by decide +kernel
theorem dX8_reachOf_7 : decode cX8_reachOf 7 = .ok (.iload_n 2, 1) := by decide +kernel
theorem dX8_reachOf_8 : decode cX8_reachOf 8 = .ok (.invokestatic 132, 3) := by decide +kernel
theorem dX8_reachOf_11 : decode cX8_reachOf 11 = .ok (.iload_n 3, 1) := by decide +kernel
theorem dX8_reachOf_12 : decode cX8_reachOf 12 = .ok (.invokevirtual 192, 3) := by decide +kernel
theorem dX8_reachOf_15 : decode cX8_reachOf 15 = .ok (.ifCond .ne 6, 3) := by decide +kernel
theorem dX8_reachOf_18 : decode cX8_reachOf 18 = .ok (.bipush (-3), 2) := by decide +kernel
theorem dX8_reachOf_20 : decode cX8_reachOf 20 = .ok (.ireturn, 1) := by decide +kernel
theorem dX8_reachOf_21 : decode cX8_reachOf 21 = .ok (.aload_n 0, 1) := by decide +kernel
theorem dX8_reachOf_22 : decode cX8_reachOf 22 = .ok (.iload_n 1, 1) := by decide +kernel
theorem dX8_reachOf_23 : decode cX8_reachOf 23 = .ok (.iload_n 2, 1) := by decide +kernel
theorem dX8_reachOf_24 : decode cX8_reachOf 24 = .ok (.iload_n 3, 1) := by decide +kernel
theorem dX8_reachOf_25 : decode cX8_reachOf 25 = .ok (.invokevirtual 204, 3) := by decide +kernel
theorem dX8_reachOf_28 : decode cX8_reachOf 28 = .ok (.iconst 0, 1) := by decide +kernel
theorem dX8_reachOf_29 : decode cX8_reachOf 29 = .ok (.istore 4, 2) := by decide +kernel
theorem dX8_reachOf_31 : decode cX8_reachOf 31 = .ok (.iconst 0, 1) := by decide +kernel
theorem dX8_reachOf_32 : decode cX8_reachOf 32 = .ok (.istore 5, 2) := by decide +kernel
theorem dX8_reachOf_34 : decode cX8_reachOf 34 = .ok (.iload 5, 2) := by decide +kernel
theorem dX8_reachOf_36 : decode cX8_reachOf 36 = .ok (.bipush 64, 2) := by decide +kernel
theorem dX8_reachOf_38 : decode cX8_reachOf 38 = .ok (.if_icmp .ge 70, 3) := by decide +kernel
theorem dX8_reachOf_41 : decode cX8_reachOf 41 = .ok (.iload 4, 2) := by decide +kernel
theorem dX8_reachOf_43 : decode cX8_reachOf 43 = .ok (.aload_n 0, 1) := by decide +kernel
theorem dX8_reachOf_44 : decode cX8_reachOf 44 = .ok (.getfield 35, 3) := by decide +kernel
theorem dX8_reachOf_47 : decode cX8_reachOf 47 = .ok (.iload 5, 2) := by decide +kernel
theorem dX8_reachOf_49 : decode cX8_reachOf 49 = .ok (.iaload, 1) := by decide +kernel
theorem dX8_reachOf_50 : decode cX8_reachOf 50 = .ok (.ifCond .ge 44, 3) := by decide +kernel
theorem dX8_reachOf_53 : decode cX8_reachOf 53 = .ok (.aload_n 0, 1) := by decide +kernel
theorem dX8_reachOf_54 : decode cX8_reachOf 54 = .ok (.getfield 35, 3) := by decide +kernel
theorem dX8_reachOf_57 : decode cX8_reachOf 57 = .ok (.bipush 64, 2) := by decide +kernel
theorem dX8_reachOf_59 : decode cX8_reachOf 59 = .ok (.iload 5, 2) := by decide +kernel
theorem dX8_reachOf_61 : decode cX8_reachOf 61 = .ok (.iadd, 1) := by decide +kernel
theorem dX8_reachOf_62 : decode cX8_reachOf 62 = .ok (.iaload, 1) := by decide +kernel
theorem dX8_reachOf_63 : decode cX8_reachOf 63 = .ok (.ifCond .ge 31, 3) := by decide +kernel
theorem dX8_reachOf_66 : decode cX8_reachOf 66 = .ok (.aload_n 0, 1) := by decide +kernel
theorem dX8_reachOf_67 : decode cX8_reachOf 67 = .ok (.getfield 35, 3) := by decide +kernel
theorem dX8_reachOf_70 : decode cX8_reachOf 70 = .ok (.sipush 128, 3) := by decide +kernel
theorem dX8_reachOf_73 : decode cX8_reachOf 73 = .ok (.iload 5, 2) := by decide +kernel
theorem dX8_reachOf_75 : decode cX8_reachOf 75 = .ok (.iadd, 1) := by decide +kernel
theorem dX8_reachOf_76 : decode cX8_reachOf 76 = .ok (.iaload, 1) := by decide +kernel
theorem dX8_reachOf_77 : decode cX8_reachOf 77 = .ok (.ifCond .ge 17, 3) := by decide +kernel
theorem dX8_reachOf_80 : decode cX8_reachOf 80 = .ok (.aload_n 0, 1) := by decide +kernel
theorem dX8_reachOf_81 : decode cX8_reachOf 81 = .ok (.getfield 35, 3) := by decide +kernel
theorem dX8_reachOf_84 : decode cX8_reachOf 84 = .ok (.sipush 192, 3) := by decide +kernel
theorem dX8_reachOf_87 : decode cX8_reachOf 87 = .ok (.iload 5, 2) := by decide +kernel
theorem dX8_reachOf_89 : decode cX8_reachOf 89 = .ok (.iadd, 1) := by decide +kernel
theorem dX8_reachOf_90 : decode cX8_reachOf 90 = .ok (.iaload, 1) := by decide +kernel
theorem dX8_reachOf_91 : decode cX8_reachOf 91 = .ok (.ifCond .lt 7, 3) := by decide +kernel
theorem dX8_reachOf_94 : decode cX8_reachOf 94 = .ok (.iconst 1, 1) := by decide +kernel
theorem dX8_reachOf_95 : decode cX8_reachOf 95 = .ok (.goto 4, 3) := by decide +kernel
theorem dX8_reachOf_98 : decode cX8_reachOf 98 = .ok (.iconst 0, 1) := by decide +kernel
theorem dX8_reachOf_99 : decode cX8_reachOf 99 = .ok (.iadd, 1) := by decide +kernel
theorem dX8_reachOf_100 : decode cX8_reachOf 100 = .ok (.istore 4, 2) := by decide +kernel
theorem dX8_reachOf_102 : decode cX8_reachOf 102 = .ok (.iinc 5 1, 3) := by decide +kernel
theorem dX8_reachOf_105 : decode cX8_reachOf 105 = .ok (.goto (-71), 3) := by decide +kernel
theorem dX8_reachOf_108 : decode cX8_reachOf 108 = .ok (.iload 4, 2) := by decide +kernel
theorem dX8_reachOf_110 : decode cX8_reachOf 110 = .ok (.ireturn, 1) := by decide +kernel
theorem iw_X8_reachOf_X8 : ∀ w ∈ u_ws RX8 TX8 18, w ∈ wsX8_reachOf := by decide +kernel
theorem lk_X8_reachOf_0 : Cond.fieldLink RX8 28 (TX8 9).1 (TX8 9).2.1 (TX8 9).2.2.1 ∈ wsX8_reachOf := by decide +kernel
theorem lk_X8_reachOf_1 : Cond.fieldLink RX8 35 (TX8 11).1 (TX8 11).2.1 (TX8 11).2.2.1 ∈ wsX8_reachOf := by decide +kernel
set_option maxRecDepth 100000 in
theorem r_X8_reachOf_0 {X : Bn} (C : Cx X cX8_reachOf 6 RX8 wsX8_reachOf 5 121) (ad : Nat → Nat) (S : MS) (x1 : Int32) (x2 : Int32) (x3 : Int32) (h : (vp_in x1 8) ∧ ((p_X8_canStand x3) ∧ ((((f_X8_canStand S (f_X8_turned (S.1 9 x1.toNatClampNeg) x2) x3) = true) → (∃ (S1 : MS), (Fn X.l X.D X.E X.a1 X.a2 yX8_findFar wsX8_findFar 4 93 [.ref (ad 0), .int x1, .int x2, .int x3] (mW X.E ad S) none (mW X.E ad S1)) ∧ (At X 6 (mW X.E ad S1) 34 [(0, .ref (ad 0)), (4, .int 0), (5, .int 0)] []))) ∧ ((f_X8_canStand S (f_X8_turned (S.1 9 x1.toNatClampNeg) x2) x3) = false → (Ends X (some .int) (some (.int (-3))) (mW X.E ad S)))))) : At X 6 (mW X.E ad S) 0 [(0, .ref (ad 0)), (1, .int x1), (2, .int x2), (3, .int x3)] [] := by
  refine at_aload_n C dX8_reachOf_0 rfl (j := 0) rfl ?_
  refine at_aload_n C dX8_reachOf_1 rfl (j := 0) rfl ?_
  refine at_get C (K := RX8) (T := TX8) (N := 18) (ci := 7) (v := .ref (ad 7)) iw_X8_reachOf_X8 0 mW_c0 rfl 9 (by decide) lk_X8_reachOf_0 rfl dX8_reachOf_2 ?_
  refine at_iload_n C dX8_reachOf_5 rfl (j := 1) rfl ?_
  refine at_iald C 7 mW_c7 h.1 dX8_reachOf_6 ?_
  replace h := h.2
  refine at_iload_n C dX8_reachOf_7 rfl (j := 2) rfl ?_
  refine at_cS0 C 2 (c_X8_turned X.l X.D X.E X.a1 X.a2 (S.1 9 x1.toNatClampNeg) x2) gX8_reachOf_X8_turned rfl (by decide +kernel) ⟨rfl, rfl⟩ rfl rfl rfl dX8_reachOf_8 ?_
  refine at_iload_n C dX8_reachOf_11 rfl (j := 3) rfl ?_
  refine at_cV1 C 2 (c_X8_canStand X.l X.D X.E X.a1 X.a2 ad S (f_X8_turned (S.1 9 x1.toNatClampNeg) x2) x3 h.1) gX8_reachOf_X8_canStand rfl (by decide +kernel) ⟨rfl, rfl⟩ rfl rfl rfl 0 mW_c0 rfl dX8_reachOf_12 ?_
  replace h := h.2
  refine at_ifB_ne C dX8_reachOf_15 (tgt := 21) (by decide) (fun hc0 => ?_) (fun hc0 => ?_)
  · replace h := h.1 hc0
    refine at_aload_n C dX8_reachOf_21 rfl (j := 0) rfl ?_
    refine at_iload_n C dX8_reachOf_22 rfl (j := 1) rfl ?_
    refine at_iload_n C dX8_reachOf_23 rfl (j := 2) rfl ?_
    refine at_iload_n C dX8_reachOf_24 rfl (j := 3) rfl ?_
    obtain ⟨S1, hF1, h⟩ := h
    refine at_cV1v C 3 hF1 gX8_reachOf_X8_findFar rfl (by decide +kernel) ⟨rfl, rfl⟩ rfl rfl rfl 0 mW_c0 rfl dX8_reachOf_25 ?_
    refine at_iconst C dX8_reachOf_28 (v := 0) rfl ?_
    refine at_istore C dX8_reachOf_29 (by decide) (lv' := [(4, .int 0), (0, .ref (ad 0)), (1, .int x1), (2, .int x2), (3, .int x3)]) rfl ?_
    refine at_iconst C dX8_reachOf_31 (v := 0) rfl ?_
    refine at_istore C dX8_reachOf_32 (by decide) (lv' := [(5, .int 0), (4, .int 0), (0, .ref (ad 0)), (1, .int x1), (2, .int x2), (3, .int x3)]) rfl ?_
    refine at_lv [2, 1, 0] rfl ?_
    exact h
  · replace h := h.2 hc0
    refine at_bipush C dX8_reachOf_18 (v := (-3)) rfl ?_
    exact at_iret C dX8_reachOf_20 h
set_option maxRecDepth 100000 in
theorem r_X8_reachOf_34 {X : Bn} (C : Cx X cX8_reachOf 6 RX8 wsX8_reachOf 5 121) (ad : Nat → Nat) (S : MS) (x4 : Int32) (x5 : Int32) (h : ((64 ≤ x5) → (Ends X (some .int) (some (.int x4)) (mW X.E ad S))) ∧ (¬ 64 ≤ x5 → ((vp_in x5 256) ∧ ((((¬ 0 ≤ S.1 11 x5.toNatClampNeg) → (vp_in (64 + x5) 256) ∧ ((¬ 0 ≤ S.1 11 ((64 + x5).toNatClampNeg)) → (vp_in (128 + x5) 256) ∧ ((¬ 0 ≤ S.1 11 ((128 + x5).toNatClampNeg)) → (vp_in (192 + x5) 256))))) ∧ (At X 6 (mW X.E ad S) 34 [(0, .ref (ad 0)), (4, .int (x4 + (b2i (if 0 ≤ S.1 11 x5.toNatClampNeg then true else (if 0 ≤ S.1 11 ((64 + x5).toNatClampNeg) then true else (if 0 ≤ S.1 11 ((128 + x5).toNatClampNeg) then true else (if S.1 11 ((192 + x5).toNatClampNeg) < 0 then false else true))))))), (5, .int (x5 + 1))] []))))) : At X 6 (mW X.E ad S) 34 [(0, .ref (ad 0)), (4, .int x4), (5, .int x5)] [] := by
  refine at_iload C dX8_reachOf_34 (j := 2) rfl ?_
  refine at_bipush C dX8_reachOf_36 (v := 64) rfl ?_
  refine at_icmp_ge C dX8_reachOf_38 (tgt := 108) (by decide) (fun hc1 => ?_) (fun hc1 => ?_)
  · replace h := h.1 hc1
    refine at_iload C dX8_reachOf_108 (j := 1) rfl ?_
    exact at_iret C dX8_reachOf_110 h
  · replace h := h.2 hc1
    refine at_iload C dX8_reachOf_41 (j := 1) rfl ?_
    refine at_aload_n C dX8_reachOf_43 rfl (j := 0) rfl ?_
    refine at_get C (K := RX8) (T := TX8) (N := 18) (ci := 7) (v := .ref (ad 9)) iw_X8_reachOf_X8 0 mW_c0 rfl 11 (by decide) lk_X8_reachOf_1 rfl dX8_reachOf_44 ?_
    refine at_iload C dX8_reachOf_47 (j := 2) rfl ?_
    refine at_iald C 9 mW_c9 h.1 dX8_reachOf_49 ?_
    replace h := h.2
    have hq := h.1
    replace h := h.2
    have K : At X 6 (mW X.E ad S) 99 [(0, .ref (ad 0)), (5, .int x5)] [.int (b2i (if 0 ≤ S.1 11 x5.toNatClampNeg then true else (if 0 ≤ S.1 11 ((64 + x5).toNatClampNeg) then true else (if 0 ≤ S.1 11 ((128 + x5).toNatClampNeg) then true else (if S.1 11 ((192 + x5).toNatClampNeg) < 0 then false else true))))), .int x4] := by
      refine at_iadd C dX8_reachOf_99 ?_
      refine at_istore C dX8_reachOf_100 (by decide) (lv' := [(4, .int (x4 + (b2i (if 0 ≤ S.1 11 x5.toNatClampNeg then true else (if 0 ≤ S.1 11 ((64 + x5).toNatClampNeg) then true else (if 0 ≤ S.1 11 ((128 + x5).toNatClampNeg) then true else (if S.1 11 ((192 + x5).toNatClampNeg) < 0 then false else true))))))), (0, .ref (ad 0)), (5, .int x5)]) rfl ?_
      refine at_iinc C dX8_reachOf_102 (j := 2) (v := x5 + 1) rfl rfl (by decide) (lv' := [(5, .int (x5 + 1)), (4, .int (x4 + (b2i (if 0 ≤ S.1 11 x5.toNatClampNeg then true else (if 0 ≤ S.1 11 ((64 + x5).toNatClampNeg) then true else (if 0 ≤ S.1 11 ((128 + x5).toNatClampNeg) then true else (if S.1 11 ((192 + x5).toNatClampNeg) < 0 then false else true))))))), (0, .ref (ad 0))]) rfl ?_
      refine at_goto C dX8_reachOf_105 (tgt := 34) (by decide) ?_
      refine at_lv [2, 1, 0] rfl ?_
      exact h
    replace h := hq
    refine at_if_ge C dX8_reachOf_50 (tgt := 94) (by decide) (fun hc2 => ?_) (fun hc2 => ?_)
    · skip
      refine at_iconst C dX8_reachOf_94 (v := 1) rfl ?_
      refine at_goto C dX8_reachOf_95 (tgt := 99) (by decide) ?_
      refine at_lv [0, 2] rfl ?_
      first | (simp only [if_pos hc2] at K; exact K) | exact K
    · replace h := h hc2
      refine at_aload_n C dX8_reachOf_53 rfl (j := 0) rfl ?_
      refine at_get C (K := RX8) (T := TX8) (N := 18) (ci := 7) (v := .ref (ad 9)) iw_X8_reachOf_X8 0 mW_c0 rfl 11 (by decide) lk_X8_reachOf_1 rfl dX8_reachOf_54 ?_
      refine at_bipush C dX8_reachOf_57 (v := 64) rfl ?_
      refine at_iload C dX8_reachOf_59 (j := 2) rfl ?_
      refine at_iadd C dX8_reachOf_61 ?_
      refine at_iald C 9 mW_c9 h.1 dX8_reachOf_62 ?_
      replace h := h.2
      refine at_if_ge C dX8_reachOf_63 (tgt := 94) (by decide) (fun hc3 => ?_) (fun hc3 => ?_)
      · skip
        refine at_iconst C dX8_reachOf_94 (v := 1) rfl ?_
        refine at_goto C dX8_reachOf_95 (tgt := 99) (by decide) ?_
        refine at_lv [0, 2] rfl ?_
        first | (simp only [if_neg hc2, if_pos hc3] at K; exact K) | exact K
      · replace h := h hc3
        refine at_aload_n C dX8_reachOf_66 rfl (j := 0) rfl ?_
        refine at_get C (K := RX8) (T := TX8) (N := 18) (ci := 7) (v := .ref (ad 9)) iw_X8_reachOf_X8 0 mW_c0 rfl 11 (by decide) lk_X8_reachOf_1 rfl dX8_reachOf_67 ?_
        refine at_sipush C dX8_reachOf_70 (v := 128) rfl ?_
        refine at_iload C dX8_reachOf_73 (j := 2) rfl ?_
        refine at_iadd C dX8_reachOf_75 ?_
        refine at_iald C 9 mW_c9 h.1 dX8_reachOf_76 ?_
        replace h := h.2
        refine at_if_ge C dX8_reachOf_77 (tgt := 94) (by decide) (fun hc4 => ?_) (fun hc4 => ?_)
        · skip
          refine at_iconst C dX8_reachOf_94 (v := 1) rfl ?_
          refine at_goto C dX8_reachOf_95 (tgt := 99) (by decide) ?_
          refine at_lv [0, 2] rfl ?_
          first | (simp only [if_neg hc2, if_neg hc3, if_pos hc4] at K; exact K) | exact K
        · replace h := h hc4
          refine at_aload_n C dX8_reachOf_80 rfl (j := 0) rfl ?_
          refine at_get C (K := RX8) (T := TX8) (N := 18) (ci := 7) (v := .ref (ad 9)) iw_X8_reachOf_X8 0 mW_c0 rfl 11 (by decide) lk_X8_reachOf_1 rfl dX8_reachOf_81 ?_
          refine at_sipush C dX8_reachOf_84 (v := 192) rfl ?_
          refine at_iload C dX8_reachOf_87 (j := 2) rfl ?_
          refine at_iadd C dX8_reachOf_89 ?_
          refine at_iald C 9 mW_c9 h dX8_reachOf_90 ?_
          refine at_if_lt C dX8_reachOf_91 (tgt := 98) (by decide) (fun hc5 => ?_) (fun hc5 => ?_)
          · skip
            refine at_iconst C dX8_reachOf_98 (v := 0) rfl ?_
            refine at_lv [0, 2] rfl ?_
            first | (simp only [if_neg hc2, if_neg hc3, if_neg hc4, if_pos hc5] at K; exact K) | exact K
          · skip
            refine at_iconst C dX8_reachOf_94 (v := 1) rfl ?_
            refine at_goto C dX8_reachOf_95 (tgt := 99) (by decide) ?_
            refine at_lv [0, 2] rfl ?_
            first | (simp only [if_neg hc2, if_neg hc3, if_neg hc4, if_neg hc5] at K; exact K) | exact K
