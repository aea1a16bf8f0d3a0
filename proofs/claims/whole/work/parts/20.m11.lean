set_option maxRecDepth 20000 in
theorem ggX8_worstFrom_X8_turned : GoodIn wsX8_worstFrom wsX8_turned := goodIn_r _ [7, 8, 9, 6, 10, 11, 12, 13] (by decide +kernel) (by decide +kernel)
set_option maxRecDepth 20000 in
theorem gX8_worstFrom_X8_turned : GoodIn wsX8_worstFrom (va_wsS RX8 132 yX8_turned wsX8_turned) := goodIn_app (goodIn_of _ (by decide +kernel)) ggX8_worstFrom_X8_turned
set_option maxRecDepth 20000 in
theorem ggX8_worstFrom_X8_sightOf : GoodIn wsX8_worstFrom wsX8_sightOf := goodIn_r _ [16, 11, 12, 6, 13, 17, 18, 19] (by decide +kernel) (by decide +kernel)
set_option maxRecDepth 20000 in
theorem gX8_worstFrom_X8_sightOf : GoodIn wsX8_worstFrom (va_wsS RX8 156 yX8_sightOf wsX8_sightOf) := goodIn_app (goodIn_of _ (by decide +kernel)) ggX8_worstFrom_X8_sightOf
set_option maxRecDepth 20000 in
theorem ggX8_worstFrom_X8_isFit : GoodIn wsX8_worstFrom wsX8_isFit := goodIn_r _ [23, 24, 3, 25, 4, 5, 6, 7, 8, 9, 10, 11, 12, 13, 14, 15, 16, 17, 18, 19, 29, 30, 31, 32, 33, 34, 35, 36, 37, 38, 39, 40, 41, 42, 43, 44, 45, 46] (by decide +kernel) (by decide +kernel)
set_option maxRecDepth 20000 in
theorem gX8_worstFrom_X8_isFit : GoodIn wsX8_worstFrom (wsV RX8 229 RX8 yX8_isFit wsX8_isFit) := goodIn_app (goodIn_of _ (by decide +kernel)) ggX8_worstFrom_X8_isFit
set_option maxRecDepth 20000 in
theorem ggX8_worstFrom_X8_ones : GoodIn wsX8_worstFrom wsX8_ones := goodIn_r _ [28] (by decide +kernel) (by decide +kernel)
set_option maxRecDepth 20000 in
theorem gX8_worstFrom_X8_ones : GoodIn wsX8_worstFrom (va_wsS RX8 169 yX8_ones wsX8_ones) := goodIn_app (goodIn_of _ (by decide +kernel)) ggX8_worstFrom_X8_ones
theorem dX8_worstFrom_0 : decode cX8_worstFrom 0 = .ok (.iconst 0, 1) := by decide +kernel
theorem dX8_worstFrom_1 : decode cX8_worstFrom 1 = .ok (.istore_n 2, 1) := by decide +kernel
theorem dX8_worstFrom_2 : decode cX8_worstFrom 2 = .ok (.iload_n 2, 1) := by decide +kernel
theorem dX8_worstFrom_3 : decode cX8_worstFrom 3 = .ok (.sipush 625, 3) := by decide +kernel
theorem dX8_worstFrom_6 : decode cX8_worstFrom 6 = .ok (.if_icmp .ge 16, 3) := by decide +kernel
theorem dX8_worstFrom_9 : decode cX8_worstFrom 9 = .ok (.aload_n 0, 1) := by decide +kernel
theorem dX8_worstFrom_10 : decode cX8_worstFrom 10 = .ok (.getfield 44, 3) := by decide +kernel
theorem dX8_worstFrom_13 : decode cX8_worstFrom 13 = .ok (.iload_n 2, 1) := by decide +kernel
theorem dX8_worstFrom_14 : decode cX8_worstFrom 14 = .ok (.iconst 0, 1) := by decide +kernel
theorem dX8_worstFrom_15 : decode cX8_worstFrom 15 = .ok (.iastore, 1) := by decide +kernel
theorem dX8_worstFrom_16 : decode cX8_worstFrom 16 = .ok (.iinc 2 1, 3) := by decide +kernel
theorem dX8_worstFrom_19 : decode cX8_worstFrom 19 = .ok (.goto (-17), 3) := by decide +kernel
theorem dX8_worstFrom_22 : decode cX8_worstFrom 22 = .ok (.iconst 0, 1) := by decide +kernel
theorem dX8_worstFrom_23 : decode cX8_worstFrom 23 = .ok (.istore_n 2, 1) := by decide +kernel
theorem dX8_worstFrom_24 : decode cX8_worstFrom 24 = .ok (.iconst 0, 1) := by decide +kernel
theorem dX8_worstFrom_25 : decode cX8_worstFrom 25 = .ok (.istore_n 3, 1) := by decide +kernel
theorem dX8_worstFrom_26 : decode cX8_worstFrom 26 = .ok (.iload_n 3, 1) := by decide +kernel
theorem dX8_worstFrom_27 : decode cX8_worstFrom 27 = .ok (.aload_n 0, 1) := by decide +kernel
theorem dX8_worstFrom_28 : decode cX8_worstFrom 28 = .ok (.getfield 90, 3) := by decide +kernel
theorem dX8_worstFrom_31 : decode cX8_worstFrom 31 = .ok (.if_icmp .ge 97, 3) := by decide +kernel
theorem dX8_worstFrom_34 : decode cX8_worstFrom 34 = .ok (.iconst 0, 1) := by decide +kernel
theorem dX8_worstFrom_35 : decode cX8_worstFrom 35 = .ok (.istore 4, 2) := by decide +kernel
theorem dX8_worstFrom_37 : decode cX8_worstFrom 37 = .ok (.iload 4, 2) := by decide +kernel
theorem dX8_worstFrom_39 : decode cX8_worstFrom 39 = .ok (.iconst 4, 1) := by decide +kernel
theorem dX8_worstFrom_40 : decode cX8_worstFrom 40 = .ok (.if_icmp .ge 82, 3) := by decide +kernel
theorem dX8_worstFrom_43 : decode cX8_worstFrom 43 = .ok (.aload_n 0, 1) := by decide +kernel
theorem dX8_worstFrom_44 : decode cX8_worstFrom 44 = .ok (.getfield 28, 3) := by decide +kernel
theorem dX8_worstFrom_47 : decode cX8_worstFrom 47 = .ok (.iload_n 3, 1) := by decide +kernel
theorem dX8_worstFrom_48 : decode cX8_worstFrom 48 = .ok (.iaload, 1) := by decide +kernel
theorem dX8_worstFrom_49 : decode cX8_worstFrom 49 = .ok (.iload 4, 2) := by decide +kernel
theorem dX8_worstFrom_51 : decode cX8_worstFrom 51 = .ok (.invokestatic 132, 3) := by decide +kernel
theorem dX8_worstFrom_54 : decode cX8_worstFrom 54 = .ok (.iload_n 1, 1) := by decide +kernel
theorem dX8_worstFrom_55 : decode cX8_worstFrom 55 = .ok (.invokestatic 156, 3) := by decide +kernel
theorem dX8_worstFrom_58 : decode cX8_worstFrom 58 = .ok (.istore 5, 2) := by decide +kernel
theorem dX8_worstFrom_60 : decode cX8_worstFrom 60 = .ok (.aload_n 0, 1) := by decide +kernel
theorem dX8_worstFrom_61 : decode cX8_worstFrom 61 = .ok (.getfield 44, 3) := by decide +kernel
theorem dX8_worstFrom_64 : decode cX8_worstFrom 64 = .ok (.iload 5, 2) := by decide +kernel
theorem dX8_worstFrom_66 : decode cX8_worstFrom 66 = .ok (.dup2, 1) := by decide +kernel
theorem dX8_worstFrom_67 : decode cX8_worstFrom 67 = .ok (.iaload, 1) := by decide +kernel
theorem dX8_worstFrom_68 : decode cX8_worstFrom 68 = .ok (.aload_n 0, 1) := by decide +kernel
theorem dX8_worstFrom_69 : decode cX8_worstFrom 69 = .ok (.iload_n 3, 1) := by decide +kernel
theorem dX8_worstFrom_70 : decode cX8_worstFrom 70 = .ok (.iload 4, 2) := by decide +kernel
theorem dX8_worstFrom_72 : decode cX8_worstFrom 72 = .ok (.invokevirtual 229, 3) := by decide +kernel
theorem dX8_worstFrom_75 : decode cX8_worstFrom 75 = .ok (.ifCond .eq 9, 3) := by decide +kernel
theorem dX8_worstFrom_78 : decode cX8_worstFrom 78 = .ok (.iconst 1, 1) := by decide +kernel
theorem dX8_worstFrom_79 : decode cX8_worstFrom 79 = .ok (.iload_n 3, 1) := by decide +kernel
theorem dX8_worstFrom_80 : decode cX8_worstFrom 80 = .ok (.ishl, 1) := by decide +kernel
theorem dX8_worstFrom_81 : decode cX8_worstFrom 81 = .ok (.goto 4, 3) := by decide +kernel
theorem dX8_worstFrom_84 : decode cX8_worstFrom 84 = .ok (.iconst 0, 1) := by decide +kernel
theorem dX8_worstFrom_85 : decode cX8_worstFrom 85 = .ok (.ior, 1) := by decide +kernel
theorem dX8_worstFrom_86 : decode cX8_worstFrom 86 = .ok (.iastore, 1) := by decide +kernel
theorem dX8_worstFrom_87 : decode cX8_worstFrom 87 = .ok (.aload_n 0, 1) := by decide +kernel
theorem dX8_worstFrom_88 : decode cX8_worstFrom 88 = .ok (.getfield 44, 3) := by decide +kernel
theorem dX8_worstFrom_91 : decode cX8_worstFrom 91 = .ok (.iload 5, 2) := by decide +kernel
theorem dX8_worstFrom_93 : decode cX8_worstFrom 93 = .ok (.iaload, 1) := by decide +kernel
theorem dX8_worstFrom_94 : decode cX8_worstFrom 94 = .ok (.invokestatic 169, 3) := by decide +kernel
theorem dX8_worstFrom_97 : decode cX8_worstFrom 97 = .ok (.iload_n 2, 1) := by decide +kernel
theorem dX8_worstFrom_98 : decode cX8_worstFrom 98 = .ok (.if_icmp .le 16, 3) := by decide +kernel
theorem dX8_worstFrom_101 : decode cX8_worstFrom 101 = .ok (.aload_n 0, 1) := by decide +kernel
theorem dX8_worstFrom_102 : decode cX8_worstFrom 102 = .ok (.getfield 44, 3) := by decide +kernel
theorem dX8_worstFrom_105 : decode cX8_worstFrom 105 = .ok (.iload 5, 2) := by decide +kernel
theorem dX8_worstFrom_107 : decode cX8_worstFrom 107 = .ok (.iaload, 1) := by decide +kernel
theorem dX8_worstFrom_108 : decode cX8_worstFrom 108 = .ok (.invokestatic 169, 3) := by decide +kernel
theorem dX8_worstFrom_111 : decode cX8_worstFrom 111 = .ok (.goto 4, 3) := by decide +kernel
theorem dX8_worstFrom_114 : decode cX8_worstFrom 114 = .ok (.iload_n 2, 1) := by decide +kernel
theorem dX8_worstFrom_115 : decode cX8_worstFrom 115 = .ok (.istore_n 2, 1) := by decide +kernel
theorem dX8_worstFrom_116 : decode cX8_worstFrom 116 = .ok (.iinc 4 1, 3) := by decide +kernel
theorem dX8_worstFrom_119 : decode cX8_worstFrom 119 = .ok (.goto (-82), 3) := by decide +kernel
theorem dX8_worstFrom_122 : decode cX8_worstFrom 122 = .ok (.iinc 3 1, 3) := by decide +kernel
theorem dX8_worstFrom_125 : decode cX8_worstFrom 125 = .ok (.goto (-99), 3) := by decide +kernel
theorem dX8_worstFrom_128 : decode cX8_worstFrom 128 = .ok (.iload_n 2, 1) := by decide +kernel
theorem dX8_worstFrom_129 : decode cX8_worstFrom 129 = .ok (.ireturn, 1) := by decide +kernel
theorem iw_X8_worstFrom_X8 : ∀ w ∈ u_ws RX8 TX8 18, w ∈ wsX8_worstFrom := by decide +kernel
theorem lk_X8_worstFrom_0 : Cond.fieldLink RX8 44 (TX8 16).1 (TX8 16).2.1 (TX8 16).2.2.1 ∈ wsX8_worstFrom := by decide +kernel
theorem lk_X8_worstFrom_1 : Cond.fieldLink RX8 90 (TX8 8).1 (TX8 8).2.1 (TX8 8).2.2.1 ∈ wsX8_worstFrom := by decide +kernel
theorem lk_X8_worstFrom_2 : Cond.fieldLink RX8 28 (TX8 9).1 (TX8 9).2.1 (TX8 9).2.2.1 ∈ wsX8_worstFrom := by decide +kernel
set_option maxRecDepth 100000 in
theorem r_X8_worstFrom_0 {X : Bn} (C : Cx X cX8_worstFrom 6 RX8 wsX8_worstFrom 4 91) (ad : Nat → Nat) (S : MS) (x1 : Int32) (h : At X 6 (mW X.E ad S) 2 [(0, .ref (ad 0)), (1, .int x1), (2, .int 0)] []) : At X 6 (mW X.E ad S) 0 [(0, .ref (ad 0)), (1, .int x1)] [] := by
  refine at_iconst C dX8_worstFrom_0 (v := 0) rfl ?_
  refine at_istore_n C dX8_worstFrom_1 rfl (by decide) (lv' := [(2, .int 0), (0, .ref (ad 0)), (1, .int x1)]) rfl ?_
  refine at_lv [1, 2, 0] rfl ?_
  exact h
set_option maxRecDepth 100000 in
theorem r_X8_worstFrom_2 {X : Bn} (C : Cx X cX8_worstFrom 6 RX8 wsX8_worstFrom 4 91) (ad : Nat → Nat) (S : MS) (x1 : Int32) (x2 : Int32) (h : ((625 ≤ x2) → (At X 6 (mW X.E ad S) 26 [(0, .ref (ad 0)), (1, .int x1), (2, .int 0), (3, .int 0)] [])) ∧ (¬ 625 ≤ x2 → ((vp_in x2 625) ∧ (At X 6 (mW X.E ad (pg S 16 x2.toNatClampNeg 0)) 2 [(0, .ref (ad 0)), (1, .int x1), (2, .int (x2 + 1))] [])))) : At X 6 (mW X.E ad S) 2 [(0, .ref (ad 0)), (1, .int x1), (2, .int x2)] [] := by
  refine at_iload_n C dX8_worstFrom_2 rfl (j := 2) rfl ?_
  refine at_sipush C dX8_worstFrom_3 (v := 625) rfl ?_
  refine at_icmp_ge C dX8_worstFrom_6 (tgt := 22) (by decide) (fun hc0 => ?_) (fun hc0 => ?_)
  · replace h := h.1 hc0
    refine at_iconst C dX8_worstFrom_22 (v := 0) rfl ?_
    refine at_istore_n C dX8_worstFrom_23 rfl (by decide) (lv' := [(2, .int 0), (0, .ref (ad 0)), (1, .int x1)]) rfl ?_
    refine at_iconst C dX8_worstFrom_24 (v := 0) rfl ?_
    refine at_istore_n C dX8_worstFrom_25 rfl (by decide) (lv' := [(3, .int 0), (2, .int 0), (0, .ref (ad 0)), (1, .int x1)]) rfl ?_
    refine at_lv [2, 3, 1, 0] rfl ?_
    exact h
  · replace h := h.2 hc0
    refine at_aload_n C dX8_worstFrom_9 rfl (j := 0) rfl ?_
    refine at_get C (K := RX8) (T := TX8) (N := 18) (ci := 7) (v := .ref (ad 12)) iw_X8_worstFrom_X8 0 mW_c0 rfl 16 (by decide) lk_X8_worstFrom_0 rfl dX8_worstFrom_10 ?_
    refine at_iload_n C dX8_worstFrom_13 rfl (j := 2) rfl ?_
    refine at_iconst C dX8_worstFrom_14 (v := 0) rfl ?_
    refine at_iast C 12 mW_c12 h.1 mW_s12 dX8_worstFrom_15 ?_
    replace h := h.2
    refine at_iinc C dX8_worstFrom_16 (j := 2) (v := x2 + 1) rfl rfl (by decide) (lv' := [(2, .int (x2 + 1)), (0, .ref (ad 0)), (1, .int x1)]) rfl ?_
    refine at_goto C dX8_worstFrom_19 (tgt := 2) (by decide) ?_
    refine at_lv [1, 2, 0] rfl ?_
    exact h
set_option maxRecDepth 100000 in
theorem r_X8_worstFrom_26 {X : Bn} (C : Cx X cX8_worstFrom 6 RX8 wsX8_worstFrom 4 91) (ad : Nat → Nat) (S : MS) (x1 : Int32) (x2 : Int32) (x3 : Int32) (h : ((S.1 8 0 ≤ x3) → (Ends X (some .int) (some (.int x2)) (mW X.E ad S))) ∧ (¬ S.1 8 0 ≤ x3 → (At X 6 (mW X.E ad S) 37 [(0, .ref (ad 0)), (1, .int x1), (2, .int x2), (3, .int x3), (4, .int 0)] []))) : At X 6 (mW X.E ad S) 26 [(0, .ref (ad 0)), (1, .int x1), (2, .int x2), (3, .int x3)] [] := by
  refine at_iload_n C dX8_worstFrom_26 rfl (j := 3) rfl ?_
  refine at_aload_n C dX8_worstFrom_27 rfl (j := 0) rfl ?_
  refine at_get C (K := RX8) (T := TX8) (N := 18) (ci := 7) (v := .int (S.1 8 0)) iw_X8_worstFrom_X8 0 mW_c0 rfl 8 (by decide) lk_X8_worstFrom_1 rfl dX8_worstFrom_28 ?_
  refine at_icmp_ge C dX8_worstFrom_31 (tgt := 128) (by decide) (fun hc1 => ?_) (fun hc1 => ?_)
  · replace h := h.1 hc1
    refine at_iload_n C dX8_worstFrom_128 rfl (j := 2) rfl ?_
    exact at_iret C dX8_worstFrom_129 h
  · replace h := h.2 hc1
    refine at_iconst C dX8_worstFrom_34 (v := 0) rfl ?_
    refine at_istore C dX8_worstFrom_35 (by decide) (lv' := [(4, .int 0), (0, .ref (ad 0)), (1, .int x1), (2, .int x2), (3, .int x3)]) rfl ?_
    refine at_lv [1, 2, 3, 4, 0] rfl ?_
    exact h
set_option maxRecDepth 100000 in
theorem r_X8_worstFrom_37 {X : Bn} (C : Cx X cX8_worstFrom 6 RX8 wsX8_worstFrom 4 91) (ad : Nat → Nat) (S : MS) (x1 : Int32) (x2 : Int32) (x3 : Int32) (x4 : Int32) (h : ((4 ≤ x4) → (At X 6 (mW X.E ad S) 26 [(0, .ref (ad 0)), (1, .int x1), (2, .int x2), (3, .int (x3 + 1))] [])) ∧ (¬ 4 ≤ x4 → ((vp_in x3 8) ∧ ((vp_in (f_X8_sightOf (f_X8_turned (S.1 9 x3.toNatClampNeg) x4) x1) 625) ∧ ((p_X8_isFit S x3) ∧ ((vp_in (f_X8_sightOf (f_X8_turned (S.1 9 x3.toNatClampNeg) x4) x1) 625) ∧ ((vp_in (f_X8_sightOf (f_X8_turned (S.1 9 x3.toNatClampNeg) x4) x1) 625) ∧ ((((¬ f_X8_ones ((pg S 16 ((f_X8_sightOf (f_X8_turned (S.1 9 x3.toNatClampNeg) x4) x1).toNatClampNeg) ((S.1 16 ((f_X8_sightOf (f_X8_turned (S.1 9 x3.toNatClampNeg) x4) x1).toNatClampNeg)) ||| (if (f_X8_isFit S x3 x4) then ishl 1 x3 else 0))).1 16 ((f_X8_sightOf (f_X8_turned (S.1 9 x3.toNatClampNeg) x4) x1).toNatClampNeg)) ≤ x2) → (vp_in (f_X8_sightOf (f_X8_turned (S.1 9 x3.toNatClampNeg) x4) x1) 625))) ∧ (At X 6 (mW X.E ad (pg S 16 ((f_X8_sightOf (f_X8_turned (S.1 9 x3.toNatClampNeg) x4) x1).toNatClampNeg) ((S.1 16 ((f_X8_sightOf (f_X8_turned (S.1 9 x3.toNatClampNeg) x4) x1).toNatClampNeg)) ||| (if (f_X8_isFit S x3 x4) then ishl 1 x3 else 0)))) 37 [(0, .ref (ad 0)), (1, .int x1), (2, .int (if f_X8_ones ((pg S 16 ((f_X8_sightOf (f_X8_turned (S.1 9 x3.toNatClampNeg) x4) x1).toNatClampNeg) ((S.1 16 ((f_X8_sightOf (f_X8_turned (S.1 9 x3.toNatClampNeg) x4) x1).toNatClampNeg)) ||| (if (f_X8_isFit S x3 x4) then ishl 1 x3 else 0))).1 16 ((f_X8_sightOf (f_X8_turned (S.1 9 x3.toNatClampNeg) x4) x1).toNatClampNeg)) ≤ x2 then x2 else f_X8_ones ((pg S 16 ((f_X8_sightOf (f_X8_turned (S.1 9 x3.toNatClampNeg) x4) x1).toNatClampNeg) ((S.1 16 ((f_X8_sightOf (f_X8_turned (S.1 9 x3.toNatClampNeg) x4) x1).toNatClampNeg)) ||| (if (f_X8_isFit S x3 x4) then ishl 1 x3 else 0))).1 16 ((f_X8_sightOf (f_X8_turned (S.1 9 x3.toNatClampNeg) x4) x1).toNatClampNeg)))), (3, .int x3), (4, .int (x4 + 1))] []))))))))) : At X 6 (mW X.E ad S) 37 [(0, .ref (ad 0)), (1, .int x1), (2, .int x2), (3, .int x3), (4, .int x4)] [] := by
  refine at_iload C dX8_worstFrom_37 (j := 4) rfl ?_
  refine at_iconst C dX8_worstFrom_39 (v := 4) rfl ?_
  refine at_icmp_ge C dX8_worstFrom_40 (tgt := 122) (by decide) (fun hc2 => ?_) (fun hc2 => ?_)
  · replace h := h.1 hc2
    refine at_iinc C dX8_worstFrom_122 (j := 3) (v := x3 + 1) rfl rfl (by decide) (lv' := [(3, .int (x3 + 1)), (0, .ref (ad 0)), (1, .int x1), (2, .int x2), (4, .int x4)]) rfl ?_
    refine at_goto C dX8_worstFrom_125 (tgt := 26) (by decide) ?_
    refine at_lv [1, 2, 3, 0] rfl ?_
    exact h
  · replace h := h.2 hc2
    refine at_aload_n C dX8_worstFrom_43 rfl (j := 0) rfl ?_
    refine at_get C (K := RX8) (T := TX8) (N := 18) (ci := 7) (v := .ref (ad 7)) iw_X8_worstFrom_X8 0 mW_c0 rfl 9 (by decide) lk_X8_worstFrom_2 rfl dX8_worstFrom_44 ?_
    refine at_iload_n C dX8_worstFrom_47 rfl (j := 3) rfl ?_
    refine at_iald C 7 mW_c7 h.1 dX8_worstFrom_48 ?_
    replace h := h.2
    refine at_iload C dX8_worstFrom_49 (j := 4) rfl ?_
    refine at_cS0 C 2 (c_X8_turned X.l X.D X.E X.a1 X.a2 (S.1 9 x3.toNatClampNeg) x4) gX8_worstFrom_X8_turned rfl (by decide +kernel) ⟨rfl, rfl⟩ rfl rfl rfl dX8_worstFrom_51 ?_
    refine at_iload_n C dX8_worstFrom_54 rfl (j := 1) rfl ?_
    refine at_cS0 C 2 (c_X8_sightOf X.l X.D X.E X.a1 X.a2 (f_X8_turned (S.1 9 x3.toNatClampNeg) x4) x1) gX8_worstFrom_X8_sightOf rfl (by decide +kernel) ⟨rfl, rfl⟩ rfl rfl rfl dX8_worstFrom_55 ?_
    refine at_istore C dX8_worstFrom_58 (by decide) (lv' := [(5, .int (f_X8_sightOf (f_X8_turned (S.1 9 x3.toNatClampNeg) x4) x1)), (0, .ref (ad 0)), (1, .int x1), (2, .int x2), (3, .int x3), (4, .int x4)]) rfl ?_
    refine at_aload_n C dX8_worstFrom_60 rfl (j := 1) rfl ?_
    refine at_get C (K := RX8) (T := TX8) (N := 18) (ci := 7) (v := .ref (ad 12)) iw_X8_worstFrom_X8 0 mW_c0 rfl 16 (by decide) lk_X8_worstFrom_0 rfl dX8_worstFrom_61 ?_
    refine at_iload C dX8_worstFrom_64 (j := 0) rfl ?_
    refine at_dup2_11 C dX8_worstFrom_66 rfl rfl ?_
    refine at_iald C 12 mW_c12 h.1 dX8_worstFrom_67 ?_
    replace h := h.2
    refine at_aload_n C dX8_worstFrom_68 rfl (j := 1) rfl ?_
    refine at_iload_n C dX8_worstFrom_69 rfl (j := 4) rfl ?_
    refine at_iload C dX8_worstFrom_70 (j := 5) rfl ?_
    refine at_cV1 C 2 (c_X8_isFit X.l X.D X.E X.a1 X.a2 ad S x3 x4 h.1) gX8_worstFrom_X8_isFit rfl (by decide +kernel) ⟨rfl, rfl⟩ rfl rfl rfl 0 mW_c0 rfl dX8_worstFrom_72 ?_
    replace h := h.2
    have K : At X 6 (mW X.E ad S) 85 [(0, .ref (ad 0)), (1, .int x1), (2, .int x2), (3, .int x3), (4, .int x4), (5, .int (f_X8_sightOf (f_X8_turned (S.1 9 x3.toNatClampNeg) x4) x1))] [.int (if (f_X8_isFit S x3 x4) then ishl 1 x3 else 0), .int (S.1 16 ((f_X8_sightOf (f_X8_turned (S.1 9 x3.toNatClampNeg) x4) x1).toNatClampNeg)), .int (f_X8_sightOf (f_X8_turned (S.1 9 x3.toNatClampNeg) x4) x1), .ref (ad 12)] := by
      refine at_ior C dX8_worstFrom_85 ?_
      refine at_iast C 12 mW_c12 h.1 mW_s12 dX8_worstFrom_86 ?_
      replace h := h.2
      refine at_aload_n C dX8_worstFrom_87 rfl (j := 0) rfl ?_
      refine at_get C (K := RX8) (T := TX8) (N := 18) (ci := 7) (v := .ref (ad 12)) iw_X8_worstFrom_X8 0 mW_c0 rfl 16 (by decide) lk_X8_worstFrom_0 rfl dX8_worstFrom_88 ?_
      refine at_iload C dX8_worstFrom_91 (j := 5) rfl ?_
      refine at_iald C 12 mW_c12 h.1 dX8_worstFrom_93 ?_
      replace h := h.2
      refine at_cS0 C 1 (c_X8_ones X.l X.D X.E X.a1 X.a2 ((pg S 16 ((f_X8_sightOf (f_X8_turned (S.1 9 x3.toNatClampNeg) x4) x1).toNatClampNeg) ((S.1 16 ((f_X8_sightOf (f_X8_turned (S.1 9 x3.toNatClampNeg) x4) x1).toNatClampNeg)) ||| (if (f_X8_isFit S x3 x4) then ishl 1 x3 else 0))).1 16 ((f_X8_sightOf (f_X8_turned (S.1 9 x3.toNatClampNeg) x4) x1).toNatClampNeg))) gX8_worstFrom_X8_ones rfl (by decide +kernel) ⟨rfl, rfl⟩ rfl rfl rfl dX8_worstFrom_94 ?_
      refine at_iload_n C dX8_worstFrom_97 rfl (j := 2) rfl ?_
      have hq := h.1
      replace h := h.2
      have K : At X 6 (mW X.E ad (pg S 16 ((f_X8_sightOf (f_X8_turned (S.1 9 x3.toNatClampNeg) x4) x1).toNatClampNeg) ((S.1 16 ((f_X8_sightOf (f_X8_turned (S.1 9 x3.toNatClampNeg) x4) x1).toNatClampNeg)) ||| (if (f_X8_isFit S x3 x4) then ishl 1 x3 else 0)))) 115 [(0, .ref (ad 0)), (1, .int x1), (3, .int x3), (4, .int x4)] [.int (if f_X8_ones ((pg S 16 ((f_X8_sightOf (f_X8_turned (S.1 9 x3.toNatClampNeg) x4) x1).toNatClampNeg) ((S.1 16 ((f_X8_sightOf (f_X8_turned (S.1 9 x3.toNatClampNeg) x4) x1).toNatClampNeg)) ||| (if (f_X8_isFit S x3 x4) then ishl 1 x3 else 0))).1 16 ((f_X8_sightOf (f_X8_turned (S.1 9 x3.toNatClampNeg) x4) x1).toNatClampNeg)) ≤ x2 then x2 else f_X8_ones ((pg S 16 ((f_X8_sightOf (f_X8_turned (S.1 9 x3.toNatClampNeg) x4) x1).toNatClampNeg) ((S.1 16 ((f_X8_sightOf (f_X8_turned (S.1 9 x3.toNatClampNeg) x4) x1).toNatClampNeg)) ||| (if (f_X8_isFit S x3 x4) then ishl 1 x3 else 0))).1 16 ((f_X8_sightOf (f_X8_turned (S.1 9 x3.toNatClampNeg) x4) x1).toNatClampNeg)))] := by
        refine at_istore_n C dX8_worstFrom_115 rfl (by decide) (lv' := [(2, .int (if f_X8_ones ((pg S 16 ((f_X8_sightOf (f_X8_turned (S.1 9 x3.toNatClampNeg) x4) x1).toNatClampNeg) ((S.1 16 ((f_X8_sightOf (f_X8_turned (S.1 9 x3.toNatClampNeg) x4) x1).toNatClampNeg)) ||| (if (f_X8_isFit S x3 x4) then ishl 1 x3 else 0))).1 16 ((f_X8_sightOf (f_X8_turned (S.1 9 x3.toNatClampNeg) x4) x1).toNatClampNeg)) ≤ x2 then x2 else f_X8_ones ((pg S 16 ((f_X8_sightOf (f_X8_turned (S.1 9 x3.toNatClampNeg) x4) x1).toNatClampNeg) ((S.1 16 ((f_X8_sightOf (f_X8_turned (S.1 9 x3.toNatClampNeg) x4) x1).toNatClampNeg)) ||| (if (f_X8_isFit S x3 x4) then ishl 1 x3 else 0))).1 16 ((f_X8_sightOf (f_X8_turned (S.1 9 x3.toNatClampNeg) x4) x1).toNatClampNeg)))), (0, .ref (ad 0)), (1, .int x1), (3, .int x3), (4, .int x4)]) rfl ?_
        refine at_iinc C dX8_worstFrom_116 (j := 4) (v := x4 + 1) rfl rfl (by decide) (lv' := [(4, .int (x4 + 1)), (2, .int (if f_X8_ones ((pg S 16 ((f_X8_sightOf (f_X8_turned (S.1 9 x3.toNatClampNeg) x4) x1).toNatClampNeg) ((S.1 16 ((f_X8_sightOf (f_X8_turned (S.1 9 x3.toNatClampNeg) x4) x1).toNatClampNeg)) ||| (if (f_X8_isFit S x3 x4) then ishl 1 x3 else 0))).1 16 ((f_X8_sightOf (f_X8_turned (S.1 9 x3.toNatClampNeg) x4) x1).toNatClampNeg)) ≤ x2 then x2 else f_X8_ones ((pg S 16 ((f_X8_sightOf (f_X8_turned (S.1 9 x3.toNatClampNeg) x4) x1).toNatClampNeg) ((S.1 16 ((f_X8_sightOf (f_X8_turned (S.1 9 x3.toNatClampNeg) x4) x1).toNatClampNeg)) ||| (if (f_X8_isFit S x3 x4) then ishl 1 x3 else 0))).1 16 ((f_X8_sightOf (f_X8_turned (S.1 9 x3.toNatClampNeg) x4) x1).toNatClampNeg)))), (0, .ref (ad 0)), (1, .int x1), (3, .int x3)]) rfl ?_
        refine at_goto C dX8_worstFrom_119 (tgt := 37) (by decide) ?_
        refine at_lv [2, 3, 1, 4, 0] rfl ?_
        exact h
      replace h := hq
      refine at_icmp_le C dX8_worstFrom_98 (tgt := 114) (by decide) (fun hc3 => ?_) (fun hc3 => ?_)
      · skip
        refine at_iload_n C dX8_worstFrom_114 rfl (j := 2) rfl ?_
        refine at_lv [0, 1, 3, 4] rfl ?_
        first | (simp only [if_pos hc3] at K; exact K) | exact K
      · replace h := h hc3
        refine at_aload_n C dX8_worstFrom_101 rfl (j := 0) rfl ?_
        refine at_get C (K := RX8) (T := TX8) (N := 18) (ci := 7) (v := .ref (ad 12)) iw_X8_worstFrom_X8 0 mW_c0 rfl 16 (by decide) lk_X8_worstFrom_0 rfl dX8_worstFrom_102 ?_
        refine at_iload C dX8_worstFrom_105 (j := 5) rfl ?_
        refine at_iald C 12 mW_c12 h dX8_worstFrom_107 ?_
        refine at_cS0 C 1 (c_X8_ones X.l X.D X.E X.a1 X.a2 ((pg S 16 ((f_X8_sightOf (f_X8_turned (S.1 9 x3.toNatClampNeg) x4) x1).toNatClampNeg) ((S.1 16 ((f_X8_sightOf (f_X8_turned (S.1 9 x3.toNatClampNeg) x4) x1).toNatClampNeg)) ||| (if (f_X8_isFit S x3 x4) then ishl 1 x3 else 0))).1 16 ((f_X8_sightOf (f_X8_turned (S.1 9 x3.toNatClampNeg) x4) x1).toNatClampNeg))) gX8_worstFrom_X8_ones rfl (by decide +kernel) ⟨rfl, rfl⟩ rfl rfl rfl dX8_worstFrom_108 ?_
        refine at_goto C dX8_worstFrom_111 (tgt := 115) (by decide) ?_
        refine at_lv [0, 1, 3, 4] rfl ?_
        first | (simp only [if_neg hc3] at K; exact K) | exact K
    refine at_ifB_eq C dX8_worstFrom_75 (tgt := 84) (by decide) (fun hc3 => ?_) (fun hc3 => ?_)
    · skip
      refine at_iconst C dX8_worstFrom_84 (v := 0) rfl ?_
      refine at_lv [1, 2, 3, 4, 5, 0] rfl ?_
      first | (simp only [if_neg (show ¬ (f_X8_isFit S x3 x4) = true by rw [hc3]; decide)] at K; exact K) | exact K
    · skip
      refine at_iconst C dX8_worstFrom_78 (v := 1) rfl ?_
      refine at_iload_n C dX8_worstFrom_79 rfl (j := 4) rfl ?_
      refine at_ishl C dX8_worstFrom_80 ?_
      refine at_goto C dX8_worstFrom_81 (tgt := 85) (by decide) ?_
      refine at_lv [1, 2, 3, 4, 5, 0] rfl ?_
      first | (simp only [if_pos hc3] at K; exact K) | exact K
theorem itF_rel {σ τ : Type} {N : Nat} (R : Nat → σ → τ → Prop) {f : Nat → σ → σ} {g : Nat → τ → τ} (h : ∀ i s t, i < N → R i s t → R (i + 1) (f i s) (g i t)) : ∀ (k i : Nat) (s : σ) (t : τ), i + k = N → R i s t → R N (itF f i k s) (itF g i k t)
  | 0, i, s, t, e, hr => by
    have : i = N := by omega
    subst this
    exact hr
  | k + 1, i, s, t, e, hr => itF_rel R h k (i + 1) _ _ (by omega) (h i s t (by omega) hr)
/-- a whole int cell put -/
def setF (S : MS) (k : Nat) (f : Nat → Int32) : MS := (fun j => if j = k then f else S.1 j, S.2)
theorem setF_k {S : MS} {k : Nat} {f : Nat → Int32} : (setF S k f).1 k = f := by simp [setF]
theorem setF_o {S : MS} {k j : Nat} {f : Nat → Int32} (h : j ≠ k) : (setF S k f).1 j = S.1 j := by simp [setF, h]
theorem setF_2 {S : MS} {k : Nat} {f : Nat → Int32} : (setF S k f).2 = S.2 := rfl
theorem setF_self (S : MS) (k : Nat) : setF S k (S.1 k) = S := by
  refine Prod.ext ?_ rfl
  funext j
  show (if j = k then S.1 k else S.1 j) = S.1 j
  by_cases h : j = k
  · rw [if_pos h, h]
  · rw [if_neg h]
theorem setF_pg {S : MS} {k i : Nat} {f : Nat → Int32} {x : Int32} : pg (setF S k f) k i x = setF S k (upd f i x) := by
  refine Prod.ext ?_ rfl
  funext j
  show up (fun j => if j = k then f else S.1 j) k i x j = (if j = k then upd f i x else S.1 j)
  unfold up
  by_cases h : j = k
  · subst h; simp
  · simp [h]
theorem setF_set {S : MS} {k : Nat} {f g : Nat → Int32} : setF (setF S k f) k g = setF S k g := by
  refine Prod.ext ?_ rfl
  funext j
  show (if j = k then g else (if j = k then f else S.1 j)) = (if j = k then g else S.1 j)
  by_cases h : j = k
  · rw [if_pos h, if_pos h]
  · rw [if_neg h, if_neg h, if_neg h]
theorem sgStep_nI {x s line : Int32} {k o : Nat} (hk : k < 4) (ho : o ≤ 4) : ∃ m, m ≤ 4 ∧ sgStep x s line k (nI o) = nI m := by
  have h : ∀ b : Bool, ∃ m, m ≤ 4 ∧ (if b = true then nI k + 1 else nI o) = nI m := by
    intro b
    cases b
    · exact ⟨o, ho, rfl⟩
    · exact ⟨k + 1, by omega, nI_1 k⟩
  exact h _
theorem sight_nI (x s : Int32) : ∃ m, m < 625 ∧ f_X8_sightOf x s = nI m := by
  have h := itF_inv (N := 4) (fun i (a : Int32) => ∃ m, m < 5 ^ i ∧ a = nI m) (fun line a => (5 * a) + sgStep x s (nI line) 0 (sgStep x s (nI line) 1 (sgStep x s (nI line) 2 (sgStep x s (nI line) 3 0)))) (fun i a _ ha => by
    obtain ⟨m, hm, rfl⟩ := ha
    obtain ⟨o3, h3, e3⟩ := sgStep_nI (x := x) (s := s) (line := nI i) (k := 3) (o := 0) (by decide) (by decide)
    obtain ⟨o2, h2, e2⟩ := sgStep_nI (x := x) (s := s) (line := nI i) (k := 2) (o := o3) (by decide) h3
    obtain ⟨o1, h1, e1⟩ := sgStep_nI (x := x) (s := s) (line := nI i) (k := 1) (o := o2) (by decide) h2
    obtain ⟨o0, h0, e0⟩ := sgStep_nI (x := x) (s := s) (line := nI i) (k := 0) (o := o1) (by decide) h1
    refine ⟨5 * m + o0, by rw [Nat.pow_succ]; omega, ?_⟩
    rw [show (0 : Int32) = nI 0 from rfl, e3, e2, e1, e0, show (5 : Int32) = nI 5 from rfl, pk_mul, nI_add]) 4 0 0 rfl ⟨0, by decide, rfl⟩
  exact h
/-- the sight of a pair from a side -/
def sgv (S : MS) (side : Int32) (s t : Nat) : Int32 := f_X8_sightOf (f_X8_turned (S.1 9 s) (nI t)) side
def wrBit (S : MS) (s t : Nat) : Int32 := if f_X8_isFit S (nI s) (nI t) then ishl 1 (nI s) else 0
def wrStep (S : MS) (side : Int32) (s t : Nat) (p : (Nat → Int32) × Int32) : (Nat → Int32) × Int32 :=
  (upd p.1 (sgv S side s t).toNatClampNeg (p.1 (sgv S side s t).toNatClampNeg ||| wrBit S s t), if f_X8_ones (p.1 (sgv S side s t).toNatClampNeg ||| wrBit S s t) ≤ p.2 then p.2 else f_X8_ones (p.1 (sgv S side s t).toNatClampNeg ||| wrBit S s t))
def wrC (S : MS) : Nat → Int32 := itF (fun i f => upd f i 0) 0 625 (S.1 16)
def wrP (S : MS) (side : Int32) : (Nat → Int32) × Int32 := itF (fun s p => itF (fun t p => wrStep S side s t p) 0 4 p) 0 (S.1 8 0).toNatClampNeg (wrC S, 0)
def f_X8_worstFrom (S : MS) (side : Int32) : Int32 := (wrP S side).2
def s_X8_worstFrom (S : MS) (side : Int32) : MS := setF S 16 (wrP S side).1
theorem fit_congr {S T : MS} (h9 : T.1 9 = S.1 9) (h14 : T.1 14 = S.1 14) (h15 : T.1 15 = S.1 15) : f_X8_isFit T = f_X8_isFit S := by
  funext a b
  unfold f_X8_isFit ftStep
  rw [h9, h14, h15]
set_option maxRecDepth 100000 in
theorem c_X8_worstFrom (l : Launch) (D : va_G) (E : Nat → ClassId) (a1 a2 : Nat) (ad : Nat → Nat) (S : MS) (x1 : Int32) (hp : p_X8_fitsOf S) : Fn l D E a1 a2 yX8_worstFrom wsX8_worstFrom 4 91 [.ref (ad 0), .int x1] (mW E ad S) (some (.int (f_X8_worstFrom S x1))) (mW E ad (s_X8_worstFrom S x1)) := by
  refine Fn.of (cc := cX8_worstFrom) (maxL := 6) (ret := (some .int)) (own := RX8) (by decide) rfl rfl (sameM _ _ _ _) (Nat.le_of_ble_eq_true rfl) (fun X h1 h2 h3 h4 h5 C hE => ?_)
  subst h1 h2 h3 h4 h5
  obtain ⟨⟨cnt, hc, e8⟩, hs⟩ := hp
  rw [f_X8_worstFrom, s_X8_worstFrom, wrP, e8, nI_clamp (by omega)] at hE
  have hfit : ∀ f, f_X8_isFit (setF S 16 f) = f_X8_isFit S := fun f => fit_congr (setF_o (by decide)) (setF_o (by decide)) (setF_o (by decide))
  have hpf : ∀ f x, vp_in x 8 → p_X8_isFit (setF S 16 f) x := fun f x hx => ⟨hx, by unfold okSeen; rw [setF_o (by decide)]; exact hs⟩
  refine r_X8_worstFrom_0 C ad S x1 ?_
  have e0 : mW X.E ad S = mW X.E ad (setF S 16 (S.1 16)) := by rw [setF_self]
  rw [e0]
  refine for_go (P := fun i f => At X 6 (mW X.E ad (setF S 16 f)) 2 [(0, .ref (ad 0)), (1, .int x1), (2, .int (nI i))] []) (N := 625) (fun i f => upd f i 0) (fun i f hi h => ?_) 625 0 (S.1 16) rfl ?_
  · refine r_X8_worstFrom_2 C ad _ x1 (nI i) ⟨fun q => nlt_no (by decide) hi q, fun _ => ⟨vp_in_nI hi (by decide), ?_⟩⟩
    rw [nI_clamp (by omega), nI_1, setF_pg]
    exact h
  · refine r_X8_worstFrom_2 C ad _ x1 (nI 625) ⟨fun _ => ?_, fun q => nle_no q⟩
    refine for_go (P := fun s (p : (Nat → Int32) × Int32) => At X 6 (mW X.E ad (setF S 16 p.1)) 26 [(0, .ref (ad 0)), (1, .int x1), (2, .int p.2), (3, .int (nI s))] []) (N := cnt) (fun s p => itF (fun t p => wrStep S x1 s t p) 0 4 p) (fun s p hs' h => ?_) cnt 0 (wrC S, 0) (Nat.zero_add cnt) ?_
    · refine r_X8_worstFrom_26 C ad _ x1 p.2 (nI s) ⟨fun q => nlt_no (b := cnt) (by omega) hs' (by rw [setF_o (by decide), e8] at q; exact q), fun _ => ?_⟩
      refine for_go (P := fun t (p : (Nat → Int32) × Int32) => At X 6 (mW X.E ad (setF S 16 p.1)) 37 [(0, .ref (ad 0)), (1, .int x1), (2, .int p.2), (3, .int (nI s)), (4, .int (nI t))] []) (N := 4) (fun t p => wrStep S x1 s t p) (fun t p ht h => ?_) 4 0 p rfl ?_
      · obtain ⟨m, hm, em⟩ := sight_nI (f_X8_turned (S.1 9 s) (nI t)) x1
        have vm : vp_in (f_X8_sightOf (f_X8_turned (S.1 9 s) (nI t)) x1) 625 := by rw [em]; exact vp_in_nI hm (by decide)
        have v8 : vp_in (nI s) 8 := vp_in_nI (by omega) (by decide)
        refine r_X8_worstFrom_37 C ad _ x1 p.2 (nI s) (nI t) ⟨fun q => nlt_no (by decide) ht q, fun _ => ?_⟩
        rw [nI_clamp (show s < 2 ^ 31 by omega), setF_o (by decide), hfit, setF_k]
        refine ⟨v8, vm, hpf _ _ v8, vm, vm, fun _ => vm, ?_⟩
        rw [setF_pg, setF_k, nI_1]
        have eu : ∀ (f : Nat → Int32) (g : Nat) (x : Int32), upd f g x g = x := fun f g x => pk_us
        rw [eu]
        exact h
      · exact r_X8_worstFrom_37 C ad _ x1 _ (nI s) (nI 4) ⟨fun _ => by rw [nI_1]; exact h, fun q => nle_no q⟩
    · exact r_X8_worstFrom_26 C ad _ x1 _ (nI cnt) ⟨fun _ => hE, fun q => absurd (by rw [setF_o (by decide), e8]; exact Int32.le_refl _) q⟩
/-- the answer does not rest on what the row held before -/
theorem wrC_0 {S : MS} {g : Nat} (hg : g < 625) : wrC S g = 0 := by
  have h := itF_inv (N := 625) (fun i (f : Nat → Int32) => ∀ j, j < i → f j = 0) (fun i f => upd f i 0) (fun i f _ hf j hj => by
    by_cases e : j = i
    · subst e; exact pk_us
    · rw [pk_un e]; exact hf j (by omega)) 625 0 (S.1 16) rfl (fun j hj => absurd hj (Nat.not_lt_zero j))
  exact h g hg
theorem worst_congr {S : MS} {f : Nat → Int32} {side : Int32} : f_X8_worstFrom (setF S 16 f) side = f_X8_worstFrom S side := by
  have h8 : (setF S 16 f).1 8 = S.1 8 := setF_o (by decide)
  have h9 : (setF S 16 f).1 9 = S.1 9 := setF_o (by decide)
  have hfit : f_X8_isFit (setF S 16 f) = f_X8_isFit S := fit_congr h9 (setF_o (by decide)) (setF_o (by decide))
  unfold f_X8_worstFrom wrP
  rw [h8]
  have step : ∀ s t, wrStep (setF S 16 f) side s t = wrStep S side s t := by
    intro s t
    funext p
    unfold wrStep sgv wrBit
    rw [h9, hfit]
  have hb : (∀ g, g < 625 → ((wrC (setF S 16 f), (0 : Int32)) : (Nat → Int32) × Int32).1 g = ((wrC S, (0 : Int32)) : (Nat → Int32) × Int32).1 g) ∧ ((wrC (setF S 16 f), (0 : Int32)) : (Nat → Int32) × Int32).2 = ((wrC S, (0 : Int32)) : (Nat → Int32) × Int32).2 := by
    dsimp only
    exact ⟨fun g hg => by rw [wrC_0 hg, wrC_0 hg], rfl⟩
  have := itF_rel (N := (S.1 8 0).toNatClampNeg) (fun _ (p q : (Nat → Int32) × Int32) => (∀ g, g < 625 → p.1 g = q.1 g) ∧ p.2 = q.2) (f := fun s p => itF (fun t p => wrStep (setF S 16 f) side s t p) 0 4 p) (g := fun s p => itF (fun t p => wrStep S side s t p) 0 4 p) (fun s p q _ hpq => by
    refine itF_rel (N := 4) (fun _ (p q : (Nat → Int32) × Int32) => (∀ g, g < 625 → p.1 g = q.1 g) ∧ p.2 = q.2) (fun t p q _ hpq => ?_) 4 0 p q rfl hpq
    rw [step]
    obtain ⟨m, hm, em⟩ := sight_nI (f_X8_turned (S.1 9 s) (nI t)) side
    unfold wrStep sgv
    rw [em, nI_clamp (by omega), hpq.1 m hm, hpq.2]
    refine ⟨fun g hg => ?_, rfl⟩
    by_cases e : g = m
    · subst e; exact pk_us.trans pk_us.symm
    · exact (pk_un e).trans ((hpq.1 g hg).trans (pk_un e).symm)) (S.1 8 0).toNatClampNeg 0 (wrC (setF S 16 f), 0) (wrC S, 0) (Nat.zero_add _) hb
  exact this.2
set_option maxRecDepth 20000 in
theorem ggX8_lookOf_X8_fitsOf : GoodIn wsX8_lookOf wsX8_fitsOf := goodIn_r _ [5, 6, 7, 8, 9, 4, 10, 11, 12, 13, 14, 15, 16, 17, 18, 19, 20, 21, 22, 23, 24, 25, 26, 27, 28, 37, 38, 39, 40, 41, 42, 43, 44, 45, 46, 47, 48, 49, 50, 51, 52, 53, 54] (by decide +kernel) (by decide +kernel)
set_option maxRecDepth 20000 in
theorem gX8_lookOf_X8_fitsOf : GoodIn wsX8_lookOf (wsV RX8 232 RX8 yX8_fitsOf wsX8_fitsOf) := goodIn_app (goodIn_of _ (by decide +kernel)) ggX8_lookOf_X8_fitsOf
set_option maxRecDepth 20000 in
theorem ggX8_lookOf_X8_worstFrom : GoodIn wsX8_lookOf wsX8_worstFrom := goodIn_r _ [32, 33, 6, 12, 14, 15, 4, 16, 17, 18, 19, 20, 21, 22, 23, 24, 25, 26, 27, 28, 7, 8, 9, 10, 11, 13, 34, 35, 36, 37, 38, 39, 40, 41, 42, 43, 44, 45, 46, 47, 48, 49, 50, 51, 52, 53, 54] (by decide +kernel) (by decide +kernel)
set_option maxRecDepth 20000 in
theorem gX8_lookOf_X8_worstFrom : GoodIn wsX8_lookOf (wsV RX8 235 RX8 yX8_worstFrom wsX8_worstFrom) := goodIn_app (goodIn_of _ (by decide +kernel)) ggX8_lookOf_X8_worstFrom
theorem dX8_lookOf_0 : decode cX8_lookOf 0 = .ok (.aload_n 0, 1) := by decide +kernel
theorem dX8_lookOf_1 : decode cX8_lookOf 1 = .ok (.iconst 0, 1) := by decide +kernel
theorem dX8_lookOf_2 : decode cX8_lookOf 2 = .ok (.invokevirtual 232, 3) := by decide +kernel
theorem dX8_lookOf_5 : decode cX8_lookOf 5 = .ok (.ifCond .ne 6, 3) := by decide +kernel
theorem dX8_lookOf_8 : decode cX8_lookOf 8 = .ok (.bipush (-3), 2) := by decide +kernel
theorem dX8_lookOf_10 : decode cX8_lookOf 10 = .ok (.ireturn, 1) := by decide +kernel
theorem dX8_lookOf_11 : decode cX8_lookOf 11 = .ok (.iconst 0, 1) := by decide +kernel
theorem dX8_lookOf_12 : decode cX8_lookOf 12 = .ok (.istore_n 2, 1) := by decide +kernel
theorem dX8_lookOf_13 : decode cX8_lookOf 13 = .ok (.iconst 1, 1) := by decide +kernel
theorem dX8_lookOf_14 : decode cX8_lookOf 14 = .ok (.istore_n 3, 1) := by decide +kernel
theorem dX8_lookOf_15 : decode cX8_lookOf 15 = .ok (.iload_n 3, 1) := by decide +kernel
theorem dX8_lookOf_16 : decode cX8_lookOf 16 = .ok (.iconst 4, 1) := by decide +kernel
theorem dX8_lookOf_17 : decode cX8_lookOf 17 = .ok (.if_icmp .ge 28, 3) := by decide +kernel
theorem dX8_lookOf_20 : decode cX8_lookOf 20 = .ok (.aload_n 0, 1) := by decide +kernel
theorem dX8_lookOf_21 : decode cX8_lookOf 21 = .ok (.iload_n 3, 1) := by decide +kernel
theorem dX8_lookOf_22 : decode cX8_lookOf 22 = .ok (.invokevirtual 235, 3) := by decide +kernel
theorem dX8_lookOf_25 : decode cX8_lookOf 25 = .ok (.aload_n 0, 1) := by decide +kernel
theorem dX8_lookOf_26 : decode cX8_lookOf 26 = .ok (.iload_n 2, 1) := by decide +kernel
theorem dX8_lookOf_27 : decode cX8_lookOf 27 = .ok (.invokevirtual 235, 3) := by decide +kernel
theorem dX8_lookOf_30 : decode cX8_lookOf 30 = .ok (.if_icmp .ge 7, 3) := by decide +kernel
theorem dX8_lookOf_33 : decode cX8_lookOf 33 = .ok (.iload_n 3, 1) := by decide +kernel
theorem dX8_lookOf_34 : decode cX8_lookOf 34 = .ok (.goto 4, 3) := by decide +kernel
theorem dX8_lookOf_37 : decode cX8_lookOf 37 = .ok (.iload_n 2, 1) := by decide +kernel
theorem dX8_lookOf_38 : decode cX8_lookOf 38 = .ok (.istore_n 2, 1) := by decide +kernel
theorem dX8_lookOf_39 : decode cX8_lookOf 39 = .ok (.iinc 3 1, 3) := by decide +kernel
theorem dX8_lookOf_42 : decode cX8_lookOf 42 = .ok (.goto (-27), 3) := by decide +kernel
theorem dX8_lookOf_45 : decode cX8_lookOf 45 = .ok (.iload_n 1, 1) := by decide +kernel
theorem dX8_lookOf_46 : decode cX8_lookOf 46 = .ok (.ifCond .ne 7, 3) := by decide +kernel
theorem dX8_lookOf_49 : decode cX8_lookOf 49 = .ok (.iload_n 2, 1) := by decide +kernel
theorem dX8_lookOf_50 : decode cX8_lookOf 50 = .ok (.goto 8, 3) := by decide +kernel
theorem dX8_lookOf_53 : decode cX8_lookOf 53 = .ok (.aload_n 0, 1) := by decide +kernel
theorem dX8_lookOf_54 : decode cX8_lookOf 54 = .ok (.iload_n 2, 1) := by decide +kernel
theorem dX8_lookOf_55 : decode cX8_lookOf 55 = .ok (.invokevirtual 235, 3) := by decide +kernel
theorem dX8_lookOf_58 : decode cX8_lookOf 58 = .ok (.ireturn, 1) := by decide +kernel
set_option maxRecDepth 100000 in
theorem r_X8_lookOf_0 {X : Bn} (C : Cx X cX8_lookOf 4 RX8 wsX8_lookOf 5 116) (ad : Nat → Nat) (S : MS) (x1 : Int32) (h : (p_X8_fitsOf S) ∧ (((f_X8_fitsOf S (0 : Int32) = 0) → (Ends X (some .int) (some (.int (-3))) (mW X.E ad S))) ∧ (¬ f_X8_fitsOf S (0 : Int32) = 0 → (At X 4 (mW X.E ad S) 15 [(0, .ref (ad 0)), (1, .int x1), (2, .int 0), (3, .int 1)] [])))) : At X 4 (mW X.E ad S) 0 [(0, .ref (ad 0)), (1, .int x1)] [] := by
  refine at_aload_n C dX8_lookOf_0 rfl (j := 0) rfl ?_
  refine at_iconst C dX8_lookOf_1 (v := 0) rfl ?_
  refine at_cV1 C 1 (c_X8_fitsOf X.l X.D X.E X.a1 X.a2 ad S (0 : Int32) h.1) gX8_lookOf_X8_fitsOf rfl (by decide +kernel) ⟨rfl, rfl⟩ rfl rfl rfl 0 mW_c0 rfl dX8_lookOf_2 ?_
  replace h := h.2
  refine at_if_ne C dX8_lookOf_5 (tgt := 11) (by decide) (fun hc0 => ?_) (fun hc0 => ?_)
  · replace h := h.2 hc0
    refine at_iconst C dX8_lookOf_11 (v := 0) rfl ?_
    refine at_istore_n C dX8_lookOf_12 rfl (by decide) (lv' := [(2, .int 0), (0, .ref (ad 0)), (1, .int x1)]) rfl ?_
    refine at_iconst C dX8_lookOf_13 (v := 1) rfl ?_
    refine at_istore_n C dX8_lookOf_14 rfl (by decide) (lv' := [(3, .int 1), (2, .int 0), (0, .ref (ad 0)), (1, .int x1)]) rfl ?_
    refine at_lv [2, 3, 1, 0] rfl ?_
    exact h
  · replace h := h.1 hc0
    refine at_bipush C dX8_lookOf_8 (v := (-3)) rfl ?_
    exact at_iret C dX8_lookOf_10 h
set_option maxRecDepth 100000 in
theorem r_X8_lookOf_15 {X : Bn} (C : Cx X cX8_lookOf 4 RX8 wsX8_lookOf 5 116) (ad : Nat → Nat) (S : MS) (x1 : Int32) (x2 : Int32) (x3 : Int32) (h : ((4 ≤ x3) → (((x1 = 0) → (Ends X (some .int) (some (.int x2)) (mW X.E ad S))) ∧ (¬ x1 = 0 → (∃ (r1 : Int32) (S1 : MS), (Fn X.l X.D X.E X.a1 X.a2 yX8_worstFrom wsX8_worstFrom 4 91 [.ref (ad 0), .int x2] (mW X.E ad S) (some (.int r1)) (mW X.E ad S1)) ∧ (Ends X (some .int) (some (.int r1)) (mW X.E ad S1)))))) ∧ (¬ 4 ≤ x3 → (∃ (r2 : Int32) (S2 : MS), (Fn X.l X.D X.E X.a1 X.a2 yX8_worstFrom wsX8_worstFrom 4 91 [.ref (ad 0), .int x3] (mW X.E ad S) (some (.int r2)) (mW X.E ad S2)) ∧ (∃ (r3 : Int32) (S3 : MS), (Fn X.l X.D X.E X.a1 X.a2 yX8_worstFrom wsX8_worstFrom 4 91 [.ref (ad 0), .int x2] (mW X.E ad S2) (some (.int r3)) (mW X.E ad S3)) ∧ (At X 4 (mW X.E ad S3) 15 [(0, .ref (ad 0)), (1, .int x1), (2, .int (if r3 ≤ r2 then x2 else x3)), (3, .int (x3 + 1))] []))))) : At X 4 (mW X.E ad S) 15 [(0, .ref (ad 0)), (1, .int x1), (2, .int x2), (3, .int x3)] [] := by
  refine at_iload_n C dX8_lookOf_15 rfl (j := 3) rfl ?_
  refine at_iconst C dX8_lookOf_16 (v := 4) rfl ?_
  refine at_icmp_ge C dX8_lookOf_17 (tgt := 45) (by decide) (fun hc1 => ?_) (fun hc1 => ?_)
  · replace h := h.1 hc1
    refine at_iload_n C dX8_lookOf_45 rfl (j := 1) rfl ?_
    refine at_if_ne C dX8_lookOf_46 (tgt := 53) (by decide) (fun hc2 => ?_) (fun hc2 => ?_)
    · replace h := h.2 hc2
      refine at_aload_n C dX8_lookOf_53 rfl (j := 0) rfl ?_
      refine at_iload_n C dX8_lookOf_54 rfl (j := 2) rfl ?_
      obtain ⟨r1, S1, hF1, h⟩ := h
      refine at_cV1 C 1 hF1 gX8_lookOf_X8_worstFrom rfl (by decide +kernel) ⟨rfl, rfl⟩ rfl rfl rfl 0 mW_c0 rfl dX8_lookOf_55 ?_
      exact at_iret C dX8_lookOf_58 h
    · replace h := h.1 hc2
      refine at_iload_n C dX8_lookOf_49 rfl (j := 2) rfl ?_
      refine at_goto C dX8_lookOf_50 (tgt := 58) (by decide) ?_
      exact at_iret C dX8_lookOf_58 h
  · replace h := h.2 hc1
    refine at_aload_n C dX8_lookOf_20 rfl (j := 0) rfl ?_
    refine at_iload_n C dX8_lookOf_21 rfl (j := 3) rfl ?_
    obtain ⟨r2, S2, hF2, h⟩ := h
    refine at_cV1 C 1 hF2 gX8_lookOf_X8_worstFrom rfl (by decide +kernel) ⟨rfl, rfl⟩ rfl rfl rfl 0 mW_c0 rfl dX8_lookOf_22 ?_
    refine at_aload_n C dX8_lookOf_25 rfl (j := 0) rfl ?_
    refine at_iload_n C dX8_lookOf_26 rfl (j := 2) rfl ?_
    obtain ⟨r3, S3, hF3, h⟩ := h
    refine at_cV1 C 1 hF3 gX8_lookOf_X8_worstFrom rfl (by decide +kernel) ⟨rfl, rfl⟩ rfl rfl rfl 0 mW_c0 rfl dX8_lookOf_27 ?_
    have K : At X 4 (mW X.E ad S3) 38 [(0, .ref (ad 0)), (1, .int x1), (3, .int x3)] [.int (if r3 ≤ r2 then x2 else x3)] := by
      refine at_istore_n C dX8_lookOf_38 rfl (by decide) (lv' := [(2, .int (if r3 ≤ r2 then x2 else x3)), (0, .ref (ad 0)), (1, .int x1), (3, .int x3)]) rfl ?_
      refine at_iinc C dX8_lookOf_39 (j := 3) (v := x3 + 1) rfl rfl (by decide) (lv' := [(3, .int (x3 + 1)), (2, .int (if r3 ≤ r2 then x2 else x3)), (0, .ref (ad 0)), (1, .int x1)]) rfl ?_
      refine at_goto C dX8_lookOf_42 (tgt := 15) (by decide) ?_
      refine at_lv [2, 3, 1, 0] rfl ?_
      exact h
    refine at_icmp_ge C dX8_lookOf_30 (tgt := 37) (by decide) (fun hc3 => ?_) (fun hc3 => ?_)
    · skip
      refine at_iload_n C dX8_lookOf_37 rfl (j := 2) rfl ?_
      refine at_lv [0, 1, 3] rfl ?_
      first | (simp only [if_pos hc3] at K; exact K) | exact K
    · skip
      refine at_iload_n C dX8_lookOf_33 rfl (j := 3) rfl ?_
      refine at_goto C dX8_lookOf_34 (tgt := 38) (by decide) ?_
      refine at_lv [0, 1, 3] rfl ?_
      first | (simp only [if_neg hc3] at K; exact K) | exact K
def lkStep (S : MS) (side best : Nat) : Nat := if f_X8_worstFrom S (nI best) ≤ f_X8_worstFrom S (nI side) then best else side
def lkBest (S : MS) : Nat := itF (fun s b => lkStep S s b) 1 3 0
def f_X8_lookOf (S : MS) (x1 : Int32) : Int32 := if f_X8_fitsOf S 0 = 0 then -3 else (if x1 = 0 then nI (lkBest S) else f_X8_worstFrom S (nI (lkBest S)))
theorem fits_congr {S : MS} {f : Nat → Int32} : p_X8_fitsOf (setF S 16 f) ↔ p_X8_fitsOf S := by
  unfold p_X8_fitsOf okCnt okSeen
  rw [setF_o (by decide), setF_o (by decide)]
theorem c_X8_lookOf (ad : Nat → Nat) (S : MS) (x1 : Int32) (hp : p_X8_fitsOf S) :
    ∃ f, ∀ (l : Launch) (D : va_G) (E : Nat → ClassId) (a1 a2 : Nat), Fn l D E a1 a2 yX8_lookOf wsX8_lookOf 5 116 [.ref (ad 0), .int x1] (mW E ad S) (some (.int (f_X8_lookOf S x1))) (mW E ad (setF S 16 f)) := by
  have wr : ∀ (f : Nat → Int32) (side : Int32), ∃ f', ∀ (X : Bn), Fn X.l X.D X.E X.a1 X.a2 yX8_worstFrom wsX8_worstFrom 4 91 [.ref (ad 0), .int side] (mW X.E ad (setF S 16 f)) (some (.int (f_X8_worstFrom S side))) (mW X.E ad (setF S 16 f')) := by
    intro f side
    refine ⟨(wrP (setF S 16 f) side).1, fun X => ?_⟩
    have := c_X8_worstFrom X.l X.D X.E X.a1 X.a2 ad (setF S 16 f) side (fits_congr.mpr hp)
    rw [worst_congr, s_X8_worstFrom, setF_set] at this
    exact this
  by_cases h0 : f_X8_fitsOf S 0 = 0
  · refine ⟨S.1 16, fun l D E a1 a2 => ?_⟩
    refine Fn.of (cc := cX8_lookOf) (maxL := 4) (ret := (some .int)) (own := RX8) (by decide) rfl rfl (sameM _ _ _ _) (Nat.le_of_ble_eq_true rfl) (fun X h1 h2 h3 h4 h5 C hE => ?_)
    subst h1 h2 h3 h4 h5
    rw [f_X8_lookOf, if_pos h0, setF_self] at hE
    exact r_X8_lookOf_0 C ad S x1 ⟨hp, fun _ => hE, fun q => absurd h0 q⟩
  · -- the three other sides, one behind the other
    have loop : ∀ (d : Nat) (side best : Nat) (f : Nat → Int32), side + d = 4 → best < 4 → side ≤ 4 →
        ∃ f', ∀ X : Bn, Cx X cX8_lookOf 4 RX8 wsX8_lookOf 5 116 → Ends X (some .int) (some (.int (if x1 = 0 then nI (itF (fun s b => lkStep S s b) side d best) else f_X8_worstFrom S (nI (itF (fun s b => lkStep S s b) side d best))))) (mW X.E ad (setF S 16 f')) → At X 4 (mW X.E ad (setF S 16 f)) 15 [(0, .ref (ad 0)), (1, .int x1), (2, .int (nI best)), (3, .int (nI side))] [] := by
      intro d
      induction d with
      | zero =>
        intro side best f hsd hb hs
        have e4 : side = 4 := by omega
        subst e4
        by_cases hx : x1 = 0
        · refine ⟨f, fun X C hE => ?_⟩
          rw [if_pos hx] at hE
          exact r_X8_lookOf_15 C ad _ x1 (nI best) (nI 4) ⟨fun _ => ⟨fun _ => hE, fun q => absurd hx q⟩, fun q => nle_no q⟩
        · obtain ⟨f', hF⟩ := wr f (nI best)
          refine ⟨f', fun X C hE => ?_⟩
          rw [if_neg hx] at hE
          exact r_X8_lookOf_15 C ad _ x1 (nI best) (nI 4) ⟨fun _ => ⟨fun q => absurd q hx, fun _ => ⟨_, _, hF X, hE⟩⟩, fun q => nle_no q⟩
      | succ d ih =>
        intro side best f hsd hb hs
        obtain ⟨f1, hF1⟩ := wr f (nI side)
        obtain ⟨f2, hF2⟩ := wr f1 (nI best)
        obtain ⟨f', hgo⟩ := ih (side + 1) (lkStep S side best) f2 (by omega) (by unfold lkStep; split <;> omega) (by omega)
        refine ⟨f', fun X C hE => ?_⟩
        refine r_X8_lookOf_15 C ad _ x1 (nI best) (nI side) ⟨fun q => nlt_no (b := 4) (by decide) (by omega) q, fun _ => ⟨_, _, hF1 X, _, _, hF2 X, ?_⟩⟩
        have e : (if f_X8_worstFrom S (nI best) ≤ f_X8_worstFrom S (nI side) then nI best else nI side) = nI (lkStep S side best) := by
          unfold lkStep
          split <;> rfl
        rw [e, nI_1]
        exact hgo X C hE
    obtain ⟨f', hgo⟩ := loop 3 1 0 (S.1 16) rfl (by decide) (by decide)
    refine ⟨f', fun l D E a1 a2 => ?_⟩
    refine Fn.of (cc := cX8_lookOf) (maxL := 4) (ret := (some .int)) (own := RX8) (by decide) rfl rfl (sameM _ _ _ _) (Nat.le_of_ble_eq_true rfl) (fun X h1 h2 h3 h4 h5 C hE => ?_)
    subst h1 h2 h3 h4 h5
    rw [f_X8_lookOf, if_neg h0] at hE
    refine r_X8_lookOf_0 C ad S x1 ⟨hp, fun q => absurd q h0, fun _ => ?_⟩
    have := hgo X C hE
    rw [setF_self] at this
    exact this
set_option maxRecDepth 20000 in
theorem ggX8_watchersOf_X8_stepsTo : GoodIn wsX8_watchersOf wsX8_stepsTo := goodIn_r _ [7, 8, 9, 10, 6, 11, 12, 2, 13, 14, 15, 16, 17, 18, 19, 20, 21, 22, 23, 24, 25, 26, 27, 28, 29, 30, 31, 32, 33] (by decide +kernel) (by decide +kernel)
set_option maxRecDepth 20000 in
theorem gX8_watchersOf_X8_stepsTo : GoodIn wsX8_watchersOf (wsV RX8 253 RX8 yX8_stepsTo wsX8_stepsTo) := goodIn_app (goodIn_of _ (by decide +kernel)) ggX8_watchersOf_X8_stepsTo
theorem dX8_watchersOf_0 : decode cX8_watchersOf 0 = .ok (.lconst 0, 1) := by decide +kernel
theorem dX8_watchersOf_1 : decode cX8_watchersOf 1 = .ok (.lstore_n 2, 1) := by decide +kernel
theorem dX8_watchersOf_2 : decode cX8_watchersOf 2 = .ok (.iconst 0, 1) := by decide +kernel
theorem dX8_watchersOf_3 : decode cX8_watchersOf 3 = .ok (.istore 4, 2) := by decide +kernel
theorem dX8_watchersOf_5 : decode cX8_watchersOf 5 = .ok (.iload 4, 2) := by decide +kernel
theorem dX8_watchersOf_7 : decode cX8_watchersOf 7 = .ok (.bipush 64, 2) := by decide +kernel
theorem dX8_watchersOf_9 : decode cX8_watchersOf 9 = .ok (.if_icmp .ge 104, 3) := by decide +kernel
theorem dX8_watchersOf_12 : decode cX8_watchersOf 12 = .ok (.aload_n 0, 1) := by decide +kernel
theorem dX8_watchersOf_13 : decode cX8_watchersOf 13 = .ok (.getfield 47, 3) := by decide +kernel
theorem dX8_watchersOf_16 : decode cX8_watchersOf 16 = .ok (.iload 4, 2) := by decide +kernel
theorem dX8_watchersOf_18 : decode cX8_watchersOf 18 = .ok (.lconst 0, 1) := by decide +kernel
theorem dX8_watchersOf_19 : decode cX8_watchersOf 19 = .ok (.lastore, 1) := by decide +kernel
theorem dX8_watchersOf_20 : decode cX8_watchersOf 20 = .ok (.iconst 0, 1) := by decide +kernel
theorem dX8_watchersOf_21 : decode cX8_watchersOf 21 = .ok (.istore 5, 2) := by decide +kernel
theorem dX8_watchersOf_23 : decode cX8_watchersOf 23 = .ok (.iload 5, 2) := by decide +kernel
theorem dX8_watchersOf_25 : decode cX8_watchersOf 25 = .ok (.bipush 64, 2) := by decide +kernel
theorem dX8_watchersOf_27 : decode cX8_watchersOf 27 = .ok (.if_icmp .ge 59, 3) := by decide +kernel
theorem dX8_watchersOf_30 : decode cX8_watchersOf 30 = .ok (.aload_n 0, 1) := by decide +kernel
theorem dX8_watchersOf_31 : decode cX8_watchersOf 31 = .ok (.getfield 31, 3) := by decide +kernel
theorem dX8_watchersOf_34 : decode cX8_watchersOf 34 = .ok (.iload 4, 2) := by decide +kernel
theorem dX8_watchersOf_36 : decode cX8_watchersOf 36 = .ok (.baload, 1) := by decide +kernel
theorem dX8_watchersOf_37 : decode cX8_watchersOf 37 = .ok (.ifCond .eq 49, 3) := by decide +kernel
theorem dX8_watchersOf_40 : decode cX8_watchersOf 40 = .ok (.aload_n 0, 1) := by decide +kernel
theorem dX8_watchersOf_41 : decode cX8_watchersOf 41 = .ok (.getfield 47, 3) := by decide +kernel
theorem dX8_watchersOf_44 : decode cX8_watchersOf 44 = .ok (.iload 4, 2) := by decide +kernel
theorem dX8_watchersOf_46 : decode cX8_watchersOf 46 = .ok (.dup2, 1) := by decide +kernel
theorem dX8_watchersOf_47 : decode cX8_watchersOf 47 = .ok (.laload, 1) := by decide +kernel
theorem dX8_watchersOf_48 : decode cX8_watchersOf 48 = .ok (.aload_n 0, 1) := by decide +kernel
theorem dX8_watchersOf_49 : decode cX8_watchersOf 49 = .ok (.getfield 31, 3) := by decide +kernel
theorem dX8_watchersOf_52 : decode cX8_watchersOf 52 = .ok (.iload 5, 2) := by decide +kernel
theorem dX8_watchersOf_54 : decode cX8_watchersOf 54 = .ok (.baload, 1) := by decide +kernel
theorem dX8_watchersOf_55 : decode cX8_watchersOf 55 = .ok (.ifCond .eq 22, 3) := by decide +kernel
theorem dX8_watchersOf_58 : decode cX8_watchersOf 58 = .ok (.aload_n 0, 1) := by decide +kernel
theorem dX8_watchersOf_59 : decode cX8_watchersOf 59 = .ok (.iload 4, 2) := by decide +kernel
theorem dX8_watchersOf_61 : decode cX8_watchersOf 61 = .ok (.iload 5, 2) := by decide +kernel
theorem dX8_watchersOf_63 : decode cX8_watchersOf 63 = .ok (.invokevirtual 253, 3) := by decide +kernel
theorem dX8_watchersOf_66 : decode cX8_watchersOf 66 = .ok (.iconst (-1), 1) := by decide +kernel
theorem dX8_watchersOf_67 : decode cX8_watchersOf 67 = .ok (.if_icmp .eq 10, 3) := by decide +kernel
theorem dX8_watchersOf_70 : decode cX8_watchersOf 70 = .ok (.lconst 1, 1) := by decide +kernel
theorem dX8_watchersOf_71 : decode cX8_watchersOf 71 = .ok (.iload 5, 2) := by decide +kernel
theorem dX8_watchersOf_73 : decode cX8_watchersOf 73 = .ok (.lshl, 1) := by decide +kernel
theorem dX8_watchersOf_74 : decode cX8_watchersOf 74 = .ok (.goto 4, 3) := by decide +kernel
theorem dX8_watchersOf_77 : decode cX8_watchersOf 77 = .ok (.lconst 0, 1) := by decide +kernel
theorem dX8_watchersOf_78 : decode cX8_watchersOf 78 = .ok (.lor, 1) := by decide +kernel
theorem dX8_watchersOf_79 : decode cX8_watchersOf 79 = .ok (.lastore, 1) := by decide +kernel
theorem dX8_watchersOf_80 : decode cX8_watchersOf 80 = .ok (.iinc 5 1, 3) := by decide +kernel
theorem dX8_watchersOf_83 : decode cX8_watchersOf 83 = .ok (.goto (-60), 3) := by decide +kernel
theorem dX8_watchersOf_86 : decode cX8_watchersOf 86 = .ok (.lload_n 2, 1) := by decide +kernel
theorem dX8_watchersOf_87 : decode cX8_watchersOf 87 = .ok (.aload_n 0, 1) := by decide +kernel
theorem dX8_watchersOf_88 : decode cX8_watchersOf 88 = .ok (.getfield 31, 3) := by decide +kernel
theorem dX8_watchersOf_91 : decode cX8_watchersOf 91 = .ok (.iload 4, 2) := by decide +kernel
theorem dX8_watchersOf_93 : decode cX8_watchersOf 93 = .ok (.baload, 1) := by decide +kernel
theorem dX8_watchersOf_94 : decode cX8_watchersOf 94 = .ok (.ifCond .eq 10, 3) := by decide +kernel
theorem dX8_watchersOf_97 : decode cX8_watchersOf 97 = .ok (.lconst 1, 1) := by decide +kernel
theorem dX8_watchersOf_98 : decode cX8_watchersOf 98 = .ok (.iload 4, 2) := by decide +kernel
theorem dX8_watchersOf_100 : decode cX8_watchersOf 100 = .ok (.lshl, 1) := by decide +kernel
theorem dX8_watchersOf_101 : decode cX8_watchersOf 101 = .ok (.goto 4, 3) := by decide +kernel
theorem dX8_watchersOf_104 : decode cX8_watchersOf 104 = .ok (.lconst 0, 1) := by decide +kernel
theorem dX8_watchersOf_105 : decode cX8_watchersOf 105 = .ok (.lor, 1) := by decide +kernel
theorem dX8_watchersOf_106 : decode cX8_watchersOf 106 = .ok (.lstore_n 2, 1) := by decide +kernel
theorem dX8_watchersOf_107 : decode cX8_watchersOf 107 = .ok (.iinc 4 1, 3) := by decide +kernel
theorem dX8_watchersOf_110 : decode cX8_watchersOf 110 = .ok (.goto (-105), 3) := by decide +kernel
theorem dX8_watchersOf_113 : decode cX8_watchersOf 113 = .ok (.lload_n 2, 1) := by decide +kernel
theorem dX8_watchersOf_114 : decode cX8_watchersOf 114 = .ok (.lconst 0, 1) := by decide +kernel
theorem dX8_watchersOf_115 : decode cX8_watchersOf 115 = .ok (.lcmp, 1) := by decide +kernel
theorem dX8_watchersOf_116 : decode cX8_watchersOf 116 = .ok (.ifCond .ne 13, 3) := by decide +kernel
theorem dX8_watchersOf_119 : decode cX8_watchersOf 119 = .ok (.iload_n 1, 1) := by decide +kernel
theorem dX8_watchersOf_120 : decode cX8_watchersOf 120 = .ok (.ifCond .ne 7, 3) := by decide +kernel
theorem dX8_watchersOf_123 : decode cX8_watchersOf 123 = .ok (.iconst 0, 1) := by decide +kernel
theorem dX8_watchersOf_124 : decode cX8_watchersOf 124 = .ok (.goto 4, 3) := by decide +kernel
theorem dX8_watchersOf_127 : decode cX8_watchersOf 127 = .ok (.iconst (-1), 1) := by decide +kernel
theorem dX8_watchersOf_128 : decode cX8_watchersOf 128 = .ok (.ireturn, 1) := by decide +kernel
theorem dX8_watchersOf_129 : decode cX8_watchersOf 129 = .ok (.iconst 0, 1) := by decide +kernel
theorem dX8_watchersOf_130 : decode cX8_watchersOf 130 = .ok (.istore 4, 2) := by decide +kernel
theorem dX8_watchersOf_132 : decode cX8_watchersOf 132 = .ok (.iload 4, 2) := by decide +kernel
theorem dX8_watchersOf_134 : decode cX8_watchersOf 134 = .ok (.bipush 64, 2) := by decide +kernel
theorem dX8_watchersOf_136 : decode cX8_watchersOf 136 = .ok (.if_icmp .ge 41, 3) := by decide +kernel
theorem dX8_watchersOf_139 : decode cX8_watchersOf 139 = .ok (.aload_n 0, 1) := by decide +kernel
theorem dX8_watchersOf_140 : decode cX8_watchersOf 140 = .ok (.getfield 47, 3) := by decide +kernel
theorem dX8_watchersOf_143 : decode cX8_watchersOf 143 = .ok (.iload 4, 2) := by decide +kernel
theorem dX8_watchersOf_145 : decode cX8_watchersOf 145 = .ok (.laload, 1) := by decide +kernel
theorem dX8_watchersOf_146 : decode cX8_watchersOf 146 = .ok (.lload_n 2, 1) := by decide +kernel
theorem dX8_watchersOf_147 : decode cX8_watchersOf 147 = .ok (.lcmp, 1) := by decide +kernel
theorem dX8_watchersOf_148 : decode cX8_watchersOf 148 = .ok (.ifCond .ne 23, 3) := by decide +kernel
theorem dX8_watchersOf_151 : decode cX8_watchersOf 151 = .ok (.iload_n 1, 1) := by decide +kernel
theorem dX8_watchersOf_152 : decode cX8_watchersOf 152 = .ok (.ifCond .ne 7, 3) := by decide +kernel
theorem dX8_watchersOf_155 : decode cX8_watchersOf 155 = .ok (.iconst 1, 1) := by decide +kernel
theorem dX8_watchersOf_156 : decode cX8_watchersOf 156 = .ok (.goto 14, 3) := by decide +kernel
theorem dX8_watchersOf_159 : decode cX8_watchersOf 159 = .ok (.iload_n 1, 1) := by decide +kernel
theorem dX8_watchersOf_160 : decode cX8_watchersOf 160 = .ok (.iconst 1, 1) := by decide +kernel
theorem dX8_watchersOf_161 : decode cX8_watchersOf 161 = .ok (.if_icmp .ne 8, 3) := by decide +kernel
theorem dX8_watchersOf_164 : decode cX8_watchersOf 164 = .ok (.iload 4, 2) := by decide +kernel
theorem dX8_watchersOf_166 : decode cX8_watchersOf 166 = .ok (.goto 4, 3) := by decide +kernel
theorem dX8_watchersOf_169 : decode cX8_watchersOf 169 = .ok (.iconst (-1), 1) := by decide +kernel
theorem dX8_watchersOf_170 : decode cX8_watchersOf 170 = .ok (.ireturn, 1) := by decide +kernel
theorem dX8_watchersOf_171 : decode cX8_watchersOf 171 = .ok (.iinc 4 1, 3) := by decide +kernel
theorem dX8_watchersOf_174 : decode cX8_watchersOf 174 = .ok (.goto (-42), 3) := by decide +kernel
theorem dX8_watchersOf_177 : decode cX8_watchersOf 177 = .ok (.iconst 0, 1) := by decide +kernel
theorem dX8_watchersOf_178 : decode cX8_watchersOf 178 = .ok (.istore 4, 2) := by decide +kernel
theorem dX8_watchersOf_180 : decode cX8_watchersOf 180 = .ok (.iload 4, 2) := by decide +kernel
theorem dX8_watchersOf_182 : decode cX8_watchersOf 182 = .ok (.bipush 64, 2) := by decide +kernel
theorem dX8_watchersOf_184 : decode cX8_watchersOf 184 = .ok (.if_icmp .ge 89, 3) := by decide +kernel
theorem dX8_watchersOf_187 : decode cX8_watchersOf 187 = .ok (.iload 4, 2) := by decide +kernel
theorem dX8_watchersOf_189 : decode cX8_watchersOf 189 = .ok (.iconst 1, 1) := by decide +kernel
theorem dX8_watchersOf_190 : decode cX8_watchersOf 190 = .ok (.iadd, 1) := by decide +kernel
theorem dX8_watchersOf_191 : decode cX8_watchersOf 191 = .ok (.istore 5, 2) := by decide +kernel
theorem dX8_watchersOf_193 : decode cX8_watchersOf 193 = .ok (.iload 5, 2) := by decide +kernel
theorem dX8_watchersOf_195 : decode cX8_watchersOf 195 = .ok (.bipush 64, 2) := by decide +kernel
theorem dX8_watchersOf_197 : decode cX8_watchersOf 197 = .ok (.if_icmp .ge 70, 3) := by decide +kernel
theorem dX8_watchersOf_200 : decode cX8_watchersOf 200 = .ok (.aload_n 0, 1) := by decide +kernel
theorem dX8_watchersOf_201 : decode cX8_watchersOf 201 = .ok (.getfield 31, 3) := by decide +kernel
theorem dX8_watchersOf_204 : decode cX8_watchersOf 204 = .ok (.iload 4, 2) := by decide +kernel
theorem dX8_watchersOf_206 : decode cX8_watchersOf 206 = .ok (.baload, 1) := by decide +kernel
theorem dX8_watchersOf_207 : decode cX8_watchersOf 207 = .ok (.ifCond .eq 54, 3) := by decide +kernel
theorem dX8_watchersOf_210 : decode cX8_watchersOf 210 = .ok (.aload_n 0, 1) := by decide +kernel
theorem dX8_watchersOf_211 : decode cX8_watchersOf 211 = .ok (.getfield 31, 3) := by decide +kernel
theorem dX8_watchersOf_214 : decode cX8_watchersOf 214 = .ok (.iload 5, 2) := by decide +kernel
theorem dX8_watchersOf_216 : decode cX8_watchersOf 216 = .ok (.baload, 1) := by decide +kernel
theorem dX8_watchersOf_217 : decode cX8_watchersOf 217 = .ok (.ifCond .eq 44, 3) := by decide +kernel
theorem dX8_watchersOf_220 : decode cX8_watchersOf 220 = .ok (.aload_n 0, 1) := by decide +kernel
theorem dX8_watchersOf_221 : decode cX8_watchersOf 221 = .ok (.getfield 47, 3) := by decide +kernel
theorem dX8_watchersOf_224 : decode cX8_watchersOf 224 = .ok (.iload 4, 2) := by decide +kernel
theorem dX8_watchersOf_226 : decode cX8_watchersOf 226 = .ok (.laload, 1) := by decide +kernel
theorem dX8_watchersOf_227 : decode cX8_watchersOf 227 = .ok (.aload_n 0, 1) := by decide +kernel
theorem dX8_watchersOf_228 : decode cX8_watchersOf 228 = .ok (.getfield 47, 3) := by decide +kernel
theorem dX8_watchersOf_231 : decode cX8_watchersOf 231 = .ok (.iload 5, 2) := by decide +kernel
theorem dX8_watchersOf_233 : decode cX8_watchersOf 233 = .ok (.laload, 1) := by decide +kernel
theorem dX8_watchersOf_234 : decode cX8_watchersOf 234 = .ok (.lor, 1) := by decide +kernel
theorem dX8_watchersOf_235 : decode cX8_watchersOf 235 = .ok (.lload_n 2, 1) := by decide +kernel
theorem dX8_watchersOf_236 : decode cX8_watchersOf 236 = .ok (.lcmp, 1) := by decide +kernel
theorem dX8_watchersOf_237 : decode cX8_watchersOf 237 = .ok (.ifCond .ne 24, 3) := by decide +kernel
theorem dX8_watchersOf_240 : decode cX8_watchersOf 240 = .ok (.iload_n 1, 1) := by decide +kernel
theorem dX8_watchersOf_241 : decode cX8_watchersOf 241 = .ok (.ifCond .ne 7, 3) := by decide +kernel
theorem dX8_watchersOf_244 : decode cX8_watchersOf 244 = .ok (.iconst 2, 1) := by decide +kernel
theorem dX8_watchersOf_245 : decode cX8_watchersOf 245 = .ok (.goto 15, 3) := by decide +kernel
theorem dX8_watchersOf_248 : decode cX8_watchersOf 248 = .ok (.iload_n 1, 1) := by decide +kernel
theorem dX8_watchersOf_249 : decode cX8_watchersOf 249 = .ok (.iconst 1, 1) := by decide +kernel
theorem dX8_watchersOf_250 : decode cX8_watchersOf 250 = .ok (.if_icmp .ne 8, 3) := by decide +kernel
theorem dX8_watchersOf_253 : decode cX8_watchersOf 253 = .ok (.iload 4, 2) := by decide +kernel
theorem dX8_watchersOf_255 : decode cX8_watchersOf 255 = .ok (.goto 5, 3) := by decide +kernel
theorem dX8_watchersOf_258 : decode cX8_watchersOf 258 = .ok (.iload 5, 2) := by decide +kernel
theorem dX8_watchersOf_260 : decode cX8_watchersOf 260 = .ok (.ireturn, 1) := by decide +kernel
theorem dX8_watchersOf_261 : decode cX8_watchersOf 261 = .ok (.iinc 5 1, 3) := by decide +kernel
theorem dX8_watchersOf_264 : decode cX8_watchersOf 264 = .ok (.goto (-71), 3) := by decide +kernel
theorem dX8_watchersOf_267 : decode cX8_watchersOf 267 = .ok (.iinc 4 1, 3) := by decide +kernel
theorem dX8_watchersOf_270 : decode cX8_watchersOf 270 = .ok (.goto (-90), 3) := by decide +kernel
theorem dX8_watchersOf_273 : decode cX8_watchersOf 273 = .ok (.iconst (-1), 1) := by decide +kernel
theorem dX8_watchersOf_274 : decode cX8_watchersOf 274 = .ok (.ireturn, 1) := by decide +kernel
theorem iw_X8_watchersOf_X8 : ∀ w ∈ u_ws RX8 TX8 18, w ∈ wsX8_watchersOf := by decide +kernel
theorem lk_X8_watchersOf_0 : Cond.fieldLink RX8 47 (TX8 17).1 (TX8 17).2.1 (TX8 17).2.2.1 ∈ wsX8_watchersOf := by decide +kernel
theorem lk_X8_watchersOf_1 : Cond.fieldLink RX8 31 (TX8 10).1 (TX8 10).2.1 (TX8 10).2.2.1 ∈ wsX8_watchersOf := by decide +kernel
set_option maxRecDepth 100000 in
theorem r_X8_watchersOf_0 {X : Bn} (C : Cx X cX8_watchersOf 6 RX8 wsX8_watchersOf 3 75) (ad : Nat → Nat) (S : MS) (x1 : Int32) (h : At X 6 (mW X.E ad S) 5 [(0, .ref (ad 0)), (1, .int x1), (2, .long 0), (4, .int 0)] []) : At X 6 (mW X.E ad S) 0 [(0, .ref (ad 0)), (1, .int x1)] [] := by
  refine at_lconst C dX8_watchersOf_0 (v := 0) rfl ?_
  refine at_lstore_n C dX8_watchersOf_1 rfl (by decide) (lv' := [(2, .long 0), (0, .ref (ad 0)), (1, .int x1)]) rfl ?_
  refine at_iconst C dX8_watchersOf_2 (v := 0) rfl ?_
  refine at_istore C dX8_watchersOf_3 (by decide) (lv' := [(4, .int 0), (2, .long 0), (0, .ref (ad 0)), (1, .int x1)]) rfl ?_
  refine at_lv [2, 3, 1, 0] rfl ?_
  exact h
set_option maxRecDepth 100000 in
theorem r_X8_watchersOf_5 {X : Bn} (C : Cx X cX8_watchersOf 6 RX8 wsX8_watchersOf 3 75) (ad : Nat → Nat) (S : MS) (x1 : Int32) (x2 : Int64) (x4 : Int32) (h : ((64 ≤ x4) → (((x2 = 0) → (Ends X (some .int) (some (.int (if x1 = 0 then 0 else (-1)))) (mW X.E ad S))) ∧ (¬ x2 = 0 → (At X 6 (mW X.E ad S) 132 [(0, .ref (ad 0)), (1, .int x1), (2, .long x2), (4, .int 0)] [])))) ∧ (¬ 64 ≤ x4 → ((vp_in x4 64) ∧ (At X 6 (mW X.E ad (pv S 0 x4.toNatClampNeg 0)) 23 [(0, .ref (ad 0)), (1, .int x1), (2, .long x2), (4, .int x4), (5, .int 0)] [])))) : At X 6 (mW X.E ad S) 5 [(0, .ref (ad 0)), (1, .int x1), (2, .long x2), (4, .int x4)] [] := by
  refine at_iload C dX8_watchersOf_5 (j := 3) rfl ?_
  refine at_bipush C dX8_watchersOf_7 (v := 64) rfl ?_
  refine at_icmp_ge C dX8_watchersOf_9 (tgt := 113) (by decide) (fun hc0 => ?_) (fun hc0 => ?_)
  · replace h := h.1 hc0
    refine at_lload_n C dX8_watchersOf_113 rfl (j := 2) rfl ?_
    refine at_lconst C dX8_watchersOf_114 (v := 0) rfl ?_
    refine at_lif_ne C dX8_watchersOf_115 dX8_watchersOf_116 (tgt := 129) (by decide) (fun hc1 => ?_) (fun hc1 => ?_)
    · replace h := h.2 hc1
      refine at_iconst C dX8_watchersOf_129 (v := 0) rfl ?_
      refine at_istore C dX8_watchersOf_130 (by decide) (lv' := [(4, .int 0), (0, .ref (ad 0)), (1, .int x1), (2, .long x2)]) rfl ?_
      refine at_lv [1, 2, 3, 0] rfl ?_
      exact h
    · replace h := h.1 hc1
      refine at_iload_n C dX8_watchersOf_119 rfl (j := 1) rfl ?_
      have K : At X 6 (mW X.E ad S) 128 [] [.int (if x1 = 0 then 0 else (-1))] := by
        exact at_iret C dX8_watchersOf_128 h
      refine at_if_ne C dX8_watchersOf_120 (tgt := 127) (by decide) (fun hc2 => ?_) (fun hc2 => ?_)
      · skip
        refine at_iconst C dX8_watchersOf_127 (v := (-1)) rfl ?_
        refine at_lv [] rfl ?_
        first | (simp only [if_neg hc2] at K; exact K) | exact K
      · skip
        refine at_iconst C dX8_watchersOf_123 (v := 0) rfl ?_
        refine at_goto C dX8_watchersOf_124 (tgt := 128) (by decide) ?_
        refine at_lv [] rfl ?_
        first | (simp only [if_pos hc2] at K; exact K) | exact K
  · replace h := h.2 hc0
    refine at_aload_n C dX8_watchersOf_12 rfl (j := 0) rfl ?_
    refine at_get C (K := RX8) (T := TX8) (N := 18) (ci := 7) (v := .ref (ad 13)) iw_X8_watchersOf_X8 0 mW_c0 rfl 17 (by decide) lk_X8_watchersOf_0 rfl dX8_watchersOf_13 ?_
    refine at_iload C dX8_watchersOf_16 (j := 3) rfl ?_
    refine at_lconst C dX8_watchersOf_18 (v := 0) rfl ?_
    refine at_last C 13 mW_c13 h.1 mW_s13 dX8_watchersOf_19 ?_
    replace h := h.2
    refine at_iconst C dX8_watchersOf_20 (v := 0) rfl ?_
    refine at_istore C dX8_watchersOf_21 (by decide) (lv' := [(5, .int 0), (0, .ref (ad 0)), (1, .int x1), (2, .long x2), (4, .int x4)]) rfl ?_
    refine at_lv [1, 2, 3, 4, 0] rfl ?_
    exact h
set_option maxRecDepth 100000 in
theorem r_X8_watchersOf_23 {X : Bn} (C : Cx X cX8_watchersOf 6 RX8 wsX8_watchersOf 3 75) (ad : Nat → Nat) (S : MS) (x1 : Int32) (x2 : Int64) (x4 : Int32) (x5 : Int32) (h : ((64 ≤ x5) → ((vp_in x4 64) ∧ (At X 6 (mW X.E ad S) 5 [(0, .ref (ad 0)), (1, .int x1), (2, .long (x2 ||| (if S.1 10 x4.toNatClampNeg = 0 then 0 else lshl 1 x4))), (4, .int (x4 + 1))] []))) ∧ (¬ 64 ≤ x5 → ((vp_in x4 64) ∧ (((S.1 10 x4.toNatClampNeg = 0) → ((vp_in x4 64) ∧ (At X 6 (mW X.E ad S) 5 [(0, .ref (ad 0)), (1, .int x1), (2, .long (x2 ||| (if S.1 10 x4.toNatClampNeg = 0 then 0 else lshl 1 x4))), (4, .int (x4 + 1))] []))) ∧ (¬ S.1 10 x4.toNatClampNeg = 0 → ((vp_in x4 64) ∧ ((vp_in x5 64) ∧ ((((¬ S.1 10 x5.toNatClampNeg = 0) → (p_X8_stepsTo x4 x5))) ∧ ((vp_in x4 64) ∧ (At X 6 (mW X.E ad (pv S 0 x4.toNatClampNeg ((S.2 0 x4.toNatClampNeg) ||| (if S.1 10 x5.toNatClampNeg = 0 then 0 else (if f_X8_stepsTo S x4 x5 = (-1) then 0 else lshl 1 x5))))) 23 [(0, .ref (ad 0)), (1, .int x1), (2, .long x2), (4, .int x4), (5, .int (x5 + 1))] [])))))))))) : At X 6 (mW X.E ad S) 23 [(0, .ref (ad 0)), (1, .int x1), (2, .long x2), (4, .int x4), (5, .int x5)] [] := by
  refine at_iload C dX8_watchersOf_23 (j := 4) rfl ?_
  refine at_bipush C dX8_watchersOf_25 (v := 64) rfl ?_
  refine at_icmp_ge C dX8_watchersOf_27 (tgt := 86) (by decide) (fun hc2 => ?_) (fun hc2 => ?_)
  · replace h := h.1 hc2
    refine at_lload_n C dX8_watchersOf_86 rfl (j := 2) rfl ?_
    refine at_aload_n C dX8_watchersOf_87 rfl (j := 0) rfl ?_
    refine at_get C (K := RX8) (T := TX8) (N := 18) (ci := 7) (v := .ref (ad 8)) iw_X8_watchersOf_X8 0 mW_c0 rfl 10 (by decide) lk_X8_watchersOf_1 rfl dX8_watchersOf_88 ?_
    refine at_iload C dX8_watchersOf_91 (j := 3) rfl ?_
    refine at_zald C 8 mW_c8 h.1 dX8_watchersOf_93 ?_
    replace h := h.2
    have K : At X 6 (mW X.E ad S) 105 [(0, .ref (ad 0)), (1, .int x1), (4, .int x4)] [.long (if S.1 10 x4.toNatClampNeg = 0 then 0 else lshl 1 x4), .long x2] := by
      refine at_lor C dX8_watchersOf_105 ?_
      refine at_lstore_n C dX8_watchersOf_106 rfl (by decide) (lv' := [(2, .long (x2 ||| (if S.1 10 x4.toNatClampNeg = 0 then 0 else lshl 1 x4))), (0, .ref (ad 0)), (1, .int x1), (4, .int x4)]) rfl ?_
      refine at_iinc C dX8_watchersOf_107 (j := 3) (v := x4 + 1) rfl rfl (by decide) (lv' := [(4, .int (x4 + 1)), (2, .long (x2 ||| (if S.1 10 x4.toNatClampNeg = 0 then 0 else lshl 1 x4))), (0, .ref (ad 0)), (1, .int x1)]) rfl ?_
      refine at_goto C dX8_watchersOf_110 (tgt := 5) (by decide) ?_
      refine at_lv [2, 3, 1, 0] rfl ?_
      exact h
    refine at_if_eq C dX8_watchersOf_94 (tgt := 104) (by decide) (fun hc3 => ?_) (fun hc3 => ?_)
    · skip
      refine at_lconst C dX8_watchersOf_104 (v := 0) rfl ?_
      refine at_lv [0, 1, 3] rfl ?_
      first | (simp only [if_pos hc3] at K; exact K) | exact K
    · skip
      refine at_lconst C dX8_watchersOf_97 (v := 1) rfl ?_
      refine at_iload C dX8_watchersOf_98 (j := 3) rfl ?_
      refine at_lshl C dX8_watchersOf_100 ?_
      refine at_goto C dX8_watchersOf_101 (tgt := 105) (by decide) ?_
      refine at_lv [0, 1, 3] rfl ?_
      first | (simp only [if_neg hc3] at K; exact K) | exact K
  · replace h := h.2 hc2
    refine at_aload_n C dX8_watchersOf_30 rfl (j := 0) rfl ?_
    refine at_get C (K := RX8) (T := TX8) (N := 18) (ci := 7) (v := .ref (ad 8)) iw_X8_watchersOf_X8 0 mW_c0 rfl 10 (by decide) lk_X8_watchersOf_1 rfl dX8_watchersOf_31 ?_
    refine at_iload C dX8_watchersOf_34 (j := 3) rfl ?_
    refine at_zald C 8 mW_c8 h.1 dX8_watchersOf_36 ?_
    replace h := h.2
    refine at_if_eq C dX8_watchersOf_37 (tgt := 86) (by decide) (fun hc3 => ?_) (fun hc3 => ?_)
    · replace h := h.1 hc3
      refine at_lload_n C dX8_watchersOf_86 rfl (j := 2) rfl ?_
      refine at_aload_n C dX8_watchersOf_87 rfl (j := 0) rfl ?_
      refine at_get C (K := RX8) (T := TX8) (N := 18) (ci := 7) (v := .ref (ad 8)) iw_X8_watchersOf_X8 0 mW_c0 rfl 10 (by decide) lk_X8_watchersOf_1 rfl dX8_watchersOf_88 ?_
      refine at_iload C dX8_watchersOf_91 (j := 3) rfl ?_
      refine at_zald C 8 mW_c8 h.1 dX8_watchersOf_93 ?_
      replace h := h.2
      have K : At X 6 (mW X.E ad S) 105 [(0, .ref (ad 0)), (1, .int x1), (4, .int x4)] [.long (if S.1 10 x4.toNatClampNeg = 0 then 0 else lshl 1 x4), .long x2] := by
        refine at_lor C dX8_watchersOf_105 ?_
        refine at_lstore_n C dX8_watchersOf_106 rfl (by decide) (lv' := [(2, .long (x2 ||| (if S.1 10 x4.toNatClampNeg = 0 then 0 else lshl 1 x4))), (0, .ref (ad 0)), (1, .int x1), (4, .int x4)]) rfl ?_
        refine at_iinc C dX8_watchersOf_107 (j := 3) (v := x4 + 1) rfl rfl (by decide) (lv' := [(4, .int (x4 + 1)), (2, .long (x2 ||| (if S.1 10 x4.toNatClampNeg = 0 then 0 else lshl 1 x4))), (0, .ref (ad 0)), (1, .int x1)]) rfl ?_
        refine at_goto C dX8_watchersOf_110 (tgt := 5) (by decide) ?_
        refine at_lv [2, 3, 1, 0] rfl ?_
        exact h
      refine at_if_eq C dX8_watchersOf_94 (tgt := 104) (by decide) (fun hc4 => ?_) (fun hc4 => ?_)
      · skip
        refine at_lconst C dX8_watchersOf_104 (v := 0) rfl ?_
        refine at_lv [0, 1, 3] rfl ?_
        first | (simp only [if_pos hc4] at K; exact K) | exact K
      · skip
        refine at_lconst C dX8_watchersOf_97 (v := 1) rfl ?_
        refine at_iload C dX8_watchersOf_98 (j := 3) rfl ?_
        refine at_lshl C dX8_watchersOf_100 ?_
        refine at_goto C dX8_watchersOf_101 (tgt := 105) (by decide) ?_
        refine at_lv [0, 1, 3] rfl ?_
        first | (simp only [if_neg hc4] at K; exact K) | exact K
    · replace h := h.2 hc3
      refine at_aload_n C dX8_watchersOf_40 rfl (j := 0) rfl ?_
      refine at_get C (K := RX8) (T := TX8) (N := 18) (ci := 7) (v := .ref (ad 13)) iw_X8_watchersOf_X8 0 mW_c0 rfl 17 (by decide) lk_X8_watchersOf_0 rfl dX8_watchersOf_41 ?_
      refine at_iload C dX8_watchersOf_44 (j := 3) rfl ?_
      refine at_dup2_11 C dX8_watchersOf_46 rfl rfl ?_
      refine at_lald C 13 mW_c13 h.1 dX8_watchersOf_47 ?_
      replace h := h.2
      refine at_aload_n C dX8_watchersOf_48 rfl (j := 0) rfl ?_
      refine at_get C (K := RX8) (T := TX8) (N := 18) (ci := 7) (v := .ref (ad 8)) iw_X8_watchersOf_X8 0 mW_c0 rfl 10 (by decide) lk_X8_watchersOf_1 rfl dX8_watchersOf_49 ?_
      refine at_iload C dX8_watchersOf_52 (j := 4) rfl ?_
      refine at_zald C 8 mW_c8 h.1 dX8_watchersOf_54 ?_
      replace h := h.2
      have hq := h.1
      replace h := h.2
      have K : At X 6 (mW X.E ad S) 78 [(0, .ref (ad 0)), (1, .int x1), (2, .long x2), (4, .int x4), (5, .int x5)] [.long (if S.1 10 x5.toNatClampNeg = 0 then 0 else (if f_X8_stepsTo S x4 x5 = (-1) then 0 else lshl 1 x5)), .long (S.2 0 x4.toNatClampNeg), .int x4, .ref (ad 13)] := by
        refine at_lor C dX8_watchersOf_78 ?_
        refine at_last C 13 mW_c13 h.1 mW_s13 dX8_watchersOf_79 ?_
        replace h := h.2
        refine at_iinc C dX8_watchersOf_80 (j := 4) (v := x5 + 1) rfl rfl (by decide) (lv' := [(5, .int (x5 + 1)), (0, .ref (ad 0)), (1, .int x1), (2, .long x2), (4, .int x4)]) rfl ?_
        refine at_goto C dX8_watchersOf_83 (tgt := 23) (by decide) ?_
        refine at_lv [1, 2, 3, 4, 0] rfl ?_
        exact h
      replace h := hq
      refine at_if_eq C dX8_watchersOf_55 (tgt := 77) (by decide) (fun hc4 => ?_) (fun hc4 => ?_)
      · skip
        refine at_lconst C dX8_watchersOf_77 (v := 0) rfl ?_
        first | (simp only [if_pos hc4] at K; exact K) | exact K
      · replace h := h hc4
        refine at_aload_n C dX8_watchersOf_58 rfl (j := 0) rfl ?_
        refine at_iload C dX8_watchersOf_59 (j := 3) rfl ?_
        refine at_iload C dX8_watchersOf_61 (j := 4) rfl ?_
        refine at_cV1 C 2 (c_X8_stepsTo X.l X.D X.E X.a1 X.a2 ad S x4 x5 h) gX8_watchersOf_X8_stepsTo rfl (by decide +kernel) ⟨rfl, rfl⟩ rfl rfl rfl 0 mW_c0 rfl dX8_watchersOf_63 ?_
        refine at_iconst C dX8_watchersOf_66 (v := (-1)) rfl ?_
        refine at_icmp_eq C dX8_watchersOf_67 (tgt := 77) (by decide) (fun hc5 => ?_) (fun hc5 => ?_)
        · skip
          refine at_lconst C dX8_watchersOf_77 (v := 0) rfl ?_
          first | (simp only [if_neg hc4, if_pos hc5] at K; exact K) | exact K
        · skip
          refine at_lconst C dX8_watchersOf_70 (v := 1) rfl ?_
          refine at_iload C dX8_watchersOf_71 (j := 4) rfl ?_
          refine at_lshl C dX8_watchersOf_73 ?_
          refine at_goto C dX8_watchersOf_74 (tgt := 78) (by decide) ?_
          first | (simp only [if_neg hc4, if_neg hc5] at K; exact K) | exact K
set_option maxRecDepth 100000 in
theorem r_X8_watchersOf_132 {X : Bn} (C : Cx X cX8_watchersOf 6 RX8 wsX8_watchersOf 3 75) (ad : Nat → Nat) (S : MS) (x1 : Int32) (x2 : Int64) (x4 : Int32) (h : ((64 ≤ x4) → (At X 6 (mW X.E ad S) 180 [(0, .ref (ad 0)), (1, .int x1), (2, .long x2), (4, .int 0)] [])) ∧ (¬ 64 ≤ x4 → ((vp_in x4 64) ∧ (((S.2 0 x4.toNatClampNeg = x2) → (Ends X (some .int) (some (.int (if x1 = 0 then 1 else (if x1 = 1 then x4 else (-1))))) (mW X.E ad S))) ∧ (¬ S.2 0 x4.toNatClampNeg = x2 → (At X 6 (mW X.E ad S) 132 [(0, .ref (ad 0)), (1, .int x1), (2, .long x2), (4, .int (x4 + 1))] [])))))) : At X 6 (mW X.E ad S) 132 [(0, .ref (ad 0)), (1, .int x1), (2, .long x2), (4, .int x4)] [] := by
  refine at_iload C dX8_watchersOf_132 (j := 3) rfl ?_
  refine at_bipush C dX8_watchersOf_134 (v := 64) rfl ?_
  refine at_icmp_ge C dX8_watchersOf_136 (tgt := 177) (by decide) (fun hc4 => ?_) (fun hc4 => ?_)
  · replace h := h.1 hc4
    refine at_iconst C dX8_watchersOf_177 (v := 0) rfl ?_
    refine at_istore C dX8_watchersOf_178 (by decide) (lv' := [(4, .int 0), (0, .ref (ad 0)), (1, .int x1), (2, .long x2)]) rfl ?_
    refine at_lv [1, 2, 3, 0] rfl ?_
    exact h
  · replace h := h.2 hc4
    refine at_aload_n C dX8_watchersOf_139 rfl (j := 0) rfl ?_
    refine at_get C (K := RX8) (T := TX8) (N := 18) (ci := 7) (v := .ref (ad 13)) iw_X8_watchersOf_X8 0 mW_c0 rfl 17 (by decide) lk_X8_watchersOf_0 rfl dX8_watchersOf_140 ?_
    refine at_iload C dX8_watchersOf_143 (j := 3) rfl ?_
    refine at_lald C 13 mW_c13 h.1 dX8_watchersOf_145 ?_
    replace h := h.2
    refine at_lload_n C dX8_watchersOf_146 rfl (j := 2) rfl ?_
    refine at_lif_ne C dX8_watchersOf_147 dX8_watchersOf_148 (tgt := 171) (by decide) (fun hc5 => ?_) (fun hc5 => ?_)
    · replace h := h.2 hc5
      refine at_iinc C dX8_watchersOf_171 (j := 3) (v := x4 + 1) rfl rfl (by decide) (lv' := [(4, .int (x4 + 1)), (0, .ref (ad 0)), (1, .int x1), (2, .long x2)]) rfl ?_
      refine at_goto C dX8_watchersOf_174 (tgt := 132) (by decide) ?_
      refine at_lv [1, 2, 3, 0] rfl ?_
      exact h
    · replace h := h.1 hc5
      refine at_iload_n C dX8_watchersOf_151 rfl (j := 1) rfl ?_
      have K : At X 6 (mW X.E ad S) 170 [] [.int (if x1 = 0 then 1 else (if x1 = 1 then x4 else (-1)))] := by
        exact at_iret C dX8_watchersOf_170 h
      refine at_if_ne C dX8_watchersOf_152 (tgt := 159) (by decide) (fun hc6 => ?_) (fun hc6 => ?_)
      · skip
        refine at_iload_n C dX8_watchersOf_159 rfl (j := 1) rfl ?_
        refine at_iconst C dX8_watchersOf_160 (v := 1) rfl ?_
        refine at_icmp_ne C dX8_watchersOf_161 (tgt := 169) (by decide) (fun hc7 => ?_) (fun hc7 => ?_)
        · skip
          refine at_iconst C dX8_watchersOf_169 (v := (-1)) rfl ?_
          refine at_lv [] rfl ?_
          first | (simp only [if_neg hc6, if_neg hc7] at K; exact K) | exact K
        · skip
          refine at_iload C dX8_watchersOf_164 (j := 3) rfl ?_
          refine at_goto C dX8_watchersOf_166 (tgt := 170) (by decide) ?_
          refine at_lv [] rfl ?_
          first | (simp only [if_neg hc6, if_pos hc7] at K; exact K) | exact K
      · skip
        refine at_iconst C dX8_watchersOf_155 (v := 1) rfl ?_
        refine at_goto C dX8_watchersOf_156 (tgt := 170) (by decide) ?_
        refine at_lv [] rfl ?_
        first | (simp only [if_pos hc6] at K; exact K) | exact K
set_option maxRecDepth 100000 in
theorem r_X8_watchersOf_180 {X : Bn} (C : Cx X cX8_watchersOf 6 RX8 wsX8_watchersOf 3 75) (ad : Nat → Nat) (S : MS) (x1 : Int32) (x2 : Int64) (x4 : Int32) (h : ((64 ≤ x4) → (Ends X (some .int) (some (.int (-1))) (mW X.E ad S))) ∧ (¬ 64 ≤ x4 → (At X 6 (mW X.E ad S) 193 [(0, .ref (ad 0)), (1, .int x1), (2, .long x2), (4, .int x4), (5, .int (x4 + 1))] []))) : At X 6 (mW X.E ad S) 180 [(0, .ref (ad 0)), (1, .int x1), (2, .long x2), (4, .int x4)] [] := by
  refine at_iload C dX8_watchersOf_180 (j := 3) rfl ?_
  refine at_bipush C dX8_watchersOf_182 (v := 64) rfl ?_
  refine at_icmp_ge C dX8_watchersOf_184 (tgt := 273) (by decide) (fun hc6 => ?_) (fun hc6 => ?_)
  · replace h := h.1 hc6
    refine at_iconst C dX8_watchersOf_273 (v := (-1)) rfl ?_
    exact at_iret C dX8_watchersOf_274 h
  · replace h := h.2 hc6
    refine at_iload C dX8_watchersOf_187 (j := 3) rfl ?_
    refine at_iconst C dX8_watchersOf_189 (v := 1) rfl ?_
    refine at_iadd C dX8_watchersOf_190 ?_
    refine at_istore C dX8_watchersOf_191 (by decide) (lv' := [(5, .int (x4 + 1)), (0, .ref (ad 0)), (1, .int x1), (2, .long x2), (4, .int x4)]) rfl ?_
    refine at_lv [1, 2, 3, 4, 0] rfl ?_
    exact h
set_option maxRecDepth 100000 in
theorem r_X8_watchersOf_193 {X : Bn} (C : Cx X cX8_watchersOf 6 RX8 wsX8_watchersOf 3 75) (ad : Nat → Nat) (S : MS) (x1 : Int32) (x2 : Int64) (x4 : Int32) (x5 : Int32) (h : ((64 ≤ x5) → (At X 6 (mW X.E ad S) 180 [(0, .ref (ad 0)), (1, .int x1), (2, .long x2), (4, .int (x4 + 1))] [])) ∧ (¬ 64 ≤ x5 → ((vp_in x4 64) ∧ (((S.1 10 x4.toNatClampNeg = 0) → (At X 6 (mW X.E ad S) 193 [(0, .ref (ad 0)), (1, .int x1), (2, .long x2), (4, .int x4), (5, .int (x5 + 1))] [])) ∧ (¬ S.1 10 x4.toNatClampNeg = 0 → ((vp_in x5 64) ∧ (((S.1 10 x5.toNatClampNeg = 0) → (At X 6 (mW X.E ad S) 193 [(0, .ref (ad 0)), (1, .int x1), (2, .long x2), (4, .int x4), (5, .int (x5 + 1))] [])) ∧ (¬ S.1 10 x5.toNatClampNeg = 0 → ((vp_in x4 64) ∧ ((vp_in x5 64) ∧ ((((S.2 0 x4.toNatClampNeg) ||| (S.2 0 x5.toNatClampNeg) = x2) → (Ends X (some .int) (some (.int (if x1 = 0 then 2 else (if x1 = 1 then x4 else x5)))) (mW X.E ad S))) ∧ (¬ (S.2 0 x4.toNatClampNeg) ||| (S.2 0 x5.toNatClampNeg) = x2 → (At X 6 (mW X.E ad S) 193 [(0, .ref (ad 0)), (1, .int x1), (2, .long x2), (4, .int x4), (5, .int (x5 + 1))] []))))))))))))) : At X 6 (mW X.E ad S) 193 [(0, .ref (ad 0)), (1, .int x1), (2, .long x2), (4, .int x4), (5, .int x5)] [] := by
  refine at_iload C dX8_watchersOf_193 (j := 4) rfl ?_
  refine at_bipush C dX8_watchersOf_195 (v := 64) rfl ?_
  refine at_icmp_ge C dX8_watchersOf_197 (tgt := 267) (by decide) (fun hc7 => ?_) (fun hc7 => ?_)
  · replace h := h.1 hc7
    refine at_iinc C dX8_watchersOf_267 (j := 3) (v := x4 + 1) rfl rfl (by decide) (lv' := [(4, .int (x4 + 1)), (0, .ref (ad 0)), (1, .int x1), (2, .long x2), (5, .int x5)]) rfl ?_
    refine at_goto C dX8_watchersOf_270 (tgt := 180) (by decide) ?_
    refine at_lv [1, 2, 3, 0] rfl ?_
    exact h
  · replace h := h.2 hc7
    refine at_aload_n C dX8_watchersOf_200 rfl (j := 0) rfl ?_
    refine at_get C (K := RX8) (T := TX8) (N := 18) (ci := 7) (v := .ref (ad 8)) iw_X8_watchersOf_X8 0 mW_c0 rfl 10 (by decide) lk_X8_watchersOf_1 rfl dX8_watchersOf_201 ?_
    refine at_iload C dX8_watchersOf_204 (j := 3) rfl ?_
    refine at_zald C 8 mW_c8 h.1 dX8_watchersOf_206 ?_
    replace h := h.2
    refine at_if_eq C dX8_watchersOf_207 (tgt := 261) (by decide) (fun hc8 => ?_) (fun hc8 => ?_)
    · replace h := h.1 hc8
      refine at_iinc C dX8_watchersOf_261 (j := 4) (v := x5 + 1) rfl rfl (by decide) (lv' := [(5, .int (x5 + 1)), (0, .ref (ad 0)), (1, .int x1), (2, .long x2), (4, .int x4)]) rfl ?_
      refine at_goto C dX8_watchersOf_264 (tgt := 193) (by decide) ?_
      refine at_lv [1, 2, 3, 4, 0] rfl ?_
      exact h
    · replace h := h.2 hc8
      refine at_aload_n C dX8_watchersOf_210 rfl (j := 0) rfl ?_
      refine at_get C (K := RX8) (T := TX8) (N := 18) (ci := 7) (v := .ref (ad 8)) iw_X8_watchersOf_X8 0 mW_c0 rfl 10 (by decide) lk_X8_watchersOf_1 rfl dX8_watchersOf_211 ?_
      refine at_iload C dX8_watchersOf_214 (j := 4) rfl ?_
      refine at_zald C 8 mW_c8 h.1 dX8_watchersOf_216 ?_
      replace h := h.2
      refine at_if_eq C dX8_watchersOf_217 (tgt := 261) (by decide) (fun hc9 => ?_) (fun hc9 => ?_)
      · replace h := h.1 hc9
        refine at_iinc C dX8_watchersOf_261 (j := 4) (v := x5 + 1) rfl rfl (by decide) (lv' := [(5, .int (x5 + 1)), (0, .ref (ad 0)), (1, .int x1), (2, .long x2), (4, .int x4)]) rfl ?_
        refine at_goto C dX8_watchersOf_264 (tgt := 193) (by decide) ?_
        refine at_lv [1, 2, 3, 4, 0] rfl ?_
        exact h
      · replace h := h.2 hc9
        refine at_aload_n C dX8_watchersOf_220 rfl (j := 0) rfl ?_
        refine at_get C (K := RX8) (T := TX8) (N := 18) (ci := 7) (v := .ref (ad 13)) iw_X8_watchersOf_X8 0 mW_c0 rfl 17 (by decide) lk_X8_watchersOf_0 rfl dX8_watchersOf_221 ?_
        refine at_iload C dX8_watchersOf_224 (j := 3) rfl ?_
        refine at_lald C 13 mW_c13 h.1 dX8_watchersOf_226 ?_
        replace h := h.2
        refine at_aload_n C dX8_watchersOf_227 rfl (j := 0) rfl ?_
        refine at_get C (K := RX8) (T := TX8) (N := 18) (ci := 7) (v := .ref (ad 13)) iw_X8_watchersOf_X8 0 mW_c0 rfl 17 (by decide) lk_X8_watchersOf_0 rfl dX8_watchersOf_228 ?_
        refine at_iload C dX8_watchersOf_231 (j := 4) rfl ?_
        refine at_lald C 13 mW_c13 h.1 dX8_watchersOf_233 ?_
        replace h := h.2
        refine at_lor C dX8_watchersOf_234 ?_
        refine at_lload_n C dX8_watchersOf_235 rfl (j := 2) rfl ?_
        refine at_lif_ne C dX8_watchersOf_236 dX8_watchersOf_237 (tgt := 261) (by decide) (fun hc10 => ?_) (fun hc10 => ?_)
        · replace h := h.2 hc10
          refine at_iinc C dX8_watchersOf_261 (j := 4) (v := x5 + 1) rfl rfl (by decide) (lv' := [(5, .int (x5 + 1)), (0, .ref (ad 0)), (1, .int x1), (2, .long x2), (4, .int x4)]) rfl ?_
          refine at_goto C dX8_watchersOf_264 (tgt := 193) (by decide) ?_
          refine at_lv [1, 2, 3, 4, 0] rfl ?_
          exact h
        · replace h := h.1 hc10
          refine at_iload_n C dX8_watchersOf_240 rfl (j := 1) rfl ?_
          have K : At X 6 (mW X.E ad S) 260 [] [.int (if x1 = 0 then 2 else (if x1 = 1 then x4 else x5))] := by
            exact at_iret C dX8_watchersOf_260 h
          refine at_if_ne C dX8_watchersOf_241 (tgt := 248) (by decide) (fun hc11 => ?_) (fun hc11 => ?_)
          · skip
            refine at_iload_n C dX8_watchersOf_248 rfl (j := 1) rfl ?_
            refine at_iconst C dX8_watchersOf_249 (v := 1) rfl ?_
            refine at_icmp_ne C dX8_watchersOf_250 (tgt := 258) (by decide) (fun hc12 => ?_) (fun hc12 => ?_)
            · skip
              refine at_iload C dX8_watchersOf_258 (j := 4) rfl ?_
              refine at_lv [] rfl ?_
              first | (simp only [if_neg hc11, if_neg hc12] at K; exact K) | exact K
            · skip
              refine at_iload C dX8_watchersOf_253 (j := 3) rfl ?_
              refine at_goto C dX8_watchersOf_255 (tgt := 260) (by decide) ?_
              refine at_lv [] rfl ?_
              first | (simp only [if_neg hc11, if_pos hc12] at K; exact K) | exact K
          · skip
            refine at_iconst C dX8_watchersOf_244 (v := 2) rfl ?_
            refine at_goto C dX8_watchersOf_245 (tgt := 260) (by decide) ?_
            refine at_lv [] rfl ?_
            first | (simp only [if_pos hc11] at K; exact K) | exact K
/-- a whole long cell put -/
def setG (S : MS) (k : Nat) (f : Nat → Int64) : MS := (S.1, fun j => if j = k then f else S.2 j)
theorem setG_k {S : MS} {k : Nat} {f : Nat → Int64} : (setG S k f).2 k = f := by simp [setG]
theorem setG_o {S : MS} {k j : Nat} {f : Nat → Int64} (h : j ≠ k) : (setG S k f).2 j = S.2 j := by simp [setG, h]
theorem setG_1 {S : MS} {k : Nat} {f : Nat → Int64} : (setG S k f).1 = S.1 := rfl
theorem setG_self (S : MS) (k : Nat) : setG S k (S.2 k) = S := by
  refine Prod.ext rfl ?_
  funext j
  show (if j = k then S.2 k else S.2 j) = S.2 j
  by_cases h : j = k
  · rw [if_pos h, h]
  · rw [if_neg h]
theorem setG_pv {S : MS} {k i : Nat} {f : Nat → Int64} {x : Int64} : pv (setG S k f) k i x = setG S k (vp_updL f i x) := by
  refine Prod.ext rfl ?_
  funext j
  show upL (fun j => if j = k then f else S.2 j) k i x j = (if j = k then vp_updL f i x else S.2 j)
  unfold upL
  by_cases h : j = k
  · subst h; simp
  · simp [h]
theorem setG_set {S : MS} {k : Nat} {f g : Nat → Int64} : setG (setG S k f) k g = setG S k g := by
  refine Prod.ext rfl ?_
  funext j
  show (if j = k then g else (if j = k then f else S.2 j)) = (if j = k then g else S.2 j)
  by_cases h : j = k
  · rw [if_pos h, if_pos h]
  · rw [if_neg h, if_neg h, if_neg h]
/-- what a watcher at c sees, as bits -/
def vwBit (S : MS) (c d : Nat) : Int64 := if S.1 10 d = 0 then 0 else (if f_X8_stepsTo S (nI c) (nI d) = (-1) then 0 else lshl 1 (nI d))
def vwS (S : MS) (c : Nat) : Int64 := if S.1 10 c = 0 then 0 else itF (fun d a => a ||| vwBit S c d) 0 64 0
def allS (S : MS) : Int64 := itF (fun c a => a ||| (if S.1 10 c = 0 then 0 else lshl 1 (nI c))) 0 64 0
/-- the first of so many places from i on -/
def srch (P : Nat → Bool) : Nat → Nat → Option Nat
  | 0, _ => none
  | k + 1, i => if P i then some i else srch P k (i + 1)
def one1 (vw : Nat → Int64) (all : Int64) (c : Nat) : Bool := decide (vw c = all)
def two1 (g : Nat → Int32) (vw : Nat → Int64) (all : Int64) (c d : Nat) : Bool := decide (¬ g c = 0) && (decide (¬ g d = 0) && decide (vw c ||| vw d = all))
/-- the second one to the first, from d on; the first pair, from c on -/
def pairs (g : Nat → Int32) (vw : Nat → Int64) (all : Int64) : Nat → Nat → Option (Nat × Nat)
  | 0, _ => none
  | k + 1, c => match srch (two1 g vw all c) (64 - (c + 1)) (c + 1) with
    | some d => some (c, d)
    | none => pairs g vw all k (c + 1)
def watA (g : Nat → Int32) (vw : Nat → Int64) (all : Int64) (x1 : Int32) : Int32 :=
  if all = 0 then (if x1 = 0 then 0 else -1) else (match srch (one1 vw all) 64 0 with
    | some c => if x1 = 0 then 1 else (if x1 = 1 then nI c else -1)
    | none => match pairs g vw all 64 0 with
      | some p => if x1 = 0 then 2 else (if x1 = 1 then nI p.1 else nI p.2)
      | none => -1)
def f_X8_watchersOf (S : MS) (x1 : Int32) : Int32 := watA (S.1 10) (vwS S) (allS S) x1
theorem watA_congr {g : Nat → Int32} {vw vw' : Nat → Int64} {all : Int64} {x1 : Int32} (h : ∀ c, c < 64 → vw c = vw' c) : watA g vw all x1 = watA g vw' all x1 := by
  have h1 : ∀ (k i : Nat), i + k ≤ 64 → srch (one1 vw all) k i = srch (one1 vw' all) k i := by
    intro k
    induction k with
    | zero => intro i _; rfl
    | succ k ih => intro i hi; rw [srch, srch, ih (i + 1) (by omega)]; unfold one1; rw [h i (by omega)]
  have h2 : ∀ c, c < 64 → ∀ (k i : Nat), i + k ≤ 64 → srch (two1 g vw all c) k i = srch (two1 g vw' all c) k i := by
    intro c hc k
    induction k with
    | zero => intro i _; rfl
    | succ k ih => intro i hi; rw [srch, srch, ih (i + 1) (by omega)]; unfold two1; rw [h i (by omega), h c hc]
  have h3 : ∀ (k c : Nat), c + k ≤ 64 → pairs g vw all k c = pairs g vw' all k c := by
    intro k
    induction k with
    | zero => intro c _; rfl
    | succ k ih => intro c hc; rw [pairs, pairs, ih (c + 1) (by omega), h2 c (by omega) _ _ (by omega)]
  unfold watA
  rw [h1 64 0 (by decide), h3 64 0 (by decide)]
theorem c_X8_watchersOf (ad : Nat → Nat) (S : MS) (x1 : Int32) :
    ∃ f, ∀ (l : Launch) (D : va_G) (E : Nat → ClassId) (a1 a2 : Nat), Fn l D E a1 a2 yX8_watchersOf wsX8_watchersOf 3 75 [.ref (ad 0), .int x1] (mW E ad S) (some (.int (f_X8_watchersOf S x1))) (mW E ad (setG S 0 f)) := by
  -- the rows of what is seen
  let vf : Nat → Nat → (Nat → Int64) → (Nat → Int64) := fun c d f => vp_updL f c (f c ||| vwBit S c d)
  let vo : Nat → (Nat → Int64) → (Nat → Int64) := fun c f => if S.1 10 c = 0 then vp_updL f c 0 else itF (vf c) 0 64 (vp_updL f c 0)
  have vf_c : ∀ c (k i : Nat) (f : Nat → Int64) (a : Int64), f c = a → itF (vf c) i k f c = itF (fun d a => a ||| vwBit S c d) i k a := by
    intro c k
    induction k with
    | zero => intro i f a e; exact e
    | succ k ih =>
      intro i f a e
      refine ih (i + 1) _ _ ?_
      show vp_updL f c (f c ||| vwBit S c i) c = a ||| vwBit S c i
      rw [e]; exact pk_uLs
  have vf_o : ∀ c j, j ≠ c → ∀ (k i : Nat) (f : Nat → Int64), itF (vf c) i k f j = f j := by
    intro c j hj k
    induction k with
    | zero => intro i f; rfl
    | succ k ih => intro i f; exact (ih (i + 1) _).trans (pk_uLn hj)
  have vo_c : ∀ c f, vo c f c = vwS S c := by
    intro c f
    show (if S.1 10 c = 0 then vp_updL f c 0 else itF (vf c) 0 64 (vp_updL f c 0)) c = _
    unfold vwS
    by_cases h : S.1 10 c = 0
    · rw [if_pos h, if_pos h]; exact pk_uLs
    · rw [if_neg h, if_neg h]; exact vf_c c 64 0 _ 0 pk_uLs
  have vo_o : ∀ c j f, j ≠ c → vo c f j = f j := by
    intro c j f hj
    show (if S.1 10 c = 0 then vp_updL f c 0 else itF (vf c) 0 64 (vp_updL f c 0)) j = _
    by_cases h : S.1 10 c = 0
    · rw [if_pos h]; exact pk_uLn hj
    · rw [if_neg h, vf_o c j hj]; exact pk_uLn hj
  obtain ⟨F, hF⟩ : ∃ F, F = itF vo 0 64 (S.2 0) := ⟨_, rfl⟩
  have Fv : ∀ c, c < 64 → F c = vwS S c := by
    have := itF_inv (N := 64) (fun i (f : Nat → Int64) => ∀ c, c < i → f c = vwS S c) vo (fun i f _ hf c hc => by
      by_cases e : c = i
      · subst e; exact vo_c c f
      · rw [vo_o i c f e]; exact hf c (by omega)) 64 0 (S.2 0) rfl (fun c hc => absurd hc (Nat.not_lt_zero c))
    rw [hF]; exact this
  refine ⟨F, fun l D E a1 a2 => ?_⟩
  refine Fn.of (cc := cX8_watchersOf) (maxL := 6) (ret := (some .int)) (own := RX8) (by decide) rfl rfl (sameM _ _ _ _) (Nat.le_of_ble_eq_true rfl) (fun X h1 h2 h3 h4 h5 C hE => ?_)
  subst h1 h2 h3 h4 h5
  rw [f_X8_watchersOf, ← watA_congr Fv] at hE
  refine r_X8_watchersOf_0 C ad S x1 ?_
  have e0 : mW X.E ad S = mW X.E ad (setG S 0 (S.2 0)) := by rw [setG_self]
  rw [e0]
  have v64 : ∀ i, i < 64 → vp_in (nI i) 64 := fun i hi => vp_in_nI hi (by decide)
  refine for_go (P := fun c (p : (Nat → Int64) × Int64) => At X 6 (mW X.E ad (setG S 0 p.1)) 5 [(0, .ref (ad 0)), (1, .int x1), (2, .long p.2), (4, .int (nI c))] []) (N := 64) (fun c p => (vo c p.1, p.2 ||| (if S.1 10 c = 0 then 0 else lshl 1 (nI c)))) (fun c p hc h => ?_) 64 0 (S.2 0, 0) rfl ?_
  · refine r_X8_watchersOf_5 C ad _ x1 p.2 (nI c) ⟨fun q => nlt_no (by decide) hc q, fun _ => ⟨v64 c hc, ?_⟩⟩
    rw [nI_clamp (by omega), setG_pv]
    have h' : At X 6 (mW X.E ad (setG S 0 (vo c p.1))) 5 [(0, .ref (ad 0)), (1, .int x1), (2, .long (p.2 ||| (if S.1 10 c = 0 then 0 else lshl 1 (nI c)))), (4, .int (nI c + 1))] [] := by rw [nI_1]; exact h
    by_cases hf : S.1 10 c = 0
    · refine r_X8_watchersOf_23 C ad _ x1 p.2 (nI c) 0 ⟨fun q => nlt_no (a := 0) (b := 64) (by decide) (by decide) q, fun _ => ⟨v64 c hc, fun _ => ⟨v64 c hc, ?_⟩, fun q => absurd (by rw [nI_clamp (by omega)]; exact hf) q⟩⟩
      rw [nI_clamp (by omega)]
      have e : vo c p.1 = vp_updL p.1 c 0 := if_pos hf
      rw [e] at h'
      exact h'
    · have e : vo c p.1 = itF (vf c) 0 64 (vp_updL p.1 c 0) := if_neg hf
      rw [e] at h'
      refine for_go (P := fun d f => At X 6 (mW X.E ad (setG S 0 f)) 23 [(0, .ref (ad 0)), (1, .int x1), (2, .long p.2), (4, .int (nI c)), (5, .int (nI d))] []) (N := 64) (vf c) (fun d f hd h => ?_) 64 0 _ rfl ?_
      · refine r_X8_watchersOf_23 C ad _ x1 p.2 (nI c) (nI d) ⟨fun q => nlt_no (by decide) hd q, fun _ => ⟨v64 c hc, fun q => absurd q (by rw [nI_clamp (by omega)]; exact hf), fun _ => ⟨v64 c hc, v64 d hd, fun _ => ⟨c, d, hc, hd, rfl, rfl⟩, v64 c hc, ?_⟩⟩⟩
        rw [nI_clamp (show c < 2 ^ 31 by omega), nI_clamp (show d < 2 ^ 31 by omega), setG_k, setG_pv, nI_1]
        exact h
      · refine r_X8_watchersOf_23 C ad _ x1 p.2 (nI c) (nI 64) ⟨fun _ => ⟨v64 c hc, ?_⟩, fun q => nle_no q⟩
        rw [nI_clamp (by omega)]
        exact h'
  · have ep : ∀ (k i : Nat) (f : Nat → Int64) (a : Int64), itF (fun c (p : (Nat → Int64) × Int64) => (vo c p.1, p.2 ||| (if S.1 10 c = 0 then 0 else lshl 1 (nI c)))) i k (f, a) = (itF vo i k f, itF (fun c a => a ||| (if S.1 10 c = 0 then 0 else lshl 1 (nI c))) i k a) := by
      intro k
      induction k with
      | zero => intro i f a; rfl
      | succ k ih => intro i f a; exact ih (i + 1) _ _
    rw [ep, ← hF]
    show At X 6 (mW X.E ad (setG S 0 F)) 5 [(0, .ref (ad 0)), (1, .int x1), (2, .long (allS S)), (4, .int (nI 64))] []
    generalize hall : allS S = all at hE
    refine r_X8_watchersOf_5 C ad _ x1 all (nI 64) ⟨fun _ => ⟨fun q => ?_, fun q => ?_⟩, fun q => nle_no q⟩
    · rw [watA, if_pos q] at hE; exact hE
    rw [watA, if_neg q] at hE
    -- the pairs, once no single one was found
    have two : ∀ (k c : Nat), c + k = 64 → Ends X (some .int) (some (.int (match pairs (S.1 10) F all k c with | some p => if x1 = 0 then 2 else (if x1 = 1 then nI p.1 else nI p.2) | none => -1))) (mW X.E ad (setG S 0 F)) → At X 6 (mW X.E ad (setG S 0 F)) 180 [(0, .ref (ad 0)), (1, .int x1), (2, .long all), (4, .int (nI c))] [] := by
      intro k
      induction k with
      | zero =>
        intro c hc hE
        have : c = 64 := by omega
        subst this
        exact r_X8_watchersOf_180 C ad _ x1 all (nI 64) ⟨fun _ => hE, fun q => nle_no q⟩
      | succ k ih =>
        intro c hc hE
        have hc64 : c < 64 := by omega
        refine r_X8_watchersOf_180 C ad _ x1 all (nI c) ⟨fun q => nlt_no (b := 64) (by decide) hc64 q, fun _ => ?_⟩
        rw [nI_1]
        have inner : ∀ (j d : Nat), d + j = 64 → Ends X (some .int) (some (.int (match (match srch (two1 (S.1 10) F all c) j d with | some d => some (c, d) | none => pairs (S.1 10) F all k (c + 1)) with | some p => if x1 = 0 then 2 else (if x1 = 1 then nI p.1 else nI p.2) | none => -1))) (mW X.E ad (setG S 0 F)) → At X 6 (mW X.E ad (setG S 0 F)) 193 [(0, .ref (ad 0)), (1, .int x1), (2, .long all), (4, .int (nI c)), (5, .int (nI d))] [] := by
          intro j
          induction j with
          | zero =>
            intro d hd hE
            have : d = 64 := by omega
            subst this
            exact r_X8_watchersOf_193 C ad _ x1 all (nI c) (nI 64) ⟨fun _ => by rw [nI_1]; exact ih (c + 1) (by omega) hE, fun q => nle_no q⟩
          | succ j ihj =>
            intro d hd hE
            have hd64 : d < 64 := by omega
            rw [srch] at hE
            have nxt : two1 (S.1 10) F all c d = false → At X 6 (mW X.E ad (setG S 0 F)) 193 [(0, .ref (ad 0)), (1, .int x1), (2, .long all), (4, .int (nI c)), (5, .int (nI d + 1))] [] := by
              intro hq
              rw [hq] at hE
              rw [nI_1]
              exact ihj (d + 1) (by omega) hE
            refine r_X8_watchersOf_193 C ad _ x1 all (nI c) (nI d) ⟨fun q => nlt_no (b := 64) (by decide) hd64 q, fun _ => ⟨v64 c hc64, ?_⟩⟩
            rw [nI_clamp (show c < 2 ^ 31 by omega), nI_clamp (show d < 2 ^ 31 by omega), setG_1, setG_k]
            refine ⟨fun z => nxt (by rw [two1, decide_eq_false (fun y => y z)]; rfl), fun z => ⟨v64 d hd64, fun z2 => nxt (by rw [two1, decide_eq_true z, decide_eq_false (fun y => y z2)]; rfl), fun z2 => ⟨v64 c hc64, v64 d hd64, fun z3 => ?_, fun z3 => nxt (by rw [two1, decide_eq_true z, decide_eq_true z2, decide_eq_false z3]; rfl)⟩⟩⟩
            have ht : two1 (S.1 10) F all c d = true := by rw [two1, decide_eq_true z, decide_eq_true z2, decide_eq_true z3]; rfl
            rw [ht] at hE
            exact hE
        exact inner (64 - (c + 1)) (c + 1) (by omega) hE
    have one : ∀ (k c : Nat), c + k = 64 → Ends X (some .int) (some (.int (match srch (one1 F all) k c with | some c => if x1 = 0 then 1 else (if x1 = 1 then nI c else -1) | none => match pairs (S.1 10) F all 64 0 with | some p => if x1 = 0 then 2 else (if x1 = 1 then nI p.1 else nI p.2) | none => -1))) (mW X.E ad (setG S 0 F)) → At X 6 (mW X.E ad (setG S 0 F)) 132 [(0, .ref (ad 0)), (1, .int x1), (2, .long all), (4, .int (nI c))] [] := by
      intro k
      induction k with
      | zero =>
        intro c hc hE
        have : c = 64 := by omega
        subst this
        exact r_X8_watchersOf_132 C ad _ x1 all (nI 64) ⟨fun _ => two 64 0 rfl hE, fun q => nle_no q⟩
      | succ k ih =>
        intro c hc hE
        have hc64 : c < 64 := by omega
        rw [srch] at hE
        refine r_X8_watchersOf_132 C ad _ x1 all (nI c) ⟨fun q => nlt_no (b := 64) (by decide) hc64 q, fun _ => ⟨v64 c hc64, ?_⟩⟩
        rw [nI_clamp (show c < 2 ^ 31 by omega), setG_k]
        refine ⟨fun z => ?_, fun z => ?_⟩
        · have ht : one1 F all c = true := decide_eq_true z
          rw [ht] at hE; exact hE
        · have ht : one1 F all c = false := decide_eq_false z
          rw [ht] at hE
          rw [nI_1]
          exact ih (c + 1) (by omega) hE
    exact one 64 0 rfl hE
