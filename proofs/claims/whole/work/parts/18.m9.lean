set_option maxRecDepth 20000 in
theorem ggX8_meetOf_X8_turned : GoodIn wsX8_meetOf wsX8_turned := goodIn_r _ [5, 6, 7, 4, 8, 9, 10, 11] (by decide +kernel) (by decide +kernel)
set_option maxRecDepth 20000 in
theorem gX8_meetOf_X8_turned : GoodIn wsX8_meetOf (va_wsS RX8 132 yX8_turned wsX8_turned) := goodIn_app (goodIn_of _ (by decide +kernel)) ggX8_meetOf_X8_turned
set_option maxRecDepth 20000 in
theorem ggX8_meetOf_X8_canStand : GoodIn wsX8_meetOf wsX8_canStand := goodIn_r _ [15, 16, 9, 10, 4, 11, 17, 18, 19, 30, 31, 32, 33, 34, 35, 36, 37, 38, 39, 40, 41, 42, 43, 44, 45, 46, 47] (by decide +kernel) (by decide +kernel)
set_option maxRecDepth 20000 in
theorem gX8_meetOf_X8_canStand : GoodIn wsX8_meetOf (wsV RX8 192 RX8 yX8_canStand wsX8_canStand) := goodIn_app (goodIn_of _ (by decide +kernel)) ggX8_meetOf_X8_canStand
set_option maxRecDepth 20000 in
theorem ggX8_meetOf_X8_covers : GoodIn wsX8_meetOf wsX8_covers := goodIn_r _ [22, 23, 24, 4, 25, 26, 27, 28, 29, 9, 10, 11, 17, 18, 19] (by decide +kernel) (by decide +kernel)
set_option maxRecDepth 20000 in
theorem gX8_meetOf_X8_covers : GoodIn wsX8_meetOf (va_wsS RX8 215 yX8_covers wsX8_covers) := goodIn_app (goodIn_of _ (by decide +kernel)) ggX8_meetOf_X8_covers
theorem dX8_meetOf_0 : decode cX8_meetOf 0 = .ok (.aload_n 0, 1) := by decide +kernel
theorem dX8_meetOf_1 : decode cX8_meetOf 1 = .ok (.getfield 28, 3) := by decide +kernel
theorem dX8_meetOf_4 : decode cX8_meetOf 4 = .ok (.iload_n 1, 1) := by decide +kernel
theorem dX8_meetOf_5 : decode cX8_meetOf 5 = .ok (.iaload, 1) := by decide +kernel
theorem dX8_meetOf_6 : decode cX8_meetOf 6 = .ok (.iload_n 2, 1) := by decide +kernel
theorem dX8_meetOf_7 : decode cX8_meetOf 7 = .ok (.invokestatic 132, 3) := by decide +kernel
theorem dX8_meetOf_10 : decode cX8_meetOf 10 = .ok (.istore 7, 2) := by decide +kernel
theorem dX8_meetOf_12 : decode cX8_meetOf 12 = .ok (.aload_n 0, 1) := by decide +kernel
theorem dX8_meetOf_13 : decode cX8_meetOf 13 = .ok (.getfield 28, 3) := by decide +kernel
theorem dX8_meetOf_16 : decode cX8_meetOf 16 = .ok (.iload 4, 2) := by decide +kernel
theorem dX8_meetOf_18 : decode cX8_meetOf 18 = .ok (.iaload, 1) := by decide +kernel
theorem dX8_meetOf_19 : decode cX8_meetOf 19 = .ok (.iload 5, 2) := by decide +kernel
theorem dX8_meetOf_21 : decode cX8_meetOf 21 = .ok (.invokestatic 132, 3) := by decide +kernel
theorem dX8_meetOf_24 : decode cX8_meetOf 24 = .ok (.istore 8, 2) := by decide +kernel
theorem dX8_meetOf_26 : decode cX8_meetOf 26 = .ok (.aload_n 0, 1) := by decide +kernel
theorem dX8_meetOf_27 : decode cX8_meetOf 27 = .ok (.iload 7, 2) := by decide +kernel
theorem dX8_meetOf_29 : decode cX8_meetOf 29 = .ok (.iload_n 3, 1) := by decide +kernel
theorem dX8_meetOf_30 : decode cX8_meetOf 30 = .ok (.invokevirtual 192, 3) := by decide +kernel
theorem dX8_meetOf_33 : decode cX8_meetOf 33 = .ok (.ifCond .eq 18, 3) := by decide +kernel
theorem dX8_meetOf_36 : decode cX8_meetOf 36 = .ok (.aload_n 0, 1) := by decide +kernel
theorem dX8_meetOf_37 : decode cX8_meetOf 37 = .ok (.iload 8, 2) := by decide +kernel
theorem dX8_meetOf_39 : decode cX8_meetOf 39 = .ok (.iload 6, 2) := by decide +kernel
theorem dX8_meetOf_41 : decode cX8_meetOf 41 = .ok (.invokevirtual 192, 3) := by decide +kernel
theorem dX8_meetOf_44 : decode cX8_meetOf 44 = .ok (.ifCond .eq 7, 3) := by decide +kernel
theorem dX8_meetOf_47 : decode cX8_meetOf 47 = .ok (.iconst 1, 1) := by decide +kernel
theorem dX8_meetOf_48 : decode cX8_meetOf 48 = .ok (.goto 4, 3) := by decide +kernel
theorem dX8_meetOf_51 : decode cX8_meetOf 51 = .ok (.iconst 0, 1) := by decide +kernel
theorem dX8_meetOf_52 : decode cX8_meetOf 52 = .ok (.istore 9, 2) := by decide +kernel
theorem dX8_meetOf_54 : decode cX8_meetOf 54 = .ok (.iconst 0, 1) := by decide +kernel
theorem dX8_meetOf_55 : decode cX8_meetOf 55 = .ok (.istore 10, 2) := by decide +kernel
theorem dX8_meetOf_57 : decode cX8_meetOf 57 = .ok (.iload 10, 2) := by decide +kernel
theorem dX8_meetOf_59 : decode cX8_meetOf 59 = .ok (.bipush 64, 2) := by decide +kernel
theorem dX8_meetOf_61 : decode cX8_meetOf 61 = .ok (.if_icmp .ge 44, 3) := by decide +kernel
theorem dX8_meetOf_64 : decode cX8_meetOf 64 = .ok (.iload 9, 2) := by decide +kernel
theorem dX8_meetOf_66 : decode cX8_meetOf 66 = .ok (.ifCond .eq 30, 3) := by decide +kernel
theorem dX8_meetOf_69 : decode cX8_meetOf 69 = .ok (.iload 7, 2) := by decide +kernel
theorem dX8_meetOf_71 : decode cX8_meetOf 71 = .ok (.iload_n 3, 1) := by decide +kernel
theorem dX8_meetOf_72 : decode cX8_meetOf 72 = .ok (.iload 10, 2) := by decide +kernel
theorem dX8_meetOf_74 : decode cX8_meetOf 74 = .ok (.invokestatic 215, 3) := by decide +kernel
theorem dX8_meetOf_77 : decode cX8_meetOf 77 = .ok (.ifCond .eq 15, 3) := by decide +kernel
theorem dX8_meetOf_80 : decode cX8_meetOf 80 = .ok (.iload 8, 2) := by decide +kernel
theorem dX8_meetOf_82 : decode cX8_meetOf 82 = .ok (.iload 6, 2) := by decide +kernel
theorem dX8_meetOf_84 : decode cX8_meetOf 84 = .ok (.iload 10, 2) := by decide +kernel
theorem dX8_meetOf_86 : decode cX8_meetOf 86 = .ok (.invokestatic 215, 3) := by decide +kernel
theorem dX8_meetOf_89 : decode cX8_meetOf 89 = .ok (.ifCond .ne 7, 3) := by decide +kernel
theorem dX8_meetOf_92 : decode cX8_meetOf 92 = .ok (.iconst 1, 1) := by decide +kernel
theorem dX8_meetOf_93 : decode cX8_meetOf 93 = .ok (.goto 4, 3) := by decide +kernel
theorem dX8_meetOf_96 : decode cX8_meetOf 96 = .ok (.iconst 0, 1) := by decide +kernel
theorem dX8_meetOf_97 : decode cX8_meetOf 97 = .ok (.istore 9, 2) := by decide +kernel
theorem dX8_meetOf_99 : decode cX8_meetOf 99 = .ok (.iinc 10 1, 3) := by decide +kernel
theorem dX8_meetOf_102 : decode cX8_meetOf 102 = .ok (.goto (-45), 3) := by decide +kernel
theorem dX8_meetOf_105 : decode cX8_meetOf 105 = .ok (.iload 9, 2) := by decide +kernel
theorem dX8_meetOf_107 : decode cX8_meetOf 107 = .ok (.ifCond .eq 7, 3) := by decide +kernel
theorem dX8_meetOf_110 : decode cX8_meetOf 110 = .ok (.iconst 1, 1) := by decide +kernel
theorem dX8_meetOf_111 : decode cX8_meetOf 111 = .ok (.goto 4, 3) := by decide +kernel
theorem dX8_meetOf_114 : decode cX8_meetOf 114 = .ok (.iconst 0, 1) := by decide +kernel
theorem dX8_meetOf_115 : decode cX8_meetOf 115 = .ok (.ireturn, 1) := by decide +kernel
theorem iw_X8_meetOf_X8 : ∀ w ∈ u_ws RX8 TX8 18, w ∈ wsX8_meetOf := by decide +kernel
theorem lk_X8_meetOf_0 : Cond.fieldLink RX8 28 (TX8 9).1 (TX8 9).2.1 (TX8 9).2.2.1 ∈ wsX8_meetOf := by decide +kernel
set_option maxRecDepth 100000 in
theorem r_X8_meetOf_0 {X : Bn} (C : Cx X cX8_meetOf 11 RX8 wsX8_meetOf 3 69) (ad : Nat → Nat) (S : MS) (x1 : Int32) (x2 : Int32) (x3 : Int32) (x4 : Int32) (x5 : Int32) (x6 : Int32) (h : (vp_in x1 8) ∧ ((vp_in x4 8) ∧ ((p_X8_canStand x3) ∧ (((((f_X8_canStand S (f_X8_turned (S.1 9 x1.toNatClampNeg) x2) x3) = true) → (p_X8_canStand x6))) ∧ (At X 11 (mW X.E ad S) 57 [(3, .int x3), (6, .int x6), (7, .int (f_X8_turned (S.1 9 x1.toNatClampNeg) x2)), (8, .int (f_X8_turned (S.1 9 x4.toNatClampNeg) x5)), (9, .int (b2i (if (f_X8_canStand S (f_X8_turned (S.1 9 x1.toNatClampNeg) x2) x3) then (if (f_X8_canStand S (f_X8_turned (S.1 9 x4.toNatClampNeg) x5) x6) then true else false) else false))), (10, .int 0)] []))))) : At X 11 (mW X.E ad S) 0 [(0, .ref (ad 0)), (1, .int x1), (2, .int x2), (3, .int x3), (4, .int x4), (5, .int x5), (6, .int x6)] [] := by
  refine at_aload_n C dX8_meetOf_0 rfl (j := 0) rfl ?_
  refine at_get C (K := RX8) (T := TX8) (N := 18) (ci := 7) (v := .ref (ad 7)) iw_X8_meetOf_X8 0 mW_c0 rfl 9 (by decide) lk_X8_meetOf_0 rfl dX8_meetOf_1 ?_
  refine at_iload_n C dX8_meetOf_4 rfl (j := 1) rfl ?_
  refine at_iald C 7 mW_c7 h.1 dX8_meetOf_5 ?_
  replace h := h.2
  refine at_iload_n C dX8_meetOf_6 rfl (j := 2) rfl ?_
  refine at_cS0 C 2 (c_X8_turned X.l X.D X.E X.a1 X.a2 (S.1 9 x1.toNatClampNeg) x2) gX8_meetOf_X8_turned rfl (by decide +kernel) ⟨rfl, rfl⟩ rfl rfl rfl dX8_meetOf_7 ?_
  refine at_istore C dX8_meetOf_10 (by decide) (lv' := [(7, .int (f_X8_turned (S.1 9 x1.toNatClampNeg) x2)), (0, .ref (ad 0)), (1, .int x1), (2, .int x2), (3, .int x3), (4, .int x4), (5, .int x5), (6, .int x6)]) rfl ?_
  refine at_aload_n C dX8_meetOf_12 rfl (j := 1) rfl ?_
  refine at_get C (K := RX8) (T := TX8) (N := 18) (ci := 7) (v := .ref (ad 7)) iw_X8_meetOf_X8 0 mW_c0 rfl 9 (by decide) lk_X8_meetOf_0 rfl dX8_meetOf_13 ?_
  refine at_iload C dX8_meetOf_16 (j := 5) rfl ?_
  refine at_iald C 7 mW_c7 h.1 dX8_meetOf_18 ?_
  replace h := h.2
  refine at_iload C dX8_meetOf_19 (j := 6) rfl ?_
  refine at_cS0 C 2 (c_X8_turned X.l X.D X.E X.a1 X.a2 (S.1 9 x4.toNatClampNeg) x5) gX8_meetOf_X8_turned rfl (by decide +kernel) ⟨rfl, rfl⟩ rfl rfl rfl dX8_meetOf_21 ?_
  refine at_istore C dX8_meetOf_24 (by decide) (lv' := [(8, .int (f_X8_turned (S.1 9 x4.toNatClampNeg) x5)), (7, .int (f_X8_turned (S.1 9 x1.toNatClampNeg) x2)), (0, .ref (ad 0)), (1, .int x1), (2, .int x2), (3, .int x3), (4, .int x4), (5, .int x5), (6, .int x6)]) rfl ?_
  refine at_aload_n C dX8_meetOf_26 rfl (j := 2) rfl ?_
  refine at_iload C dX8_meetOf_27 (j := 1) rfl ?_
  refine at_iload_n C dX8_meetOf_29 rfl (j := 5) rfl ?_
  refine at_cV1 C 2 (c_X8_canStand X.l X.D X.E X.a1 X.a2 ad S (f_X8_turned (S.1 9 x1.toNatClampNeg) x2) x3 h.1) gX8_meetOf_X8_canStand rfl (by decide +kernel) ⟨rfl, rfl⟩ rfl rfl rfl 0 mW_c0 rfl dX8_meetOf_30 ?_
  replace h := h.2
  have hq := h.1
  replace h := h.2
  have K : At X 11 (mW X.E ad S) 52 [(3, .int x3), (6, .int x6), (7, .int (f_X8_turned (S.1 9 x1.toNatClampNeg) x2)), (8, .int (f_X8_turned (S.1 9 x4.toNatClampNeg) x5))] [.int (b2i (if (f_X8_canStand S (f_X8_turned (S.1 9 x1.toNatClampNeg) x2) x3) then (if (f_X8_canStand S (f_X8_turned (S.1 9 x4.toNatClampNeg) x5) x6) then true else false) else false))] := by
    refine at_istore C dX8_meetOf_52 (by decide) (lv' := [(9, .int (b2i (if (f_X8_canStand S (f_X8_turned (S.1 9 x1.toNatClampNeg) x2) x3) then (if (f_X8_canStand S (f_X8_turned (S.1 9 x4.toNatClampNeg) x5) x6) then true else false) else false))), (3, .int x3), (6, .int x6), (7, .int (f_X8_turned (S.1 9 x1.toNatClampNeg) x2)), (8, .int (f_X8_turned (S.1 9 x4.toNatClampNeg) x5))]) rfl ?_
    refine at_iconst C dX8_meetOf_54 (v := 0) rfl ?_
    refine at_istore C dX8_meetOf_55 (by decide) (lv' := [(10, .int 0), (9, .int (b2i (if (f_X8_canStand S (f_X8_turned (S.1 9 x1.toNatClampNeg) x2) x3) then (if (f_X8_canStand S (f_X8_turned (S.1 9 x4.toNatClampNeg) x5) x6) then true else false) else false))), (3, .int x3), (6, .int x6), (7, .int (f_X8_turned (S.1 9 x1.toNatClampNeg) x2)), (8, .int (f_X8_turned (S.1 9 x4.toNatClampNeg) x5))]) rfl ?_
    refine at_lv [2, 3, 4, 5, 1, 0] rfl ?_
    exact h
  replace h := hq
  refine at_ifB_eq C dX8_meetOf_33 (tgt := 51) (by decide) (fun hc0 => ?_) (fun hc0 => ?_)
  · skip
    refine at_iconst C dX8_meetOf_51 (v := 0) rfl ?_
    refine at_lv [5, 8, 1, 0] rfl ?_
    first | (simp only [if_neg (show ¬ (f_X8_canStand S (f_X8_turned (S.1 9 x1.toNatClampNeg) x2) x3) = true by rw [hc0]; decide)] at K; exact K) | exact K
  · replace h := h hc0
    refine at_aload_n C dX8_meetOf_36 rfl (j := 2) rfl ?_
    refine at_iload C dX8_meetOf_37 (j := 0) rfl ?_
    refine at_iload C dX8_meetOf_39 (j := 8) rfl ?_
    refine at_cV1 C 2 (c_X8_canStand X.l X.D X.E X.a1 X.a2 ad S (f_X8_turned (S.1 9 x4.toNatClampNeg) x5) x6 h) gX8_meetOf_X8_canStand rfl (by decide +kernel) ⟨rfl, rfl⟩ rfl rfl rfl 0 mW_c0 rfl dX8_meetOf_41 ?_
    refine at_ifB_eq C dX8_meetOf_44 (tgt := 51) (by decide) (fun hc1 => ?_) (fun hc1 => ?_)
    · skip
      refine at_iconst C dX8_meetOf_51 (v := 0) rfl ?_
      refine at_lv [5, 8, 1, 0] rfl ?_
      first | (simp only [if_pos hc0, if_neg (show ¬ (f_X8_canStand S (f_X8_turned (S.1 9 x4.toNatClampNeg) x5) x6) = true by rw [hc1]; decide)] at K; exact K) | exact K
    · skip
      refine at_iconst C dX8_meetOf_47 (v := 1) rfl ?_
      refine at_goto C dX8_meetOf_48 (tgt := 52) (by decide) ?_
      refine at_lv [5, 8, 1, 0] rfl ?_
      first | (simp only [if_pos hc0, if_pos hc1] at K; exact K) | exact K
set_option maxRecDepth 100000 in
theorem r_X8_meetOf_57 {X : Bn} (C : Cx X cX8_meetOf 11 RX8 wsX8_meetOf 3 69) (ad : Nat → Nat) (S : MS) (x3 : Int32) (x6 : Int32) (x7 : Int32) (x8 : Int32) (x9 : Int32) (x10 : Int32) (h : ((64 ≤ x10) → (Ends X (some .int) (some (.int (b2i (if x9 = 0 then false else true)))) (mW X.E ad S))) ∧ (¬ 64 ≤ x10 → (At X 11 (mW X.E ad S) 57 [(3, .int x3), (6, .int x6), (7, .int x7), (8, .int x8), (9, .int (b2i (if x9 = 0 then false else (if (f_X8_covers x7 x3 x10) then (if (f_X8_covers x8 x6 x10) then false else true) else true)))), (10, .int (x10 + 1))] []))) : At X 11 (mW X.E ad S) 57 [(3, .int x3), (6, .int x6), (7, .int x7), (8, .int x8), (9, .int x9), (10, .int x10)] [] := by
  refine at_iload C dX8_meetOf_57 (j := 5) rfl ?_
  refine at_bipush C dX8_meetOf_59 (v := 64) rfl ?_
  refine at_icmp_ge C dX8_meetOf_61 (tgt := 105) (by decide) (fun hc0 => ?_) (fun hc0 => ?_)
  · replace h := h.1 hc0
    refine at_iload C dX8_meetOf_105 (j := 4) rfl ?_
    have K : At X 11 (mW X.E ad S) 115 [] [.int (b2i (if x9 = 0 then false else true))] := by
      exact at_iret C dX8_meetOf_115 h
    refine at_if_eq C dX8_meetOf_107 (tgt := 114) (by decide) (fun hc1 => ?_) (fun hc1 => ?_)
    · skip
      refine at_iconst C dX8_meetOf_114 (v := 0) rfl ?_
      refine at_lv [] rfl ?_
      first | (simp only [if_pos hc1] at K; exact K) | exact K
    · skip
      refine at_iconst C dX8_meetOf_110 (v := 1) rfl ?_
      refine at_goto C dX8_meetOf_111 (tgt := 115) (by decide) ?_
      refine at_lv [] rfl ?_
      first | (simp only [if_neg hc1] at K; exact K) | exact K
  · replace h := h.2 hc0
    refine at_iload C dX8_meetOf_64 (j := 4) rfl ?_
    have K : At X 11 (mW X.E ad S) 97 [(3, .int x3), (6, .int x6), (7, .int x7), (8, .int x8), (10, .int x10)] [.int (b2i (if x9 = 0 then false else (if (f_X8_covers x7 x3 x10) then (if (f_X8_covers x8 x6 x10) then false else true) else true)))] := by
      refine at_istore C dX8_meetOf_97 (by decide) (lv' := [(9, .int (b2i (if x9 = 0 then false else (if (f_X8_covers x7 x3 x10) then (if (f_X8_covers x8 x6 x10) then false else true) else true)))), (3, .int x3), (6, .int x6), (7, .int x7), (8, .int x8), (10, .int x10)]) rfl ?_
      refine at_iinc C dX8_meetOf_99 (j := 5) (v := x10 + 1) rfl rfl (by decide) (lv' := [(10, .int (x10 + 1)), (9, .int (b2i (if x9 = 0 then false else (if (f_X8_covers x7 x3 x10) then (if (f_X8_covers x8 x6 x10) then false else true) else true)))), (3, .int x3), (6, .int x6), (7, .int x7), (8, .int x8)]) rfl ?_
      refine at_goto C dX8_meetOf_102 (tgt := 57) (by decide) ?_
      refine at_lv [2, 3, 4, 5, 1, 0] rfl ?_
      exact h
    refine at_if_eq C dX8_meetOf_66 (tgt := 96) (by decide) (fun hc1 => ?_) (fun hc1 => ?_)
    · skip
      refine at_iconst C dX8_meetOf_96 (v := 0) rfl ?_
      refine at_lv [0, 1, 2, 3, 5] rfl ?_
      first | (simp only [if_pos hc1] at K; exact K) | exact K
    · skip
      refine at_iload C dX8_meetOf_69 (j := 2) rfl ?_
      refine at_iload_n C dX8_meetOf_71 rfl (j := 0) rfl ?_
      refine at_iload C dX8_meetOf_72 (j := 5) rfl ?_
      refine at_cS0 C 3 (c_X8_covers X.l X.D X.E X.a1 X.a2 x7 x3 x10) gX8_meetOf_X8_covers rfl (by decide +kernel) ⟨rfl, rfl⟩ rfl rfl rfl dX8_meetOf_74 ?_
      refine at_ifB_eq C dX8_meetOf_77 (tgt := 92) (by decide) (fun hc2 => ?_) (fun hc2 => ?_)
      · skip
        refine at_iconst C dX8_meetOf_92 (v := 1) rfl ?_
        refine at_goto C dX8_meetOf_93 (tgt := 97) (by decide) ?_
        refine at_lv [0, 1, 2, 3, 5] rfl ?_
        first | (simp only [if_neg hc1, if_neg (show ¬ (f_X8_covers x7 x3 x10) = true by rw [hc2]; decide)] at K; exact K) | exact K
      · skip
        refine at_iload C dX8_meetOf_80 (j := 3) rfl ?_
        refine at_iload C dX8_meetOf_82 (j := 1) rfl ?_
        refine at_iload C dX8_meetOf_84 (j := 5) rfl ?_
        refine at_cS0 C 3 (c_X8_covers X.l X.D X.E X.a1 X.a2 x8 x6 x10) gX8_meetOf_X8_covers rfl (by decide +kernel) ⟨rfl, rfl⟩ rfl rfl rfl dX8_meetOf_86 ?_
        refine at_ifB_ne C dX8_meetOf_89 (tgt := 96) (by decide) (fun hc3 => ?_) (fun hc3 => ?_)
        · skip
          refine at_iconst C dX8_meetOf_96 (v := 0) rfl ?_
          refine at_lv [0, 1, 2, 3, 5] rfl ?_
          first | (simp only [if_neg hc1, if_pos hc2, if_pos hc3] at K; exact K) | exact K
        · skip
          refine at_iconst C dX8_meetOf_92 (v := 1) rfl ?_
          refine at_goto C dX8_meetOf_93 (tgt := 97) (by decide) ?_
          refine at_lv [0, 1, 2, 3, 5] rfl ?_
          first | (simp only [if_neg hc1, if_pos hc2, if_neg (show ¬ (f_X8_covers x8 x6 x10) = true by rw [hc3]; decide)] at K; exact K) | exact K
def mtStep (a x3 b x6 : Int32) (c : Nat) (can : Bool) : Bool := can && !(f_X8_covers a x3 (nI c) && f_X8_covers b x6 (nI c))
def f_X8_meetOf (S : MS) (x1 x2 x3 x4 x5 x6 : Int32) : Int32 := b2i (itF (fun c can => mtStep (f_X8_turned (S.1 9 x1.toNatClampNeg) x2) x3 (f_X8_turned (S.1 9 x4.toNatClampNeg) x5) x6 c can) 0 64 (f_X8_canStand S (f_X8_turned (S.1 9 x1.toNatClampNeg) x2) x3 && f_X8_canStand S (f_X8_turned (S.1 9 x4.toNatClampNeg) x5) x6))
def p_X8_meetOf (S : MS) (x1 x2 x3 x4 x5 x6 : Int32) : Prop := vp_in x1 8 ∧ vp_in x4 8 ∧ p_X8_canStand x3 ∧ p_X8_canStand x6
set_option maxRecDepth 100000 in
theorem c_X8_meetOf (l : Launch) (D : va_G) (E : Nat → ClassId) (a1 a2 : Nat) (ad : Nat → Nat) (S : MS) (x1 x2 x3 x4 x5 x6 : Int32) (hp : p_X8_meetOf S x1 x2 x3 x4 x5 x6) : Fn l D E a1 a2 yX8_meetOf wsX8_meetOf 3 69 [.ref (ad 0), .int x1, .int x2, .int x3, .int x4, .int x5, .int x6] (mW E ad S) (some (.int (f_X8_meetOf S x1 x2 x3 x4 x5 x6))) (mW E ad S) := by
  refine Fn.of (cc := cX8_meetOf) (maxL := 11) (ret := (some .int)) (own := RX8) (by decide) rfl rfl (sameM _ _ _ _) (Nat.le_of_ble_eq_true rfl) (fun X h1 h2 h3 h4 h5 C hE => ?_)
  subst h1 h2 h3 h4 h5
  obtain ⟨h1, h4, h3, h6⟩ := hp
  refine r_X8_meetOf_0 C ad S x1 x2 x3 x4 x5 x6 ⟨h1, h4, h3, fun _ => h6, ?_⟩
  have e : ∀ p q : Bool, (if p = true then (if q = true then true else false) else false) = (p && q) := by decide
  rw [e]
  rw [f_X8_meetOf] at hE
  generalize f_X8_turned (S.1 9 x1.toNatClampNeg) x2 = a at hE ⊢
  generalize f_X8_turned (S.1 9 x4.toNatClampNeg) x5 = b at hE ⊢
  refine for_go (P := fun c can => At X 11 (mW X.E ad S) 57 [(3, .int x3), (6, .int x6), (7, .int a), (8, .int b), (9, .int (b2i can)), (10, .int (nI c))] []) (N := 64) (fun c can => mtStep a x3 b x6 c can) (fun c can hc h => ?_) 64 0 _ rfl ?_
  · refine r_X8_meetOf_57 C ad S x3 x6 a b (b2i can) (nI c) ⟨fun q => nlt_no (by decide) hc q, fun _ => ?_⟩
    have e2 : (if b2i can = 0 then false else (if (f_X8_covers a x3 (nI c)) = true then (if (f_X8_covers b x6 (nI c)) = true then false else true) else true)) = mtStep a x3 b x6 c can := by
      unfold mtStep
      cases can <;> cases f_X8_covers a x3 (nI c) <;> cases f_X8_covers b x6 (nI c) <;> rfl
    rw [e2, nI_1]
    exact h
  · refine r_X8_meetOf_57 C ad S x3 x6 a b _ (nI 64) ⟨fun _ => ?_, fun q => nle_no q⟩
    have e3 : ∀ p : Bool, (if b2i p = 0 then false else true) = p := by decide
    rw [e3]
    exact hE
set_option maxRecDepth 20000 in
theorem ggX8_isFit_X8_turned : GoodIn wsX8_isFit wsX8_turned := goodIn_r _ [7, 8, 9, 6, 10, 11, 12, 13] (by decide +kernel) (by decide +kernel)
set_option maxRecDepth 20000 in
theorem gX8_isFit_X8_turned : GoodIn wsX8_isFit (va_wsS RX8 132 yX8_turned wsX8_turned) := goodIn_app (goodIn_of _ (by decide +kernel)) ggX8_isFit_X8_turned
set_option maxRecDepth 20000 in
theorem ggX8_isFit_X8_sightOf : GoodIn wsX8_isFit wsX8_sightOf := goodIn_r _ [16, 11, 12, 6, 13, 17, 18, 19] (by decide +kernel) (by decide +kernel)
set_option maxRecDepth 20000 in
theorem gX8_isFit_X8_sightOf : GoodIn wsX8_isFit (va_wsS RX8 156 yX8_sightOf wsX8_sightOf) := goodIn_app (goodIn_of _ (by decide +kernel)) ggX8_isFit_X8_sightOf
theorem dX8_isFit_0 : decode cX8_isFit 0 = .ok (.iconst 1, 1) := by decide +kernel
theorem dX8_isFit_1 : decode cX8_isFit 1 = .ok (.istore_n 3, 1) := by decide +kernel
theorem dX8_isFit_2 : decode cX8_isFit 2 = .ok (.iconst 0, 1) := by decide +kernel
theorem dX8_isFit_3 : decode cX8_isFit 3 = .ok (.istore 4, 2) := by decide +kernel
theorem dX8_isFit_5 : decode cX8_isFit 5 = .ok (.iload 4, 2) := by decide +kernel
theorem dX8_isFit_7 : decode cX8_isFit 7 = .ok (.aload_n 0, 1) := by decide +kernel
theorem dX8_isFit_8 : decode cX8_isFit 8 = .ok (.getfield 224, 3) := by decide +kernel
theorem dX8_isFit_11 : decode cX8_isFit 11 = .ok (.if_icmp .ge 55, 3) := by decide +kernel
theorem dX8_isFit_14 : decode cX8_isFit 14 = .ok (.iload_n 3, 1) := by decide +kernel
theorem dX8_isFit_15 : decode cX8_isFit 15 = .ok (.ifCond .eq 43, 3) := by decide +kernel
theorem dX8_isFit_18 : decode cX8_isFit 18 = .ok (.aload_n 0, 1) := by decide +kernel
theorem dX8_isFit_19 : decode cX8_isFit 19 = .ok (.getfield 28, 3) := by decide +kernel
theorem dX8_isFit_22 : decode cX8_isFit 22 = .ok (.iload_n 1, 1) := by decide +kernel
theorem dX8_isFit_23 : decode cX8_isFit 23 = .ok (.iaload, 1) := by decide +kernel
theorem dX8_isFit_24 : decode cX8_isFit 24 = .ok (.iload_n 2, 1) := by decide +kernel
theorem dX8_isFit_25 : decode cX8_isFit 25 = .ok (.invokestatic 132, 3) := by decide +kernel
theorem dX8_isFit_28 : decode cX8_isFit 28 = .ok (.aload_n 0, 1) := by decide +kernel
theorem dX8_isFit_29 : decode cX8_isFit 29 = .ok (.getfield 41, 3) := by decide +kernel
theorem dX8_isFit_32 : decode cX8_isFit 32 = .ok (.iconst 2, 1) := by decide +kernel
theorem dX8_isFit_33 : decode cX8_isFit 33 = .ok (.iload 4, 2) := by decide +kernel
theorem dX8_isFit_35 : decode cX8_isFit 35 = .ok (.imul, 1) := by decide +kernel
theorem dX8_isFit_36 : decode cX8_isFit 36 = .ok (.iaload, 1) := by decide +kernel
theorem dX8_isFit_37 : decode cX8_isFit 37 = .ok (.invokestatic 156, 3) := by decide +kernel
theorem dX8_isFit_40 : decode cX8_isFit 40 = .ok (.aload_n 0, 1) := by decide +kernel
theorem dX8_isFit_41 : decode cX8_isFit 41 = .ok (.getfield 41, 3) := by decide +kernel
theorem dX8_isFit_44 : decode cX8_isFit 44 = .ok (.iconst 2, 1) := by decide +kernel
theorem dX8_isFit_45 : decode cX8_isFit 45 = .ok (.iload 4, 2) := by decide +kernel
theorem dX8_isFit_47 : decode cX8_isFit 47 = .ok (.imul, 1) := by decide +kernel
theorem dX8_isFit_48 : decode cX8_isFit 48 = .ok (.iconst 1, 1) := by decide +kernel
theorem dX8_isFit_49 : decode cX8_isFit 49 = .ok (.iadd, 1) := by decide +kernel
theorem dX8_isFit_50 : decode cX8_isFit 50 = .ok (.iaload, 1) := by decide +kernel
theorem dX8_isFit_51 : decode cX8_isFit 51 = .ok (.if_icmp .ne 7, 3) := by decide +kernel
theorem dX8_isFit_54 : decode cX8_isFit 54 = .ok (.iconst 1, 1) := by decide +kernel
theorem dX8_isFit_55 : decode cX8_isFit 55 = .ok (.goto 4, 3) := by decide +kernel
theorem dX8_isFit_58 : decode cX8_isFit 58 = .ok (.iconst 0, 1) := by decide +kernel
theorem dX8_isFit_59 : decode cX8_isFit 59 = .ok (.istore_n 3, 1) := by decide +kernel
theorem dX8_isFit_60 : decode cX8_isFit 60 = .ok (.iinc 4 1, 3) := by decide +kernel
theorem dX8_isFit_63 : decode cX8_isFit 63 = .ok (.goto (-58), 3) := by decide +kernel
theorem dX8_isFit_66 : decode cX8_isFit 66 = .ok (.iload_n 3, 1) := by decide +kernel
theorem dX8_isFit_67 : decode cX8_isFit 67 = .ok (.ireturn, 1) := by decide +kernel
theorem iw_X8_isFit_X8 : ∀ w ∈ u_ws RX8 TX8 18, w ∈ wsX8_isFit := by decide +kernel
theorem lk_X8_isFit_0 : Cond.fieldLink RX8 224 (TX8 14).1 (TX8 14).2.1 (TX8 14).2.2.1 ∈ wsX8_isFit := by decide +kernel
theorem lk_X8_isFit_1 : Cond.fieldLink RX8 28 (TX8 9).1 (TX8 9).2.1 (TX8 9).2.2.1 ∈ wsX8_isFit := by decide +kernel
theorem lk_X8_isFit_2 : Cond.fieldLink RX8 41 (TX8 15).1 (TX8 15).2.1 (TX8 15).2.2.1 ∈ wsX8_isFit := by decide +kernel
set_option maxRecDepth 100000 in
theorem r_X8_isFit_0 {X : Bn} (C : Cx X cX8_isFit 5 RX8 wsX8_isFit 3 67) (ad : Nat → Nat) (S : MS) (x1 : Int32) (x2 : Int32) (h : At X 5 (mW X.E ad S) 5 [(0, .ref (ad 0)), (1, .int x1), (2, .int x2), (3, .int 1), (4, .int 0)] []) : At X 5 (mW X.E ad S) 0 [(0, .ref (ad 0)), (1, .int x1), (2, .int x2)] [] := by
  refine at_iconst C dX8_isFit_0 (v := 1) rfl ?_
  refine at_istore_n C dX8_isFit_1 rfl (by decide) (lv' := [(3, .int 1), (0, .ref (ad 0)), (1, .int x1), (2, .int x2)]) rfl ?_
  refine at_iconst C dX8_isFit_2 (v := 0) rfl ?_
  refine at_istore C dX8_isFit_3 (by decide) (lv' := [(4, .int 0), (3, .int 1), (0, .ref (ad 0)), (1, .int x1), (2, .int x2)]) rfl ?_
  refine at_lv [2, 3, 4, 1, 0] rfl ?_
  exact h
set_option maxRecDepth 100000 in
theorem r_X8_isFit_5 {X : Bn} (C : Cx X cX8_isFit 5 RX8 wsX8_isFit 3 67) (ad : Nat → Nat) (S : MS) (x1 : Int32) (x2 : Int32) (x3 : Int32) (x4 : Int32) (h : ((S.1 14 0 ≤ x4) → ((narrow .boolean (.int x3) = .int x3) ∧ (Ends X (some .boolean) (some (.int x3)) (mW X.E ad S)))) ∧ (¬ S.1 14 0 ≤ x4 → ((((¬ x3 = 0) → (vp_in x1 8) ∧ (vp_in (2 * x4) 16) ∧ (vp_in ((2 * x4) + 1) 16))) ∧ (At X 5 (mW X.E ad S) 5 [(0, .ref (ad 0)), (1, .int x1), (2, .int x2), (3, .int (b2i (if x3 = 0 then false else (if f_X8_sightOf (f_X8_turned (S.1 9 x1.toNatClampNeg) x2) (S.1 15 ((2 * x4).toNatClampNeg)) = S.1 15 (((2 * x4) + 1).toNatClampNeg) then true else false)))), (4, .int (x4 + 1))] [])))) : At X 5 (mW X.E ad S) 5 [(0, .ref (ad 0)), (1, .int x1), (2, .int x2), (3, .int x3), (4, .int x4)] [] := by
  refine at_iload C dX8_isFit_5 (j := 4) rfl ?_
  refine at_aload_n C dX8_isFit_7 rfl (j := 0) rfl ?_
  refine at_get C (K := RX8) (T := TX8) (N := 18) (ci := 7) (v := .int (S.1 14 0)) iw_X8_isFit_X8 0 mW_c0 rfl 14 (by decide) lk_X8_isFit_0 rfl dX8_isFit_8 ?_
  refine at_icmp_ge C dX8_isFit_11 (tgt := 66) (by decide) (fun hc0 => ?_) (fun hc0 => ?_)
  · replace h := h.1 hc0
    refine at_iload_n C dX8_isFit_66 rfl (j := 3) rfl ?_
    exact at_zret C dX8_isFit_67 h.1 h.2
  · replace h := h.2 hc0
    refine at_iload_n C dX8_isFit_14 rfl (j := 3) rfl ?_
    have hq := h.1
    replace h := h.2
    have K : At X 5 (mW X.E ad S) 59 [(0, .ref (ad 0)), (1, .int x1), (2, .int x2), (4, .int x4)] [.int (b2i (if x3 = 0 then false else (if f_X8_sightOf (f_X8_turned (S.1 9 x1.toNatClampNeg) x2) (S.1 15 ((2 * x4).toNatClampNeg)) = S.1 15 (((2 * x4) + 1).toNatClampNeg) then true else false)))] := by
      refine at_istore_n C dX8_isFit_59 rfl (by decide) (lv' := [(3, .int (b2i (if x3 = 0 then false else (if f_X8_sightOf (f_X8_turned (S.1 9 x1.toNatClampNeg) x2) (S.1 15 ((2 * x4).toNatClampNeg)) = S.1 15 (((2 * x4) + 1).toNatClampNeg) then true else false)))), (0, .ref (ad 0)), (1, .int x1), (2, .int x2), (4, .int x4)]) rfl ?_
      refine at_iinc C dX8_isFit_60 (j := 4) (v := x4 + 1) rfl rfl (by decide) (lv' := [(4, .int (x4 + 1)), (3, .int (b2i (if x3 = 0 then false else (if f_X8_sightOf (f_X8_turned (S.1 9 x1.toNatClampNeg) x2) (S.1 15 ((2 * x4).toNatClampNeg)) = S.1 15 (((2 * x4) + 1).toNatClampNeg) then true else false)))), (0, .ref (ad 0)), (1, .int x1), (2, .int x2)]) rfl ?_
      refine at_goto C dX8_isFit_63 (tgt := 5) (by decide) ?_
      refine at_lv [2, 3, 4, 1, 0] rfl ?_
      exact h
    replace h := hq
    refine at_if_eq C dX8_isFit_15 (tgt := 58) (by decide) (fun hc1 => ?_) (fun hc1 => ?_)
    · skip
      refine at_iconst C dX8_isFit_58 (v := 0) rfl ?_
      refine at_lv [0, 1, 2, 4] rfl ?_
      first | (simp only [if_pos hc1] at K; exact K) | exact K
    · replace h := h hc1
      refine at_aload_n C dX8_isFit_18 rfl (j := 0) rfl ?_
      refine at_get C (K := RX8) (T := TX8) (N := 18) (ci := 7) (v := .ref (ad 7)) iw_X8_isFit_X8 0 mW_c0 rfl 9 (by decide) lk_X8_isFit_1 rfl dX8_isFit_19 ?_
      refine at_iload_n C dX8_isFit_22 rfl (j := 1) rfl ?_
      refine at_iald C 7 mW_c7 h.1 dX8_isFit_23 ?_
      replace h := h.2
      refine at_iload_n C dX8_isFit_24 rfl (j := 2) rfl ?_
      refine at_cS0 C 2 (c_X8_turned X.l X.D X.E X.a1 X.a2 (S.1 9 x1.toNatClampNeg) x2) gX8_isFit_X8_turned rfl (by decide +kernel) ⟨rfl, rfl⟩ rfl rfl rfl dX8_isFit_25 ?_
      refine at_aload_n C dX8_isFit_28 rfl (j := 0) rfl ?_
      refine at_get C (K := RX8) (T := TX8) (N := 18) (ci := 7) (v := .ref (ad 11)) iw_X8_isFit_X8 0 mW_c0 rfl 15 (by decide) lk_X8_isFit_2 rfl dX8_isFit_29 ?_
      refine at_iconst C dX8_isFit_32 (v := 2) rfl ?_
      refine at_iload C dX8_isFit_33 (j := 4) rfl ?_
      refine at_imul C dX8_isFit_35 ?_
      refine at_iald C 11 mW_c11 h.1 dX8_isFit_36 ?_
      replace h := h.2
      refine at_cS0 C 2 (c_X8_sightOf X.l X.D X.E X.a1 X.a2 (f_X8_turned (S.1 9 x1.toNatClampNeg) x2) (S.1 15 ((2 * x4).toNatClampNeg))) gX8_isFit_X8_sightOf rfl (by decide +kernel) ⟨rfl, rfl⟩ rfl rfl rfl dX8_isFit_37 ?_
      refine at_aload_n C dX8_isFit_40 rfl (j := 0) rfl ?_
      refine at_get C (K := RX8) (T := TX8) (N := 18) (ci := 7) (v := .ref (ad 11)) iw_X8_isFit_X8 0 mW_c0 rfl 15 (by decide) lk_X8_isFit_2 rfl dX8_isFit_41 ?_
      refine at_iconst C dX8_isFit_44 (v := 2) rfl ?_
      refine at_iload C dX8_isFit_45 (j := 4) rfl ?_
      refine at_imul C dX8_isFit_47 ?_
      refine at_iconst C dX8_isFit_48 (v := 1) rfl ?_
      refine at_iadd C dX8_isFit_49 ?_
      refine at_iald C 11 mW_c11 h dX8_isFit_50 ?_
      refine at_icmp_ne C dX8_isFit_51 (tgt := 58) (by decide) (fun hc2 => ?_) (fun hc2 => ?_)
      · skip
        refine at_iconst C dX8_isFit_58 (v := 0) rfl ?_
        refine at_lv [0, 1, 2, 4] rfl ?_
        first | (simp only [if_neg hc1, if_neg hc2] at K; exact K) | exact K
      · skip
        refine at_iconst C dX8_isFit_54 (v := 1) rfl ?_
        refine at_goto C dX8_isFit_55 (tgt := 59) (by decide) ?_
        refine at_lv [0, 1, 2, 4] rfl ?_
        first | (simp only [if_neg hc1, if_pos hc2] at K; exact K) | exact K
def ftStep (S : MS) (x : Int32) (k : Nat) (fits : Bool) : Bool := fits && decide (f_X8_sightOf x (S.1 15 (2 * k)) = S.1 15 (2 * k + 1))
def f_X8_isFit (S : MS) (x1 x2 : Int32) : Bool := itF (fun k fits => ftStep S (f_X8_turned (S.1 9 x1.toNatClampNeg) x2) k fits) 0 (S.1 14 0).toNatClampNeg true
def okSeen (S : MS) : Prop := ∃ cnt, cnt ≤ 8 ∧ S.1 14 0 = nI cnt
def p_X8_isFit (S : MS) (x1 : Int32) : Prop := vp_in x1 8 ∧ okSeen S
set_option maxRecDepth 100000 in
theorem c_X8_isFit (l : Launch) (D : va_G) (E : Nat → ClassId) (a1 a2 : Nat) (ad : Nat → Nat) (S : MS) (x1 x2 : Int32) (hp : p_X8_isFit S x1) : Fn l D E a1 a2 yX8_isFit wsX8_isFit 3 67 [.ref (ad 0), .int x1, .int x2] (mW E ad S) (some (.int (b2i (f_X8_isFit S x1 x2)))) (mW E ad S) := by
  refine Fn.of (cc := cX8_isFit) (maxL := 5) (ret := (some .boolean)) (own := RX8) (by decide) rfl rfl (sameM _ _ _ _) (Nat.le_of_ble_eq_true rfl) (fun X h1 h2 h3 h4 h5 C hE => ?_)
  subst h1 h2 h3 h4 h5
  obtain ⟨h1, cnt, hc, e14⟩ := hp
  rw [f_X8_isFit, e14, nI_clamp (by omega)] at hE
  refine r_X8_isFit_0 C ad S x1 x2 ?_
  refine for_go (P := fun k fits => At X 5 (mW X.E ad S) 5 [(0, .ref (ad 0)), (1, .int x1), (2, .int x2), (3, .int (b2i fits)), (4, .int (nI k))] []) (N := cnt) (fun k fits => ftStep S (f_X8_turned (S.1 9 x1.toNatClampNeg) x2) k fits) (fun k fits hk h => ?_) cnt 0 true (Nat.zero_add cnt) ?_
  · have ei : 2 * nI k = nI (2 * k) := by rw [show (2 : Int32) = nI 2 from rfl, pk_mul]
    refine r_X8_isFit_5 C ad S x1 x2 (b2i fits) (nI k) ⟨fun q => nlt_no (b := cnt) (by omega) hk (by rw [← e14]; exact q), fun _ => ?_⟩
    rw [ei, nI_1 (2 * k), nI_clamp (show 2 * k < 2 ^ 31 by omega), nI_clamp (show 2 * k + 1 < 2 ^ 31 by omega), nI_1 k]
    refine ⟨fun _ => ⟨h1, vp_in_nI (by omega) (by decide), vp_in_nI (by omega) (by decide)⟩, ?_⟩
    have e2 : (if b2i fits = 0 then false else (if f_X8_sightOf (f_X8_turned (S.1 9 x1.toNatClampNeg) x2) (S.1 15 (2 * k)) = S.1 15 (2 * k + 1) then true else false)) = ftStep S (f_X8_turned (S.1 9 x1.toNatClampNeg) x2) k fits := by
      unfold ftStep
      cases fits
      · rfl
      · rw [if_neg (show ¬ b2i true = 0 by decide), Bool.true_and]
        by_cases q : f_X8_sightOf (f_X8_turned (S.1 9 x1.toNatClampNeg) x2) (S.1 15 (2 * k)) = S.1 15 (2 * k + 1)
        · rw [if_pos q, decide_eq_true q]
        · rw [if_neg q, decide_eq_false q]
    rw [e2]
    exact h
  · exact r_X8_isFit_5 C ad S x1 x2 _ (nI cnt) ⟨fun _ => ⟨b2i_nar _, hE⟩, fun q => absurd (by rw [e14]; exact Int32.le_refl _) q⟩
set_option maxRecDepth 20000 in
theorem ggX8_fitsOf_X8_isFit : GoodIn wsX8_fitsOf wsX8_isFit := goodIn_r _ [6, 7, 8, 9, 10, 11, 5, 12, 13, 14, 15, 16, 17, 18, 19, 20, 21, 22, 23, 24, 25, 26, 27, 28, 29, 30, 31, 32, 33, 34, 35, 36, 37, 38, 39, 40, 41, 42] (by decide +kernel) (by decide +kernel)
set_option maxRecDepth 20000 in
theorem gX8_fitsOf_X8_isFit : GoodIn wsX8_fitsOf (wsV RX8 229 RX8 yX8_isFit wsX8_isFit) := goodIn_app (goodIn_of _ (by decide +kernel)) ggX8_fitsOf_X8_isFit
theorem dX8_fitsOf_0 : decode cX8_fitsOf 0 = .ok (.iconst 0, 1) := by decide +kernel
theorem dX8_fitsOf_1 : decode cX8_fitsOf 1 = .ok (.istore_n 2, 1) := by decide +kernel
theorem dX8_fitsOf_2 : decode cX8_fitsOf 2 = .ok (.iconst 0, 1) := by decide +kernel
theorem dX8_fitsOf_3 : decode cX8_fitsOf 3 = .ok (.istore_n 3, 1) := by decide +kernel
theorem dX8_fitsOf_4 : decode cX8_fitsOf 4 = .ok (.iconst 0, 1) := by decide +kernel
theorem dX8_fitsOf_5 : decode cX8_fitsOf 5 = .ok (.istore 4, 2) := by decide +kernel
theorem dX8_fitsOf_7 : decode cX8_fitsOf 7 = .ok (.iload 4, 2) := by decide +kernel
theorem dX8_fitsOf_9 : decode cX8_fitsOf 9 = .ok (.aload_n 0, 1) := by decide +kernel
theorem dX8_fitsOf_10 : decode cX8_fitsOf 10 = .ok (.getfield 90, 3) := by decide +kernel
theorem dX8_fitsOf_13 : decode cX8_fitsOf 13 = .ok (.if_icmp .ge 45, 3) := by decide +kernel
theorem dX8_fitsOf_16 : decode cX8_fitsOf 16 = .ok (.iconst 0, 1) := by decide +kernel
theorem dX8_fitsOf_17 : decode cX8_fitsOf 17 = .ok (.istore 5, 2) := by decide +kernel
theorem dX8_fitsOf_19 : decode cX8_fitsOf 19 = .ok (.iload 5, 2) := by decide +kernel
theorem dX8_fitsOf_21 : decode cX8_fitsOf 21 = .ok (.iconst 4, 1) := by decide +kernel
theorem dX8_fitsOf_22 : decode cX8_fitsOf 22 = .ok (.if_icmp .ge 30, 3) := by decide +kernel
theorem dX8_fitsOf_25 : decode cX8_fitsOf 25 = .ok (.aload_n 0, 1) := by decide +kernel
theorem dX8_fitsOf_26 : decode cX8_fitsOf 26 = .ok (.iload 4, 2) := by decide +kernel
theorem dX8_fitsOf_28 : decode cX8_fitsOf 28 = .ok (.iload 5, 2) := by decide +kernel
theorem dX8_fitsOf_30 : decode cX8_fitsOf 30 = .ok (.invokevirtual 229, 3) := by decide +kernel
theorem dX8_fitsOf_33 : decode cX8_fitsOf 33 = .ok (.ifCond .eq 13, 3) := by decide +kernel
theorem dX8_fitsOf_36 : decode cX8_fitsOf 36 = .ok (.iinc 2 1, 3) := by decide +kernel
theorem dX8_fitsOf_39 : decode cX8_fitsOf 39 = .ok (.iload_n 3, 1) := by decide +kernel
theorem dX8_fitsOf_40 : decode cX8_fitsOf 40 = .ok (.iconst 1, 1) := by decide +kernel
theorem dX8_fitsOf_41 : decode cX8_fitsOf 41 = .ok (.iload 4, 2) := by decide +kernel
theorem dX8_fitsOf_43 : decode cX8_fitsOf 43 = .ok (.ishl, 1) := by decide +kernel
theorem dX8_fitsOf_44 : decode cX8_fitsOf 44 = .ok (.ior, 1) := by decide +kernel
theorem dX8_fitsOf_45 : decode cX8_fitsOf 45 = .ok (.istore_n 3, 1) := by decide +kernel
theorem dX8_fitsOf_46 : decode cX8_fitsOf 46 = .ok (.iinc 5 1, 3) := by decide +kernel
theorem dX8_fitsOf_49 : decode cX8_fitsOf 49 = .ok (.goto (-30), 3) := by decide +kernel
theorem dX8_fitsOf_52 : decode cX8_fitsOf 52 = .ok (.iinc 4 1, 3) := by decide +kernel
theorem dX8_fitsOf_55 : decode cX8_fitsOf 55 = .ok (.goto (-48), 3) := by decide +kernel
theorem dX8_fitsOf_58 : decode cX8_fitsOf 58 = .ok (.iload_n 1, 1) := by decide +kernel
theorem dX8_fitsOf_59 : decode cX8_fitsOf 59 = .ok (.ifCond .ne 7, 3) := by decide +kernel
theorem dX8_fitsOf_62 : decode cX8_fitsOf 62 = .ok (.iload_n 2, 1) := by decide +kernel
theorem dX8_fitsOf_63 : decode cX8_fitsOf 63 = .ok (.goto 4, 3) := by decide +kernel
theorem dX8_fitsOf_66 : decode cX8_fitsOf 66 = .ok (.iload_n 3, 1) := by decide +kernel
theorem dX8_fitsOf_67 : decode cX8_fitsOf 67 = .ok (.ireturn, 1) := by decide +kernel
theorem iw_X8_fitsOf_X8 : ∀ w ∈ u_ws RX8 TX8 18, w ∈ wsX8_fitsOf := by decide +kernel
theorem lk_X8_fitsOf_0 : Cond.fieldLink RX8 90 (TX8 8).1 (TX8 8).2.1 (TX8 8).2.2.1 ∈ wsX8_fitsOf := by decide +kernel
set_option maxRecDepth 100000 in
theorem r_X8_fitsOf_0 {X : Bn} (C : Cx X cX8_fitsOf 6 RX8 wsX8_fitsOf 4 91) (ad : Nat → Nat) (S : MS) (x1 : Int32) (h : At X 6 (mW X.E ad S) 7 [(0, .ref (ad 0)), (1, .int x1), (2, .int 0), (3, .int 0), (4, .int 0)] []) : At X 6 (mW X.E ad S) 0 [(0, .ref (ad 0)), (1, .int x1)] [] := by
  refine at_iconst C dX8_fitsOf_0 (v := 0) rfl ?_
  refine at_istore_n C dX8_fitsOf_1 rfl (by decide) (lv' := [(2, .int 0), (0, .ref (ad 0)), (1, .int x1)]) rfl ?_
  refine at_iconst C dX8_fitsOf_2 (v := 0) rfl ?_
  refine at_istore_n C dX8_fitsOf_3 rfl (by decide) (lv' := [(3, .int 0), (2, .int 0), (0, .ref (ad 0)), (1, .int x1)]) rfl ?_
  refine at_iconst C dX8_fitsOf_4 (v := 0) rfl ?_
  refine at_istore C dX8_fitsOf_5 (by decide) (lv' := [(4, .int 0), (3, .int 0), (2, .int 0), (0, .ref (ad 0)), (1, .int x1)]) rfl ?_
  refine at_lv [3, 4, 2, 1, 0] rfl ?_
  exact h
set_option maxRecDepth 100000 in
theorem r_X8_fitsOf_7 {X : Bn} (C : Cx X cX8_fitsOf 6 RX8 wsX8_fitsOf 4 91) (ad : Nat → Nat) (S : MS) (x1 : Int32) (x2 : Int32) (x3 : Int32) (x4 : Int32) (h : ((S.1 8 0 ≤ x4) → (Ends X (some .int) (some (.int (if x1 = 0 then x2 else x3))) (mW X.E ad S))) ∧ (¬ S.1 8 0 ≤ x4 → (At X 6 (mW X.E ad S) 19 [(0, .ref (ad 0)), (1, .int x1), (2, .int x2), (3, .int x3), (4, .int x4), (5, .int 0)] []))) : At X 6 (mW X.E ad S) 7 [(0, .ref (ad 0)), (1, .int x1), (2, .int x2), (3, .int x3), (4, .int x4)] [] := by
  refine at_iload C dX8_fitsOf_7 (j := 4) rfl ?_
  refine at_aload_n C dX8_fitsOf_9 rfl (j := 0) rfl ?_
  refine at_get C (K := RX8) (T := TX8) (N := 18) (ci := 7) (v := .int (S.1 8 0)) iw_X8_fitsOf_X8 0 mW_c0 rfl 8 (by decide) lk_X8_fitsOf_0 rfl dX8_fitsOf_10 ?_
  refine at_icmp_ge C dX8_fitsOf_13 (tgt := 58) (by decide) (fun hc0 => ?_) (fun hc0 => ?_)
  · replace h := h.1 hc0
    refine at_iload_n C dX8_fitsOf_58 rfl (j := 1) rfl ?_
    have K : At X 6 (mW X.E ad S) 67 [] [.int (if x1 = 0 then x2 else x3)] := by
      exact at_iret C dX8_fitsOf_67 h
    refine at_if_ne C dX8_fitsOf_59 (tgt := 66) (by decide) (fun hc1 => ?_) (fun hc1 => ?_)
    · skip
      refine at_iload_n C dX8_fitsOf_66 rfl (j := 3) rfl ?_
      refine at_lv [] rfl ?_
      first | (simp only [if_neg hc1] at K; exact K) | exact K
    · skip
      refine at_iload_n C dX8_fitsOf_62 rfl (j := 2) rfl ?_
      refine at_goto C dX8_fitsOf_63 (tgt := 67) (by decide) ?_
      refine at_lv [] rfl ?_
      first | (simp only [if_pos hc1] at K; exact K) | exact K
  · replace h := h.2 hc0
    refine at_iconst C dX8_fitsOf_16 (v := 0) rfl ?_
    refine at_istore C dX8_fitsOf_17 (by decide) (lv' := [(5, .int 0), (0, .ref (ad 0)), (1, .int x1), (2, .int x2), (3, .int x3), (4, .int x4)]) rfl ?_
    refine at_lv [1, 2, 3, 4, 5, 0] rfl ?_
    exact h
set_option maxRecDepth 100000 in
theorem r_X8_fitsOf_19 {X : Bn} (C : Cx X cX8_fitsOf 6 RX8 wsX8_fitsOf 4 91) (ad : Nat → Nat) (S : MS) (x1 : Int32) (x2 : Int32) (x3 : Int32) (x4 : Int32) (x5 : Int32) (h : ((4 ≤ x5) → (At X 6 (mW X.E ad S) 7 [(0, .ref (ad 0)), (1, .int x1), (2, .int x2), (3, .int x3), (4, .int (x4 + 1))] [])) ∧ (¬ 4 ≤ x5 → ((p_X8_isFit S x4) ∧ (At X 6 (mW X.E ad S) 19 [(0, .ref (ad 0)), (1, .int x1), (2, .int (if (f_X8_isFit S x4 x5) then x2 + 1 else x2)), (3, .int (if (f_X8_isFit S x4 x5) then x3 ||| (ishl 1 x4) else x3)), (4, .int x4), (5, .int (x5 + 1))] [])))) : At X 6 (mW X.E ad S) 19 [(0, .ref (ad 0)), (1, .int x1), (2, .int x2), (3, .int x3), (4, .int x4), (5, .int x5)] [] := by
  refine at_iload C dX8_fitsOf_19 (j := 5) rfl ?_
  refine at_iconst C dX8_fitsOf_21 (v := 4) rfl ?_
  refine at_icmp_ge C dX8_fitsOf_22 (tgt := 52) (by decide) (fun hc1 => ?_) (fun hc1 => ?_)
  · replace h := h.1 hc1
    refine at_iinc C dX8_fitsOf_52 (j := 4) (v := x4 + 1) rfl rfl (by decide) (lv' := [(4, .int (x4 + 1)), (0, .ref (ad 0)), (1, .int x1), (2, .int x2), (3, .int x3), (5, .int x5)]) rfl ?_
    refine at_goto C dX8_fitsOf_55 (tgt := 7) (by decide) ?_
    refine at_lv [1, 2, 3, 4, 0] rfl ?_
    exact h
  · replace h := h.2 hc1
    refine at_aload_n C dX8_fitsOf_25 rfl (j := 0) rfl ?_
    refine at_iload C dX8_fitsOf_26 (j := 4) rfl ?_
    refine at_iload C dX8_fitsOf_28 (j := 5) rfl ?_
    refine at_cV1 C 2 (c_X8_isFit X.l X.D X.E X.a1 X.a2 ad S x4 x5 h.1) gX8_fitsOf_X8_isFit rfl (by decide +kernel) ⟨rfl, rfl⟩ rfl rfl rfl 0 mW_c0 rfl dX8_fitsOf_30 ?_
    replace h := h.2
    have K : At X 6 (mW X.E ad S) 46 [(0, .ref (ad 0)), (1, .int x1), (2, .int (if (f_X8_isFit S x4 x5) then x2 + 1 else x2)), (3, .int (if (f_X8_isFit S x4 x5) then x3 ||| (ishl 1 x4) else x3)), (4, .int x4), (5, .int x5)] [] := by
      refine at_iinc C dX8_fitsOf_46 (j := 5) (v := x5 + 1) rfl rfl (by decide) (lv' := [(5, .int (x5 + 1)), (0, .ref (ad 0)), (1, .int x1), (2, .int (if (f_X8_isFit S x4 x5) then x2 + 1 else x2)), (3, .int (if (f_X8_isFit S x4 x5) then x3 ||| (ishl 1 x4) else x3)), (4, .int x4)]) rfl ?_
      refine at_goto C dX8_fitsOf_49 (tgt := 19) (by decide) ?_
      refine at_lv [1, 2, 3, 4, 5, 0] rfl ?_
      exact h
    refine at_ifB_eq C dX8_fitsOf_33 (tgt := 46) (by decide) (fun hc2 => ?_) (fun hc2 => ?_)
    · skip
      first | (simp only [if_neg (show ¬ (f_X8_isFit S x4 x5) = true by rw [hc2]; decide)] at K; exact K) | exact K
    · skip
      refine at_iinc C dX8_fitsOf_36 (j := 2) (v := x2 + 1) rfl rfl (by decide) (lv' := [(2, .int (x2 + 1)), (0, .ref (ad 0)), (1, .int x1), (3, .int x3), (4, .int x4), (5, .int x5)]) rfl ?_
      refine at_iload_n C dX8_fitsOf_39 rfl (j := 3) rfl ?_
      refine at_iconst C dX8_fitsOf_40 (v := 1) rfl ?_
      refine at_iload C dX8_fitsOf_41 (j := 4) rfl ?_
      refine at_ishl C dX8_fitsOf_43 ?_
      refine at_ior C dX8_fitsOf_44 ?_
      refine at_istore_n C dX8_fitsOf_45 rfl (by decide) (lv' := [(3, .int (x3 ||| (ishl 1 x4))), (2, .int (x2 + 1)), (0, .ref (ad 0)), (1, .int x1), (4, .int x4), (5, .int x5)]) rfl ?_
      refine at_lv [2, 3, 1, 0, 4, 5] rfl ?_
      first | (simp only [if_pos hc2] at K; exact K) | exact K
def fsStep (S : MS) (s t : Nat) (p : Int32 × Int32) : Int32 × Int32 := if f_X8_isFit S (nI s) (nI t) then (p.1 + 1, p.2 ||| ishl 1 (nI s)) else p
def fitP (S : MS) : Int32 × Int32 := itF (fun s p => itF (fun t p => fsStep S s t p) 0 4 p) 0 (S.1 8 0).toNatClampNeg (0, 0)
def f_X8_fitsOf (S : MS) (x1 : Int32) : Int32 := if x1 = 0 then (fitP S).1 else (fitP S).2
def okCnt (S : MS) : Prop := ∃ cnt, cnt ≤ 8 ∧ S.1 8 0 = nI cnt
def p_X8_fitsOf (S : MS) : Prop := okCnt S ∧ okSeen S
set_option maxRecDepth 100000 in
theorem c_X8_fitsOf (l : Launch) (D : va_G) (E : Nat → ClassId) (a1 a2 : Nat) (ad : Nat → Nat) (S : MS) (x1 : Int32) (hp : p_X8_fitsOf S) : Fn l D E a1 a2 yX8_fitsOf wsX8_fitsOf 4 91 [.ref (ad 0), .int x1] (mW E ad S) (some (.int (f_X8_fitsOf S x1))) (mW E ad S) := by
  refine Fn.of (cc := cX8_fitsOf) (maxL := 6) (ret := (some .int)) (own := RX8) (by decide) rfl rfl (sameM _ _ _ _) (Nat.le_of_ble_eq_true rfl) (fun X h1 h2 h3 h4 h5 C hE => ?_)
  subst h1 h2 h3 h4 h5
  obtain ⟨⟨cnt, hc, e8⟩, hs⟩ := hp
  rw [f_X8_fitsOf, fitP, e8, nI_clamp (by omega)] at hE
  refine r_X8_fitsOf_0 C ad S x1 ?_
  refine for_go (P := fun s (p : Int32 × Int32) => At X 6 (mW X.E ad S) 7 [(0, .ref (ad 0)), (1, .int x1), (2, .int p.1), (3, .int p.2), (4, .int (nI s))] []) (N := cnt) (fun s p => itF (fun t p => fsStep S s t p) 0 4 p) (fun s p hs' h => ?_) cnt 0 (0, 0) (Nat.zero_add cnt) ?_
  · refine r_X8_fitsOf_7 C ad S x1 p.1 p.2 (nI s) ⟨fun q => nlt_no (b := cnt) (by omega) hs' (by rw [← e8]; exact q), fun _ => ?_⟩
    refine for_go (P := fun t (p : Int32 × Int32) => At X 6 (mW X.E ad S) 19 [(0, .ref (ad 0)), (1, .int x1), (2, .int p.1), (3, .int p.2), (4, .int (nI s)), (5, .int (nI t))] []) (N := 4) (fun t p => fsStep S s t p) (fun t p ht h => ?_) 4 0 p rfl ?_
    · refine r_X8_fitsOf_19 C ad S x1 p.1 p.2 (nI s) (nI t) ⟨fun q => nlt_no (by decide) ht q, fun _ => ⟨⟨vp_in_nI (by omega) (by decide), hs⟩, ?_⟩⟩
      rw [nI_1]
      unfold fsStep at h
      cases q : f_X8_isFit S (nI s) (nI t)
      · rw [q] at h; exact h
      · rw [q] at h; exact h
    · exact r_X8_fitsOf_19 C ad S x1 _ _ (nI s) (nI 4) ⟨fun _ => by rw [nI_1]; exact h, fun q => nle_no q⟩
  · exact r_X8_fitsOf_7 C ad S x1 _ _ (nI cnt) ⟨fun _ => hE, fun q => absurd (by rw [e8]; exact Int32.le_refl _) q⟩
set_option maxRecDepth 20000 in
theorem ggX8_echo_X8_beside : GoodIn wsX8_echo wsX8_beside := goodIn_r _ [5, 6, 7, 8, 9, 4, 10, 11, 12, 13, 14, 15, 16, 17, 18, 19, 20, 21, 22, 23, 24, 25, 26, 27, 28] (by decide +kernel) (by decide +kernel)
set_option maxRecDepth 20000 in
theorem gX8_echo_X8_beside : GoodIn wsX8_echo (wsV RX8 241 RX8 yX8_beside wsX8_beside) := goodIn_app (goodIn_of _ (by decide +kernel)) ggX8_echo_X8_beside
theorem dX8_echo_0 : decode cX8_echo 0 = .ok (.iconst 0, 1) := by decide +kernel
theorem dX8_echo_1 : decode cX8_echo 1 = .ok (.istore_n 3, 1) := by decide +kernel
theorem dX8_echo_2 : decode cX8_echo 2 = .ok (.aload_n 0, 1) := by decide +kernel
theorem dX8_echo_3 : decode cX8_echo 3 = .ok (.iload_n 1, 1) := by decide +kernel
theorem dX8_echo_4 : decode cX8_echo 4 = .ok (.iload_n 2, 1) := by decide +kernel
theorem dX8_echo_5 : decode cX8_echo 5 = .ok (.invokevirtual 241, 3) := by decide +kernel
theorem dX8_echo_8 : decode cX8_echo 8 = .ok (.istore 4, 2) := by decide +kernel
theorem dX8_echo_10 : decode cX8_echo 10 = .ok (.iload 4, 2) := by decide +kernel
theorem dX8_echo_12 : decode cX8_echo 12 = .ok (.iconst (-1), 1) := by decide +kernel
theorem dX8_echo_13 : decode cX8_echo 13 = .ok (.if_icmp .eq 18, 3) := by decide +kernel
theorem dX8_echo_16 : decode cX8_echo 16 = .ok (.iinc 3 1, 3) := by decide +kernel
theorem dX8_echo_19 : decode cX8_echo 19 = .ok (.aload_n 0, 1) := by decide +kernel
theorem dX8_echo_20 : decode cX8_echo 20 = .ok (.iload 4, 2) := by decide +kernel
theorem dX8_echo_22 : decode cX8_echo 22 = .ok (.iload_n 2, 1) := by decide +kernel
theorem dX8_echo_23 : decode cX8_echo 23 = .ok (.invokevirtual 241, 3) := by decide +kernel
theorem dX8_echo_26 : decode cX8_echo 26 = .ok (.istore 4, 2) := by decide +kernel
theorem dX8_echo_28 : decode cX8_echo 28 = .ok (.goto (-18), 3) := by decide +kernel
theorem dX8_echo_31 : decode cX8_echo 31 = .ok (.iload_n 3, 1) := by decide +kernel
theorem dX8_echo_32 : decode cX8_echo 32 = .ok (.ireturn, 1) := by decide +kernel
set_option maxRecDepth 100000 in
theorem r_X8_echo_0 {X : Bn} (C : Cx X cX8_echo 5 RX8 wsX8_echo 2 49) (ad : Nat → Nat) (S : MS) (x1 : Int32) (x2 : Int32) (h : (p_X8_beside S x1 x2) ∧ (At X 5 (mW X.E ad S) 10 [(0, .ref (ad 0)), (2, .int x2), (3, .int 0), (4, .int (f_X8_beside S x1 x2))] [])) : At X 5 (mW X.E ad S) 0 [(0, .ref (ad 0)), (1, .int x1), (2, .int x2)] [] := by
  refine at_iconst C dX8_echo_0 (v := 0) rfl ?_
  refine at_istore_n C dX8_echo_1 rfl (by decide) (lv' := [(3, .int 0), (0, .ref (ad 0)), (1, .int x1), (2, .int x2)]) rfl ?_
  refine at_aload_n C dX8_echo_2 rfl (j := 1) rfl ?_
  refine at_iload_n C dX8_echo_3 rfl (j := 2) rfl ?_
  refine at_iload_n C dX8_echo_4 rfl (j := 3) rfl ?_
  refine at_cV1 C 2 (c_X8_beside X.l X.D X.E X.a1 X.a2 ad S x1 x2 h.1) gX8_echo_X8_beside rfl (by decide +kernel) ⟨rfl, rfl⟩ rfl rfl rfl 0 mW_c0 rfl dX8_echo_5 ?_
  replace h := h.2
  refine at_istore C dX8_echo_8 (by decide) (lv' := [(4, .int (f_X8_beside S x1 x2)), (3, .int 0), (0, .ref (ad 0)), (1, .int x1), (2, .int x2)]) rfl ?_
  refine at_lv [2, 4, 1, 0] rfl ?_
  exact h
set_option maxRecDepth 100000 in
theorem r_X8_echo_10 {X : Bn} (C : Cx X cX8_echo 5 RX8 wsX8_echo 2 49) (ad : Nat → Nat) (S : MS) (x2 : Int32) (x3 : Int32) (x4 : Int32) (h : ((x4 = (-1)) → (Ends X (some .int) (some (.int x3)) (mW X.E ad S))) ∧ (¬ x4 = (-1) → ((p_X8_beside S x4 x2) ∧ (At X 5 (mW X.E ad S) 10 [(0, .ref (ad 0)), (2, .int x2), (3, .int (x3 + 1)), (4, .int (f_X8_beside S x4 x2))] [])))) : At X 5 (mW X.E ad S) 10 [(0, .ref (ad 0)), (2, .int x2), (3, .int x3), (4, .int x4)] [] := by
  refine at_iload C dX8_echo_10 (j := 3) rfl ?_
  refine at_iconst C dX8_echo_12 (v := (-1)) rfl ?_
  refine at_icmp_eq C dX8_echo_13 (tgt := 31) (by decide) (fun hc0 => ?_) (fun hc0 => ?_)
  · replace h := h.1 hc0
    refine at_iload_n C dX8_echo_31 rfl (j := 2) rfl ?_
    exact at_iret C dX8_echo_32 h
  · replace h := h.2 hc0
    refine at_iinc C dX8_echo_16 (j := 2) (v := x3 + 1) rfl rfl (by decide) (lv' := [(3, .int (x3 + 1)), (0, .ref (ad 0)), (2, .int x2), (4, .int x4)]) rfl ?_
    refine at_aload_n C dX8_echo_19 rfl (j := 1) rfl ?_
    refine at_iload C dX8_echo_20 (j := 3) rfl ?_
    refine at_iload_n C dX8_echo_22 rfl (j := 2) rfl ?_
    refine at_cV1 C 2 (c_X8_beside X.l X.D X.E X.a1 X.a2 ad S x4 x2 h.1) gX8_echo_X8_beside rfl (by decide +kernel) ⟨rfl, rfl⟩ rfl rfl rfl 0 mW_c0 rfl dX8_echo_23 ?_
    replace h := h.2
    refine at_istore C dX8_echo_26 (by decide) (lv' := [(4, .int (f_X8_beside S x4 x2)), (3, .int (x3 + 1)), (0, .ref (ad 0)), (2, .int x2)]) rfl ?_
    refine at_goto C dX8_echo_28 (tgt := 10) (by decide) ?_
    refine at_lv [2, 3, 1, 0] rfl ?_
    exact h
/-- the free cells -/
def frS (S : MS) (c : Nat) : Bool := decide (c < 64) && decide (¬ S.1 10 c = 0)
/-- the free cell beside a cell: up, right, down, left -/
def besN (fr : Nat → Bool) (c : Nat) : Nat → Option Nat
  | 0 => if 8 ≤ c ∧ fr (c - 8) = true then some (c - 8) else none
  | 1 => if c % 8 < 7 ∧ fr (c + 1) = true then some (c + 1) else none
  | 2 => if c < 56 ∧ fr (c + 8) = true then some (c + 8) else none
  | _ + 3 => if 0 < c % 8 ∧ fr (c - 1) = true then some (c - 1) else none
def optI : Option Nat → Int32
  | none => -1
  | some d => nI d
theorem in7_y : ∀ n, n < 8 → f_X8_in (nI n).toInt64 0 7 = true := by decide
theorem in7_m : f_X8_in (-1 : Int32).toInt64 0 7 = false := by decide
theorem in7_8 : f_X8_in (nI 8).toInt64 0 7 = false := by decide
theorem bes_go {S : MS} {x1 x2 a b : Int32} {r k : Nat} (ha : (if x2 = 0 then (-1 : Int32) else (if x2 = 2 then 1 else 0)) = a) (hb : (if x2 = 1 then (1 : Int32) else (if x2 = 3 then (-1) else 0)) = b) (er : x1 / 8 + a = nI r) (ek : irm x1 8 + b = nI k) (hr : r < 8) (hk : k < 8) :
    f_X8_beside S x1 x2 = (if frS S (8 * r + k) = true then nI (8 * r + k) else -1) ∧ p_X8_beside S x1 x2 := by
  have e : 8 * nI r + nI k = nI (8 * r + k) := by rw [show (8 : Int32) = nI 8 from rfl, pk_mul, nI_add]
  unfold f_X8_beside p_X8_beside
  rw [ha, hb, er, ek, in7_y r hr, in7_y k hk, e, nI_clamp (by omega)]
  refine ⟨?_, fun _ _ => vp_in_nI (by omega) (by decide)⟩
  rw [if_pos rfl, if_pos rfl]
  unfold frS
  rw [decide_eq_true (show 8 * r + k < 64 by omega), Bool.true_and]
  by_cases q : S.1 10 (8 * r + k) = 0
  · rw [if_pos q, decide_eq_false (fun z => z q)]; rfl
  · rw [if_neg q, decide_eq_true q]; rfl
theorem bes_no1 {S : MS} {x1 x2 a : Int32} (ha : (if x2 = 0 then (-1 : Int32) else (if x2 = 2 then 1 else 0)) = a) (h : f_X8_in (x1 / 8 + a).toInt64 0 7 = false) : f_X8_beside S x1 x2 = -1 ∧ p_X8_beside S x1 x2 := by
  unfold f_X8_beside p_X8_beside
  rw [ha, h]
  exact ⟨rfl, fun q => by cases q⟩
theorem bes_no2 {S : MS} {x1 x2 b : Int32} (hb : (if x2 = 1 then (1 : Int32) else (if x2 = 3 then (-1) else 0)) = b) (h : f_X8_in (irm x1 8 + b).toInt64 0 7 = false) : f_X8_beside S x1 x2 = -1 ∧ p_X8_beside S x1 x2 := by
  unfold f_X8_beside p_X8_beside
  rw [hb, h]
  refine ⟨?_, fun _ q => by cases q⟩
  rw [if_neg (show ¬ false = true by decide)]
  exact ite_self (-1)
theorem bes_eq {S : MS} {c way : Nat} (hc : c < 64) (hw : way < 4) : f_X8_beside S (nI c) (nI way) = optI (besN (frS S) c way) ∧ p_X8_beside S (nI c) (nI way) := by
  have ed : nI c / 8 = nI (c / 8) := pk_div (d := 8) (by omega) (by decide) (by decide)
  have em : irm (nI c) 8 = nI (c % 8) := irm_nI (d := 8) (by omega) (by decide) (by decide)
  have z : ∀ x : Int32, x + 0 = x := Int32.add_zero
  have fin : ∀ {d : Nat} {p : Prop} [Decidable p], p → ∀ {q : Nat}, q = d → (if frS S q = true then nI q else -1) = optI (if p ∧ frS S d = true then some d else none) := by
    intro d p _ hp q e
    subst e
    by_cases h : frS S q = true
    · rw [if_pos h, if_pos ⟨hp, h⟩]; rfl
    · rw [if_neg h, if_neg (fun y => h y.2)]; rfl
  rcases (show way = 0 ∨ way = 1 ∨ way = 2 ∨ way = 3 by omega) with rfl | rfl | rfl | rfl
  · by_cases h : 8 ≤ c
    · obtain ⟨h1, h2⟩ := bes_go (S := S) (x1 := nI c) (x2 := nI 0) (a := -1) (b := 0) (r := c / 8 - 1) (k := c % 8) (by decide) (by decide) (by rw [ed, show c / 8 = (c / 8 - 1) + 1 by omega, pk_m1]; rfl) (by rw [em, z]) (by omega) (by omega)
      refine ⟨?_, h2⟩
      rw [h1, besN]
      exact fin h (by omega)
    · obtain ⟨h1, h2⟩ := bes_no1 (S := S) (x1 := nI c) (x2 := nI 0) (a := -1) (by decide) (by rw [ed, show c / 8 = 0 by omega]; exact in7_m)
      exact ⟨by rw [h1, besN, if_neg (fun y => h y.1)]; rfl, h2⟩
  · by_cases h : c % 8 < 7
    · obtain ⟨h1, h2⟩ := bes_go (S := S) (x1 := nI c) (x2 := nI 1) (a := 0) (b := 1) (r := c / 8) (k := c % 8 + 1) (by decide) (by decide) (by rw [ed, z]) (by rw [em, nI_1]) (by omega) (by omega)
      refine ⟨?_, h2⟩
      rw [h1, besN]
      exact fin h (by omega)
    · obtain ⟨h1, h2⟩ := bes_no2 (S := S) (x1 := nI c) (x2 := nI 1) (b := 1) (by decide) (by rw [em, nI_1, show c % 8 + 1 = 8 by omega]; exact in7_8)
      exact ⟨by rw [h1, besN, if_neg (fun y => h y.1)]; rfl, h2⟩
  · by_cases h : c < 56
    · obtain ⟨h1, h2⟩ := bes_go (S := S) (x1 := nI c) (x2 := nI 2) (a := 1) (b := 0) (r := c / 8 + 1) (k := c % 8) (by decide) (by decide) (by rw [ed, nI_1]) (by rw [em, z]) (by omega) (by omega)
      refine ⟨?_, h2⟩
      rw [h1, besN]
      exact fin h (by omega)
    · obtain ⟨h1, h2⟩ := bes_no1 (S := S) (x1 := nI c) (x2 := nI 2) (a := 1) (by decide) (by rw [ed, nI_1, show c / 8 + 1 = 8 by omega]; exact in7_8)
      exact ⟨by rw [h1, besN, if_neg (fun y => h y.1)]; rfl, h2⟩
  · by_cases h : 0 < c % 8
    · obtain ⟨h1, h2⟩ := bes_go (S := S) (x1 := nI c) (x2 := nI 3) (a := 0) (b := -1) (r := c / 8) (k := c % 8 - 1) (by decide) (by decide) (by rw [ed, z]) (by rw [em, show c % 8 = (c % 8 - 1) + 1 by omega, pk_m1]; rfl) (by omega) (by omega)
      refine ⟨?_, h2⟩
      rw [h1, besN]
      exact fin h (by omega)
    · obtain ⟨h1, h2⟩ := bes_no2 (S := S) (x1 := nI c) (x2 := nI 3) (b := -1) (by decide) (by rw [em, show c % 8 = 0 by omega]; exact in7_m)
      exact ⟨by rw [h1, besN, if_neg (fun y => h y.1)]; rfl, h2⟩
/-- how many cells there are at most in a way -/
def roomW (c : Nat) : Nat → Nat
  | 0 => c / 8
  | 1 => 7 - c % 8
  | 2 => 7 - c / 8
  | _ + 3 => c % 8
theorem bes_some {fr : Nat → Bool} {c d way : Nat} (hc : c < 64) (h : besN fr c way = some d) : d < 64 ∧ fr d = true ∧ roomW d way + 1 = roomW c way := by
  match way, h with
  | 0, h =>
    have h : (if 8 ≤ c ∧ fr (c - 8) = true then some (c - 8) else none) = some d := h
    split at h
    · rename_i q; cases h; exact ⟨by omega, q.2, by show (c - 8) / 8 + 1 = c / 8; omega⟩
    · cases h
  | 1, h =>
    have h : (if c % 8 < 7 ∧ fr (c + 1) = true then some (c + 1) else none) = some d := h
    split at h
    · rename_i q; cases h; exact ⟨by omega, q.2, by show 7 - (c + 1) % 8 + 1 = 7 - c % 8; omega⟩
    · cases h
  | 2, h =>
    have h : (if c < 56 ∧ fr (c + 8) = true then some (c + 8) else none) = some d := h
    split at h
    · rename_i q; cases h; exact ⟨by omega, q.2, by show 7 - (c + 8) / 8 + 1 = 7 - c / 8; omega⟩
    · cases h
  | w + 3, h =>
    have h : (if 0 < c % 8 ∧ fr (c - 1) = true then some (c - 1) else none) = some d := h
    split at h
    · rename_i q; cases h; exact ⟨by omega, q.2, by show (c - 1) % 8 + 1 = c % 8; omega⟩
    · cases h
theorem roomW_le {c way : Nat} (hc : c < 64) : roomW c way ≤ 7 := by
  match way with
  | 0 => show c / 8 ≤ 7; omega
  | 1 => show 7 - c % 8 ≤ 7; omega
  | 2 => show 7 - c / 8 ≤ 7; omega
  | w + 3 => show c % 8 ≤ 7; omega
/-- how many free cells there are ahead, of at most so many -/
def echF (fr : Nat → Bool) (way : Nat) : Nat → Nat → Nat
  | 0, _ => 0
  | k + 1, c => match besN fr c way with
    | none => 0
    | some d => echF fr way k d + 1
def echoN (fr : Nat → Bool) (c way : Nat) : Nat := echF fr way 8 c
def f_X8_echo (S : MS) (x1 x2 : Int32) : Int32 := nI (echoN (frS S) x1.toNatClampNeg x2.toNatClampNeg)
def p_X8_echo (x1 x2 : Int32) : Prop := ∃ c way, c < 64 ∧ way < 4 ∧ x1 = nI c ∧ x2 = nI way
theorem nm1' {a : Nat} (h : a < 2 ^ 31) : ¬ nI a = -1 := nm1 h
theorem echF_room {fr : Nat → Bool} {way : Nat} : ∀ (k c : Nat), c < 64 → roomW c way < k → echF fr way k c = echF fr way (roomW c way + 1) c
  | 0, c, _, h => absurd h (Nat.not_lt_zero _)
  | k + 1, c, hc, h => by
    unfold echF
    cases e : besN fr c way with
    | none => rfl
    | some d =>
      obtain ⟨q1, q2, q3⟩ := bes_some hc e
      show echF fr way k d + 1 = echF fr way (roomW c way) d + 1
      rw [echF_room k d q1 (by omega), q3]
theorem echo_bes {fr : Nat → Bool} {c way : Nat} (hc : c < 64) : echoN fr c way = (match besN fr c way with | none => 0 | some d => echoN fr d way + 1) := by
  show echF fr way 8 c = _
  rw [echF]
  cases e : besN fr c way with
  | none => rfl
  | some d =>
    obtain ⟨q1, q2, q3⟩ := bes_some hc e
    show echF fr way 7 d + 1 = echF fr way 8 d + 1
    have h1 := roomW_le (way := way) hc
    have h2 := roomW_le (way := way) q1
    rw [echF_room 7 d q1 (by omega), echF_room 8 d q1 (by omega)]
set_option maxRecDepth 100000 in
theorem c_X8_echo (l : Launch) (D : va_G) (E : Nat → ClassId) (a1 a2 : Nat) (ad : Nat → Nat) (S : MS) (x1 x2 : Int32) (hp : p_X8_echo x1 x2) : Fn l D E a1 a2 yX8_echo wsX8_echo 2 49 [.ref (ad 0), .int x1, .int x2] (mW E ad S) (some (.int (f_X8_echo S x1 x2))) (mW E ad S) := by
  refine Fn.of (cc := cX8_echo) (maxL := 5) (ret := (some .int)) (own := RX8) (by decide) rfl rfl (sameM _ _ _ _) (Nat.le_of_ble_eq_true rfl) (fun X h1 h2 h3 h4 h5 C hE => ?_)
  subst h1 h2 h3 h4 h5
  obtain ⟨c, way, hc, hw, rfl, rfl⟩ := hp
  rw [f_X8_echo, nI_clamp (show c < 2 ^ 31 by omega), nI_clamp (show way < 2 ^ 31 by omega)] at hE
  obtain ⟨b1, b2⟩ := bes_eq (S := S) hc hw
  refine r_X8_echo_0 C ad S (nI c) (nI way) ⟨b2, ?_⟩
  rw [b1]
  have key : ∀ (m i : Nat) (o : Option Nat), (∀ d, o = some d → d < 64 ∧ roomW d way < m) → i + (match o with | none => 0 | some d => echoN (frS S) d way + 1) = echoN (frS S) c way → At X 5 (mW X.E ad S) 10 [(0, .ref (ad 0)), (2, .int (nI way)), (3, .int (nI i)), (4, .int (optI o))] [] := by
    intro m
    induction m with
    | zero =>
      intro i o ho e
      cases o with
      | none =>
        refine r_X8_echo_10 C ad S (nI way) (nI i) _ ⟨fun _ => ?_, fun z => absurd rfl z⟩
        rw [show i = echoN (frS S) c way from e]; exact hE
      | some d => exact absurd (ho d rfl).2 (Nat.not_lt_zero _)
    | succ m ih =>
      intro i o ho e
      cases o with
      | none =>
        refine r_X8_echo_10 C ad S (nI way) (nI i) _ ⟨fun _ => ?_, fun z => absurd rfl z⟩
        rw [show i = echoN (frS S) c way from e]; exact hE
      | some d =>
        obtain ⟨h1, h2⟩ := ho d rfl
        obtain ⟨b1, b2⟩ := bes_eq (S := S) h1 hw
        refine r_X8_echo_10 C ad S (nI way) (nI i) (nI d) ⟨fun z => absurd z (nm1 (by omega)), fun _ => ⟨b2, ?_⟩⟩
        rw [b1, nI_1]
        refine ih (i + 1) _ (fun d' hd' => ?_) ?_
        · obtain ⟨q1, q2, q3⟩ := bes_some h1 hd'
          exact ⟨q1, by omega⟩
        · rw [← e]
          show _ = i + (echoN (frS S) d way + 1)
          rw [echo_bes h1]
          omega
  refine key 8 0 _ (fun d hd => ?_) ?_
  · obtain ⟨q1, q2, q3⟩ := bes_some hc hd
    have := roomW_le (way := way) hc
    exact ⟨q1, by omega⟩
  · rw [Nat.zero_add, ← echo_bes hc]
set_option maxRecDepth 20000 in
theorem ggX8_viewOf_X8_echo : GoodIn wsX8_viewOf wsX8_echo := goodIn_r _ [5, 6, 7, 8, 4, 9, 10, 11, 12, 13, 14, 15, 16, 17, 18, 19, 20, 21, 22, 23, 24, 25, 26, 27, 28, 29, 30, 31, 32] (by decide +kernel) (by decide +kernel)
set_option maxRecDepth 20000 in
theorem gX8_viewOf_X8_echo : GoodIn wsX8_viewOf (wsV RX8 244 RX8 yX8_echo wsX8_echo) := goodIn_app (goodIn_of _ (by decide +kernel)) ggX8_viewOf_X8_echo
theorem dX8_viewOf_0 : decode cX8_viewOf 0 = .ok (.iconst 1, 1) := by decide +kernel
theorem dX8_viewOf_1 : decode cX8_viewOf 1 = .ok (.aload_n 0, 1) := by decide +kernel
theorem dX8_viewOf_2 : decode cX8_viewOf 2 = .ok (.iload_n 1, 1) := by decide +kernel
theorem dX8_viewOf_3 : decode cX8_viewOf 3 = .ok (.iconst 0, 1) := by decide +kernel
theorem dX8_viewOf_4 : decode cX8_viewOf 4 = .ok (.invokevirtual 244, 3) := by decide +kernel
theorem dX8_viewOf_7 : decode cX8_viewOf 7 = .ok (.iadd, 1) := by decide +kernel
theorem dX8_viewOf_8 : decode cX8_viewOf 8 = .ok (.aload_n 0, 1) := by decide +kernel
theorem dX8_viewOf_9 : decode cX8_viewOf 9 = .ok (.iload_n 1, 1) := by decide +kernel
theorem dX8_viewOf_10 : decode cX8_viewOf 10 = .ok (.iconst 1, 1) := by decide +kernel
theorem dX8_viewOf_11 : decode cX8_viewOf 11 = .ok (.invokevirtual 244, 3) := by decide +kernel
theorem dX8_viewOf_14 : decode cX8_viewOf 14 = .ok (.iadd, 1) := by decide +kernel
theorem dX8_viewOf_15 : decode cX8_viewOf 15 = .ok (.aload_n 0, 1) := by decide +kernel
theorem dX8_viewOf_16 : decode cX8_viewOf 16 = .ok (.iload_n 1, 1) := by decide +kernel
theorem dX8_viewOf_17 : decode cX8_viewOf 17 = .ok (.iconst 2, 1) := by decide +kernel
theorem dX8_viewOf_18 : decode cX8_viewOf 18 = .ok (.invokevirtual 244, 3) := by decide +kernel
theorem dX8_viewOf_21 : decode cX8_viewOf 21 = .ok (.iadd, 1) := by decide +kernel
theorem dX8_viewOf_22 : decode cX8_viewOf 22 = .ok (.aload_n 0, 1) := by decide +kernel
theorem dX8_viewOf_23 : decode cX8_viewOf 23 = .ok (.iload_n 1, 1) := by decide +kernel
theorem dX8_viewOf_24 : decode cX8_viewOf 24 = .ok (.iconst 3, 1) := by decide +kernel
theorem dX8_viewOf_25 : decode cX8_viewOf 25 = .ok (.invokevirtual 244, 3) := by decide +kernel
theorem dX8_viewOf_28 : decode cX8_viewOf 28 = .ok (.iadd, 1) := by decide +kernel
theorem dX8_viewOf_29 : decode cX8_viewOf 29 = .ok (.ireturn, 1) := by decide +kernel
set_option maxRecDepth 100000 in
theorem r_X8_viewOf_0 {X : Bn} (C : Cx X cX8_viewOf 2 RX8 wsX8_viewOf 3 73) (ad : Nat → Nat) (S : MS) (x1 : Int32) (h : (p_X8_echo x1 (0 : Int32)) ∧ ((p_X8_echo x1 (1 : Int32)) ∧ ((p_X8_echo x1 (2 : Int32)) ∧ ((p_X8_echo x1 (3 : Int32)) ∧ (Ends X (some .int) (some (.int ((((1 + (f_X8_echo S x1 (0 : Int32))) + (f_X8_echo S x1 (1 : Int32))) + (f_X8_echo S x1 (2 : Int32))) + (f_X8_echo S x1 (3 : Int32))))) (mW X.E ad S)))))) : At X 2 (mW X.E ad S) 0 [(0, .ref (ad 0)), (1, .int x1)] [] := by
  refine at_iconst C dX8_viewOf_0 (v := 1) rfl ?_
  refine at_aload_n C dX8_viewOf_1 rfl (j := 0) rfl ?_
  refine at_iload_n C dX8_viewOf_2 rfl (j := 1) rfl ?_
  refine at_iconst C dX8_viewOf_3 (v := 0) rfl ?_
  refine at_cV1 C 2 (c_X8_echo X.l X.D X.E X.a1 X.a2 ad S x1 (0 : Int32) h.1) gX8_viewOf_X8_echo rfl (by decide +kernel) ⟨rfl, rfl⟩ rfl rfl rfl 0 mW_c0 rfl dX8_viewOf_4 ?_
  replace h := h.2
  refine at_iadd C dX8_viewOf_7 ?_
  refine at_aload_n C dX8_viewOf_8 rfl (j := 0) rfl ?_
  refine at_iload_n C dX8_viewOf_9 rfl (j := 1) rfl ?_
  refine at_iconst C dX8_viewOf_10 (v := 1) rfl ?_
  refine at_cV1 C 2 (c_X8_echo X.l X.D X.E X.a1 X.a2 ad S x1 (1 : Int32) h.1) gX8_viewOf_X8_echo rfl (by decide +kernel) ⟨rfl, rfl⟩ rfl rfl rfl 0 mW_c0 rfl dX8_viewOf_11 ?_
  replace h := h.2
  refine at_iadd C dX8_viewOf_14 ?_
  refine at_aload_n C dX8_viewOf_15 rfl (j := 0) rfl ?_
  refine at_iload_n C dX8_viewOf_16 rfl (j := 1) rfl ?_
  refine at_iconst C dX8_viewOf_17 (v := 2) rfl ?_
  refine at_cV1 C 2 (c_X8_echo X.l X.D X.E X.a1 X.a2 ad S x1 (2 : Int32) h.1) gX8_viewOf_X8_echo rfl (by decide +kernel) ⟨rfl, rfl⟩ rfl rfl rfl 0 mW_c0 rfl dX8_viewOf_18 ?_
  replace h := h.2
  refine at_iadd C dX8_viewOf_21 ?_
  refine at_aload_n C dX8_viewOf_22 rfl (j := 0) rfl ?_
  refine at_iload_n C dX8_viewOf_23 rfl (j := 1) rfl ?_
  refine at_iconst C dX8_viewOf_24 (v := 3) rfl ?_
  refine at_cV1 C 2 (c_X8_echo X.l X.D X.E X.a1 X.a2 ad S x1 (3 : Int32) h.1) gX8_viewOf_X8_echo rfl (by decide +kernel) ⟨rfl, rfl⟩ rfl rfl rfl 0 mW_c0 rfl dX8_viewOf_25 ?_
  replace h := h.2
  refine at_iadd C dX8_viewOf_28 ?_
  exact at_iret C dX8_viewOf_29 h
def f_X8_viewOf (S : MS) (x1 : Int32) : Int32 := (((1 + (f_X8_echo S x1 (0 : Int32))) + (f_X8_echo S x1 (1 : Int32))) + (f_X8_echo S x1 (2 : Int32))) + (f_X8_echo S x1 (3 : Int32))
def p_X8_viewOf (S : MS) (x1 : Int32) : Prop := (p_X8_echo x1 (0 : Int32)) ∧ (p_X8_echo x1 (1 : Int32)) ∧ (p_X8_echo x1 (2 : Int32)) ∧ (p_X8_echo x1 (3 : Int32))
set_option maxRecDepth 100000 in
theorem c_X8_viewOf (l : Launch) (D : va_G) (E : Nat → ClassId) (a1 a2 : Nat) (ad : Nat → Nat) (S : MS) (x1 : Int32) (hp : p_X8_viewOf S x1) : Fn l D E a1 a2 yX8_viewOf wsX8_viewOf 3 73 [.ref (ad 0), .int x1] (mW E ad S) (some (.int (f_X8_viewOf S x1))) (mW E ad S) := by
  refine Fn.of (cc := cX8_viewOf) (maxL := 2) (ret := (some .int)) (own := RX8) (by decide) rfl rfl rfl (Nat.le_of_ble_eq_true rfl) (fun X h1 h2 h3 h4 h5 C hE => ?_)
  subst h1 h2 h3 h4 h5
  refine r_X8_viewOf_0 C ad S x1 ?_
  refine ⟨hp.1, ?_⟩
  refine ⟨hp.2.1, ?_⟩
  refine ⟨hp.2.2.1, ?_⟩
  refine ⟨hp.2.2.2, ?_⟩
  simp only [f_X8_viewOf] at hE
  exact hE
set_option maxRecDepth 20000 in
theorem ggX8_stepsTo_X8_beside : GoodIn wsX8_stepsTo wsX8_beside := goodIn_r _ [5, 6, 7, 8, 9, 4, 10, 11, 12, 13, 14, 15, 16, 17, 18, 19, 20, 21, 22, 23, 24, 25, 26, 27, 28] (by decide +kernel) (by decide +kernel)
set_option maxRecDepth 20000 in
theorem gX8_stepsTo_X8_beside : GoodIn wsX8_stepsTo (wsV RX8 241 RX8 yX8_beside wsX8_beside) := goodIn_app (goodIn_of _ (by decide +kernel)) ggX8_stepsTo_X8_beside
theorem dX8_stepsTo_0 : decode cX8_stepsTo 0 = .ok (.iload_n 1, 1) := by decide +kernel
theorem dX8_stepsTo_1 : decode cX8_stepsTo 1 = .ok (.iload_n 2, 1) := by decide +kernel
theorem dX8_stepsTo_2 : decode cX8_stepsTo 2 = .ok (.if_icmp .ne 7, 3) := by decide +kernel
theorem dX8_stepsTo_5 : decode cX8_stepsTo 5 = .ok (.iconst 0, 1) := by decide +kernel
theorem dX8_stepsTo_6 : decode cX8_stepsTo 6 = .ok (.goto 4, 3) := by decide +kernel
theorem dX8_stepsTo_9 : decode cX8_stepsTo 9 = .ok (.iconst (-1), 1) := by decide +kernel
theorem dX8_stepsTo_10 : decode cX8_stepsTo 10 = .ok (.istore_n 3, 1) := by decide +kernel
theorem dX8_stepsTo_11 : decode cX8_stepsTo 11 = .ok (.iconst 0, 1) := by decide +kernel
theorem dX8_stepsTo_12 : decode cX8_stepsTo 12 = .ok (.istore 4, 2) := by decide +kernel
theorem dX8_stepsTo_14 : decode cX8_stepsTo 14 = .ok (.iload 4, 2) := by decide +kernel
theorem dX8_stepsTo_16 : decode cX8_stepsTo 16 = .ok (.iconst 4, 1) := by decide +kernel
theorem dX8_stepsTo_17 : decode cX8_stepsTo 17 = .ok (.if_icmp .ge 50, 3) := by decide +kernel
theorem dX8_stepsTo_20 : decode cX8_stepsTo 20 = .ok (.iload_n 1, 1) := by decide +kernel
theorem dX8_stepsTo_21 : decode cX8_stepsTo 21 = .ok (.istore 5, 2) := by decide +kernel
theorem dX8_stepsTo_23 : decode cX8_stepsTo 23 = .ok (.iconst 0, 1) := by decide +kernel
theorem dX8_stepsTo_24 : decode cX8_stepsTo 24 = .ok (.istore 6, 2) := by decide +kernel
theorem dX8_stepsTo_26 : decode cX8_stepsTo 26 = .ok (.iload 5, 2) := by decide +kernel
theorem dX8_stepsTo_28 : decode cX8_stepsTo 28 = .ok (.iconst (-1), 1) := by decide +kernel
theorem dX8_stepsTo_29 : decode cX8_stepsTo 29 = .ok (.if_icmp .eq 32, 3) := by decide +kernel
theorem dX8_stepsTo_32 : decode cX8_stepsTo 32 = .ok (.iload 5, 2) := by decide +kernel
theorem dX8_stepsTo_34 : decode cX8_stepsTo 34 = .ok (.iload_n 2, 1) := by decide +kernel
theorem dX8_stepsTo_35 : decode cX8_stepsTo 35 = .ok (.if_icmp .ne 8, 3) := by decide +kernel
theorem dX8_stepsTo_38 : decode cX8_stepsTo 38 = .ok (.iload 6, 2) := by decide +kernel
theorem dX8_stepsTo_40 : decode cX8_stepsTo 40 = .ok (.goto 4, 3) := by decide +kernel
theorem dX8_stepsTo_43 : decode cX8_stepsTo 43 = .ok (.iload_n 3, 1) := by decide +kernel
theorem dX8_stepsTo_44 : decode cX8_stepsTo 44 = .ok (.istore_n 3, 1) := by decide +kernel
theorem dX8_stepsTo_45 : decode cX8_stepsTo 45 = .ok (.aload_n 0, 1) := by decide +kernel
theorem dX8_stepsTo_46 : decode cX8_stepsTo 46 = .ok (.iload 5, 2) := by decide +kernel
theorem dX8_stepsTo_48 : decode cX8_stepsTo 48 = .ok (.iload 4, 2) := by decide +kernel
theorem dX8_stepsTo_50 : decode cX8_stepsTo 50 = .ok (.invokevirtual 241, 3) := by decide +kernel
theorem dX8_stepsTo_53 : decode cX8_stepsTo 53 = .ok (.istore 5, 2) := by decide +kernel
theorem dX8_stepsTo_55 : decode cX8_stepsTo 55 = .ok (.iinc 6 1, 3) := by decide +kernel
theorem dX8_stepsTo_58 : decode cX8_stepsTo 58 = .ok (.goto (-32), 3) := by decide +kernel
theorem dX8_stepsTo_61 : decode cX8_stepsTo 61 = .ok (.iinc 4 1, 3) := by decide +kernel
theorem dX8_stepsTo_64 : decode cX8_stepsTo 64 = .ok (.goto (-50), 3) := by decide +kernel
theorem dX8_stepsTo_67 : decode cX8_stepsTo 67 = .ok (.iload_n 3, 1) := by decide +kernel
theorem dX8_stepsTo_68 : decode cX8_stepsTo 68 = .ok (.ireturn, 1) := by decide +kernel
set_option maxRecDepth 100000 in
theorem r_X8_stepsTo_0 {X : Bn} (C : Cx X cX8_stepsTo 7 RX8 wsX8_stepsTo 2 49) (ad : Nat → Nat) (S : MS) (x1 : Int32) (x2 : Int32) (h : At X 7 (mW X.E ad S) 14 [(0, .ref (ad 0)), (1, .int x1), (2, .int x2), (3, .int (if x1 = x2 then 0 else (-1))), (4, .int 0)] []) : At X 7 (mW X.E ad S) 0 [(0, .ref (ad 0)), (1, .int x1), (2, .int x2)] [] := by
  refine at_iload_n C dX8_stepsTo_0 rfl (j := 1) rfl ?_
  refine at_iload_n C dX8_stepsTo_1 rfl (j := 2) rfl ?_
  have K : At X 7 (mW X.E ad S) 10 [(0, .ref (ad 0)), (1, .int x1), (2, .int x2)] [.int (if x1 = x2 then 0 else (-1))] := by
    refine at_istore_n C dX8_stepsTo_10 rfl (by decide) (lv' := [(3, .int (if x1 = x2 then 0 else (-1))), (0, .ref (ad 0)), (1, .int x1), (2, .int x2)]) rfl ?_
    refine at_iconst C dX8_stepsTo_11 (v := 0) rfl ?_
    refine at_istore C dX8_stepsTo_12 (by decide) (lv' := [(4, .int 0), (3, .int (if x1 = x2 then 0 else (-1))), (0, .ref (ad 0)), (1, .int x1), (2, .int x2)]) rfl ?_
    refine at_lv [2, 3, 4, 1, 0] rfl ?_
    exact h
  refine at_icmp_ne C dX8_stepsTo_2 (tgt := 9) (by decide) (fun hc0 => ?_) (fun hc0 => ?_)
  · skip
    refine at_iconst C dX8_stepsTo_9 (v := (-1)) rfl ?_
    first | (simp only [if_neg hc0] at K; exact K) | exact K
  · skip
    refine at_iconst C dX8_stepsTo_5 (v := 0) rfl ?_
    refine at_goto C dX8_stepsTo_6 (tgt := 10) (by decide) ?_
    first | (simp only [if_pos hc0] at K; exact K) | exact K
set_option maxRecDepth 100000 in
theorem r_X8_stepsTo_14 {X : Bn} (C : Cx X cX8_stepsTo 7 RX8 wsX8_stepsTo 2 49) (ad : Nat → Nat) (S : MS) (x1 : Int32) (x2 : Int32) (x3 : Int32) (x4 : Int32) (h : ((4 ≤ x4) → (Ends X (some .int) (some (.int x3)) (mW X.E ad S))) ∧ (¬ 4 ≤ x4 → (At X 7 (mW X.E ad S) 26 [(0, .ref (ad 0)), (1, .int x1), (2, .int x2), (3, .int x3), (4, .int x4), (5, .int x1), (6, .int 0)] []))) : At X 7 (mW X.E ad S) 14 [(0, .ref (ad 0)), (1, .int x1), (2, .int x2), (3, .int x3), (4, .int x4)] [] := by
  refine at_iload C dX8_stepsTo_14 (j := 4) rfl ?_
  refine at_iconst C dX8_stepsTo_16 (v := 4) rfl ?_
  refine at_icmp_ge C dX8_stepsTo_17 (tgt := 67) (by decide) (fun hc0 => ?_) (fun hc0 => ?_)
  · replace h := h.1 hc0
    refine at_iload_n C dX8_stepsTo_67 rfl (j := 3) rfl ?_
    exact at_iret C dX8_stepsTo_68 h
  · replace h := h.2 hc0
    refine at_iload_n C dX8_stepsTo_20 rfl (j := 1) rfl ?_
    refine at_istore C dX8_stepsTo_21 (by decide) (lv' := [(5, .int x1), (0, .ref (ad 0)), (1, .int x1), (2, .int x2), (3, .int x3), (4, .int x4)]) rfl ?_
    refine at_iconst C dX8_stepsTo_23 (v := 0) rfl ?_
    refine at_istore C dX8_stepsTo_24 (by decide) (lv' := [(6, .int 0), (5, .int x1), (0, .ref (ad 0)), (1, .int x1), (2, .int x2), (3, .int x3), (4, .int x4)]) rfl ?_
    refine at_lv [2, 3, 4, 5, 6, 1, 0] rfl ?_
    exact h
set_option maxRecDepth 100000 in
theorem r_X8_stepsTo_26 {X : Bn} (C : Cx X cX8_stepsTo 7 RX8 wsX8_stepsTo 2 49) (ad : Nat → Nat) (S : MS) (x1 : Int32) (x2 : Int32) (x3 : Int32) (x4 : Int32) (x5 : Int32) (x6 : Int32) (h : ((x5 = (-1)) → (At X 7 (mW X.E ad S) 14 [(0, .ref (ad 0)), (1, .int x1), (2, .int x2), (3, .int x3), (4, .int (x4 + 1))] [])) ∧ (¬ x5 = (-1) → ((p_X8_beside S x5 x4) ∧ (At X 7 (mW X.E ad S) 26 [(0, .ref (ad 0)), (1, .int x1), (2, .int x2), (3, .int (if x5 = x2 then x6 else x3)), (4, .int x4), (5, .int (f_X8_beside S x5 x4)), (6, .int (x6 + 1))] [])))) : At X 7 (mW X.E ad S) 26 [(0, .ref (ad 0)), (1, .int x1), (2, .int x2), (3, .int x3), (4, .int x4), (5, .int x5), (6, .int x6)] [] := by
  refine at_iload C dX8_stepsTo_26 (j := 5) rfl ?_
  refine at_iconst C dX8_stepsTo_28 (v := (-1)) rfl ?_
  refine at_icmp_eq C dX8_stepsTo_29 (tgt := 61) (by decide) (fun hc1 => ?_) (fun hc1 => ?_)
  · replace h := h.1 hc1
    refine at_iinc C dX8_stepsTo_61 (j := 4) (v := x4 + 1) rfl rfl (by decide) (lv' := [(4, .int (x4 + 1)), (0, .ref (ad 0)), (1, .int x1), (2, .int x2), (3, .int x3), (5, .int x5), (6, .int x6)]) rfl ?_
    refine at_goto C dX8_stepsTo_64 (tgt := 14) (by decide) ?_
    refine at_lv [1, 2, 3, 4, 0] rfl ?_
    exact h
  · replace h := h.2 hc1
    refine at_iload C dX8_stepsTo_32 (j := 5) rfl ?_
    refine at_iload_n C dX8_stepsTo_34 rfl (j := 2) rfl ?_
    have K : At X 7 (mW X.E ad S) 44 [(0, .ref (ad 0)), (1, .int x1), (2, .int x2), (4, .int x4), (5, .int x5), (6, .int x6)] [.int (if x5 = x2 then x6 else x3)] := by
      refine at_istore_n C dX8_stepsTo_44 rfl (by decide) (lv' := [(3, .int (if x5 = x2 then x6 else x3)), (0, .ref (ad 0)), (1, .int x1), (2, .int x2), (4, .int x4), (5, .int x5), (6, .int x6)]) rfl ?_
      refine at_aload_n C dX8_stepsTo_45 rfl (j := 1) rfl ?_
      refine at_iload C dX8_stepsTo_46 (j := 5) rfl ?_
      refine at_iload C dX8_stepsTo_48 (j := 4) rfl ?_
      refine at_cV1 C 2 (c_X8_beside X.l X.D X.E X.a1 X.a2 ad S x5 x4 h.1) gX8_stepsTo_X8_beside rfl (by decide +kernel) ⟨rfl, rfl⟩ rfl rfl rfl 0 mW_c0 rfl dX8_stepsTo_50 ?_
      replace h := h.2
      refine at_istore C dX8_stepsTo_53 (by decide) (lv' := [(5, .int (f_X8_beside S x5 x4)), (3, .int (if x5 = x2 then x6 else x3)), (0, .ref (ad 0)), (1, .int x1), (2, .int x2), (4, .int x4), (6, .int x6)]) rfl ?_
      refine at_iinc C dX8_stepsTo_55 (j := 6) (v := x6 + 1) rfl rfl (by decide) (lv' := [(6, .int (x6 + 1)), (5, .int (f_X8_beside S x5 x4)), (3, .int (if x5 = x2 then x6 else x3)), (0, .ref (ad 0)), (1, .int x1), (2, .int x2), (4, .int x4)]) rfl ?_
      refine at_goto C dX8_stepsTo_58 (tgt := 26) (by decide) ?_
      refine at_lv [3, 4, 5, 2, 6, 1, 0] rfl ?_
      exact h
    refine at_icmp_ne C dX8_stepsTo_35 (tgt := 43) (by decide) (fun hc2 => ?_) (fun hc2 => ?_)
    · skip
      refine at_iload_n C dX8_stepsTo_43 rfl (j := 3) rfl ?_
      refine at_lv [0, 1, 2, 4, 5, 6] rfl ?_
      first | (simp only [if_neg hc2] at K; exact K) | exact K
    · skip
      refine at_iload C dX8_stepsTo_38 (j := 6) rfl ?_
      refine at_goto C dX8_stepsTo_40 (tgt := 44) (by decide) ?_
      refine at_lv [0, 1, 2, 4, 5, 6] rfl ?_
      first | (simp only [if_pos hc2] at K; exact K) | exact K
/-- along a way from c: at which step the cell d is met, the last one counts -/
def stF (fr : Nat → Bool) (way d : Nat) : Nat → Option Nat → Nat → Int32 → Int32
  | 0, _, _, b => b
  | _ + 1, none, _, b => b
  | k + 1, some c, n, b => stF fr way d k (besN fr c way) (n + 1) (if c = d then nI n else b)
def stepsN (fr : Nat → Bool) (c d : Nat) : Int32 := itF (fun way b => stF fr way d 9 (some c) 0 b) 0 4 (if c = d then 0 else -1)
def f_X8_stepsTo (S : MS) (x1 x2 : Int32) : Int32 := stepsN (frS S) x1.toNatClampNeg x2.toNatClampNeg
def p_X8_stepsTo (x1 x2 : Int32) : Prop := ∃ c d, c < 64 ∧ d < 64 ∧ x1 = nI c ∧ x2 = nI d
set_option maxRecDepth 100000 in
theorem c_X8_stepsTo (l : Launch) (D : va_G) (E : Nat → ClassId) (a1 a2 : Nat) (ad : Nat → Nat) (S : MS) (x1 x2 : Int32) (hp : p_X8_stepsTo x1 x2) : Fn l D E a1 a2 yX8_stepsTo wsX8_stepsTo 2 49 [.ref (ad 0), .int x1, .int x2] (mW E ad S) (some (.int (f_X8_stepsTo S x1 x2))) (mW E ad S) := by
  refine Fn.of (cc := cX8_stepsTo) (maxL := 7) (ret := (some .int)) (own := RX8) (by decide) rfl rfl (sameM _ _ _ _) (Nat.le_of_ble_eq_true rfl) (fun X h1 h2 h3 h4 h5 C hE => ?_)
  subst h1 h2 h3 h4 h5
  obtain ⟨c, d, hc, hd, rfl, rfl⟩ := hp
  rw [f_X8_stepsTo, nI_clamp (show c < 2 ^ 31 by omega), nI_clamp (show d < 2 ^ 31 by omega)] at hE
  refine r_X8_stepsTo_0 C ad S (nI c) (nI d) ?_
  rw [if_dec_congr (nI_eq (a := c) (b := d) (by omega) (by omega))]
  refine for_go (P := fun way b => At X 7 (mW X.E ad S) 14 [(0, .ref (ad 0)), (1, .int (nI c)), (2, .int (nI d)), (3, .int b), (4, .int (nI way))] []) (N := 4) (fun way b => stF (frS S) way d 9 (some c) 0 b) (fun way b hw h => ?_) 4 0 _ rfl ?_
  · refine r_X8_stepsTo_14 C ad S (nI c) (nI d) b (nI way) ⟨fun q => nlt_no (by decide) hw q, fun _ => ?_⟩
    have key : ∀ (k : Nat) (o : Option Nat) (n : Nat) (b : Int32), (∀ e, o = some e → e < 64 ∧ roomW e way + 1 < k) → 0 < k → At X 7 (mW X.E ad S) 14 [(0, .ref (ad 0)), (1, .int (nI c)), (2, .int (nI d)), (3, .int (stF (frS S) way d k o n b)), (4, .int (nI (way + 1)))] [] → At X 7 (mW X.E ad S) 26 [(0, .ref (ad 0)), (1, .int (nI c)), (2, .int (nI d)), (3, .int b), (4, .int (nI way)), (5, .int (optI o)), (6, .int (nI n))] [] := by
      intro k
      induction k with
      | zero => intro o n b _ h0; exact absurd h0 (Nat.lt_irrefl 0)
      | succ k ih =>
        intro o n b ho _ hk
        cases o with
        | none => exact r_X8_stepsTo_26 C ad S (nI c) (nI d) b (nI way) (-1) (nI n) ⟨fun _ => by rw [nI_1]; exact hk, fun z => absurd rfl z⟩
        | some e =>
          obtain ⟨h1, h2⟩ := ho e rfl
          obtain ⟨b1, b2⟩ := bes_eq (S := S) h1 hw
          refine r_X8_stepsTo_26 C ad S (nI c) (nI d) b (nI way) (nI e) (nI n) ⟨fun z => absurd z (nm1 (by omega)), fun _ => ⟨b2, ?_⟩⟩
          rw [b1, nI_1 n, if_dec_congr (nI_eq (a := e) (b := d) (by omega) (by omega))]
          refine ih _ (n + 1) _ (fun e' he' => ?_) (by omega) hk
          obtain ⟨q1, q2, q3⟩ := bes_some h1 he'
          exact ⟨q1, by omega⟩
    refine key 9 (some c) 0 b (fun e he => ?_) (by decide) h
    cases he
    have := roomW_le (way := way) hc
    exact ⟨hc, by omega⟩
  · exact r_X8_stepsTo_14 C ad S (nI c) (nI d) _ (nI 4) ⟨fun _ => hE, fun q => nle_no q⟩
