set_option maxRecDepth 20000 in
theorem ggX8_meetOf_X8_turned : GoodIn wsX8_meetOf wsX8_turned := goodIn_r _ [5, 6, 7, 4, 8, 9, 10, 11] (by decide +kernel) (by decide +kernel)
set_option maxRecDepth 20000 in
theorem gX8_meetOf_X8_turned : GoodIn wsX8_meetOf (va_wsS RX8 132 yX8_turned wsX8_turned) := goodIn_app (goodIn_of _ (by decide +kernel)) ggX8_meetOf_X8_turned
set_option maxRecDepth 20000 in
theorem ggX8_meetOf_X8_canStand : GoodIn wsX8_meetOf wsX8_canStand := goodIn_r _ [15, 16, 9, 10, 4, 11, 17, 18, 19, 30, 31, 32, 33, 34, 35, 36, 37, 38, 39, 40, 41, 42, 43, 44, 45, 46, 47] (by decide +kernel) (by decide +kernel)
set_option maxRecDepth 20000 in
theorem gX8_meetOf_X8_canStand : GoodIn wsX8_meetOf (wsV RX8 192 RX8 yX8_canStand wsX8_canStand) := goodIn_app (goodIn_of _ (by decide +kernel)) ggX8_meetOf_X8_canStand
set_option maxRecDepth 20000 in
theorem ggX8_meetOf_X8_covers : GoodIn wsX8_meetOf wsX8_covers := goodIn_r _ [22, 23, 24, 4, 25, 26, 27, 28, 29, 9, 10, 11, 17, 18, 19] (by decide +kernel) (by decide +kernel)
set_option maxRecDepth 20000 in
theorem gX8_meetOf_X8_covers : GoodIn wsX8_meetOf (va_wsS RX8 215 yX8_covers wsX8_covers) := goodIn_app (goodIn_of _ (by decide +kernel)) ggX8_meetOf_X8_covers
theorem dX8_meetOf_0 : decode cX8_meetOf 0 = .ok (.aload_n 0, 1) := by decide +kernel
theorem dX8_meetOf_1 : decode cX8_meetOf 1 = .ok (.getfield 28, 3) := by decide +kernel
theorem dX8_meetOf_4 : decode cX8_meetOf 4 = .ok (.iload_n 1, 1) := by decide +kernel
theorem dX8_meetOf_5 : decode cX8_meetOf 5 = .ok (.iaload, 1) := by decide +kernel
theorem dX8_meetOf_6 : decode cX8_meetOf 6 = .ok (.iload_n 2, 1) := by decide +kernel
theorem dX8_meetOf_7 : decode cX8_meetOf 7 = .ok (.invokestatic 132, 3) := by decide +kernel
theorem dX8_meetOf_10 : decode cX8_meetOf 10 = .ok (.istore 7, 2) := by decide +kernel
theorem dX8_meetOf_12 : decode cX8_meetOf 12 = .ok (.aload_n 0, 1) := by decide +kernel
theorem dX8_meetOf_13 : decode cX8_meetOf 13 = .ok (.getfield 28, 3) := by decide +kernel
theorem dX8_meetOf_16 : decode cX8_meetOf 16 = .ok (.iload 4, 2) := by decide +kernel
theorem dX8_meetOf_18 : decode cX8_meetOf 18 = .ok (.iaload, 1) := by decide +kernel
theorem dX8_meetOf_19 : decode cX8_meetOf 19 = .ok (.iload 5, 2) := by decide +kernel
theorem dX8_meetOf_21 : decode cX8_meetOf 21 = .ok (.invokestatic 132, 3) := by decide +kernel
theorem dX8_meetOf_24 : decode cX8_meetOf 24 = .ok (.istore 8, 2) := by decide +kernel
theorem dX8_meetOf_26 : decode cX8_meetOf 26 = .ok (.aload_n 0, 1) := by decide +kernel
theorem dX8_meetOf_27 : decode cX8_meetOf 27 = .ok (.iload 7, 2) := by decide +kernel
theorem dX8_meetOf_29 : decode cX8_meetOf 29 = .ok (.iload_n 3, 1) := by decide +kernel
theorem dX8_meetOf_30 : decode cX8_meetOf 30 = .ok (.invokevirtual 192, 3) := by decide +kernel
theorem dX8_meetOf_33 : decode cX8_meetOf 33 = .ok (.ifCond .eq 18, 3) := by decide +kernel
theorem dX8_meetOf_36 : decode cX8_meetOf 36 = .ok (.aload_n 0, 1) := by decide +kernel
theorem dX8_meetOf_37 : decode cX8_meetOf 37 = .ok (.iload 8, 2) := by decide +kernel
theorem dX8_meetOf_39 : decode cX8_meetOf 39 = .ok (.iload 6, 2) := by decide +kernel
theorem dX8_meetOf_41 : decode cX8_meetOf 41 = .ok (.invokevirtual 192, 3) := by decide +kernel
theorem dX8_meetOf_44 : decode cX8_meetOf 44 = .ok (.ifCond .eq 7, 3) := by decide +kernel
theorem dX8_meetOf_47 : decode cX8_meetOf 47 = .ok (.iconst 1, 1) := by decide +kernel
theorem dX8_meetOf_48 : decode cX8_meetOf 48 = .ok (.goto 4, 3) := by decide +kernel
theorem dX8_meetOf_51 : decode cX8_meetOf 51 = .ok (.iconst 0, 1) := by decide +kernel
theorem dX8_meetOf_52 : decode cX8_meetOf 52 = .ok (.istore 9, 2) := by decide +kernel
theorem dX8_meetOf_54 : decode cX8_meetOf 54 = .ok (.iconst 0, 1) := by decide +kernel
theorem dX8_meetOf_55 : decode cX8_meetOf 55 = .ok (.istore 10, 2) := by decide +kernel
theorem dX8_meetOf_57 : decode cX8_meetOf 57 = .ok (.iload 10, 2) := by decide +kernel
theorem dX8_meetOf_59 : decode cX8_meetOf 59 = .ok (.bipush 64, 2) := by decide +kernel
theorem dX8_meetOf_61 : decode cX8_meetOf 61 = .ok (.if_icmp .ge 44, 3) := by decide +kernel
theorem dX8_meetOf_64 : decode cX8_meetOf 64 = .ok (.iload 9, 2) := by decide +kernel
theorem dX8_meetOf_66 : decode cX8_meetOf 66 = .ok (.ifCond .eq 30, 3) := by decide +kernel
theorem dX8_meetOf_69 : decode cX8_meetOf 69 = .ok (.iload 7, 2) := by decide +kernel
theorem dX8_meetOf_71 : decode cX8_meetOf 71 = .ok (.iload_n 3, 1) := by decide +kernel
theorem dX8_meetOf_72 : decode cX8_meetOf 72 = .ok (.iload 10, 2) := by decide +kernel
theorem dX8_meetOf_74 : decode cX8_meetOf 74 = .ok (.invokestatic 215, 3) := by decide +kernel
theorem dX8_meetOf_77 : decode cX8_meetOf 77 = .ok (.ifCond .eq 15, 3) := by decide +kernel
theorem dX8_meetOf_80 : decode cX8_meetOf 80 = .ok (.iload 8, 2) := by decide +kernel
theorem dX8_meetOf_82 : decode cX8_meetOf 82 = .ok (.iload 6, 2) := by decide +kernel
theorem dX8_meetOf_84 : decode cX8_meetOf 84 = .ok (.iload 10, 2) := by decide +kernel
theorem dX8_meetOf_86 : decode cX8_meetOf 86 = .ok (.invokestatic 215, 3) := by decide +kernel
theorem dX8_meetOf_89 : decode cX8_meetOf 89 = .ok (.ifCond .ne 7, 3) := by decide +kernel
theorem dX8_meetOf_92 : decode cX8_meetOf 92 = .ok (.iconst 1, 1) := by decide +kernel
theorem dX8_meetOf_93 : decode cX8_meetOf 93 = .ok (.goto 4, 3) := by decide +kernel
theorem dX8_meetOf_96 : decode cX8_meetOf 96 = .ok (.iconst 0, 1) := by decide +kernel
theorem dX8_meetOf_97 : decode cX8_meetOf 97 = .ok (.istore 9, 2) := by decide +kernel
theorem dX8_meetOf_99 : decode cX8_meetOf 99 = .ok (.iinc 10 1, 3) := by decide +kernel
theorem dX8_meetOf_102 : decode cX8_meetOf 102 = .ok (.goto (-45), 3) := by decide +kernel
theorem dX8_meetOf_105 : decode cX8_meetOf 105 = .ok (.iload 9, 2) := by decide +kernel
theorem dX8_meetOf_107 : decode cX8_meetOf 107 = .ok (.ifCond .eq 7, 3) := by decide +kernel
theorem dX8_meetOf_110 : decode cX8_meetOf 110 = .ok (.iconst 1, 1) := by decide +kernel
theorem dX8_meetOf_111 : decode cX8_meetOf 111 = .ok (.goto 4, 3) := by decide +kernel
theorem dX8_meetOf_114 : decode cX8_meetOf 114 = .ok (.iconst 0, 1) := by decide +kernel
theorem dX8_meetOf_115 : decode cX8_meetOf 115 = .ok (.ireturn, 1) := by decide +kernel
theorem iw_X8_meetOf_X8 : ∀ w ∈ u_ws RX8 TX8 18, w ∈ wsX8_meetOf := by decide +kernel
theorem lk_X8_meetOf_0 : Cond.fieldLink RX8 28 (TX8 9).1 (TX8 9).2.1 (TX8 9).2.2.1 ∈ wsX8_meetOf := by decide +kernel
set_option maxRecDepth 100000 in
theorem r_X8_meetOf_0 {X : Bn} (C : Cx X cX8_meetOf 11 RX8 wsX8_meetOf 3 69) (ad : Nat → Nat) (S : MS) (x1 : Int32) (x2 : Int32) (x3 : Int32) (x4 : Int32) (x5 : Int32) (x6 : Int32) (h : (vp_in x1 8) ∧ ((vp_in x4 8) ∧ ((p_X8_canStand x3) ∧ (((((f_X8_canStand S (f_X8_turned (S.1 9 x1.toNatClampNeg) x2) x3) = true) → (p_X8_canStand x6))) ∧ (At X 11 (mW X.E ad S) 57 [(3, .int x3), (6, .int x6), (7, .int (f_X8_turned (S.1 9 x1.toNatClampNeg) x2)), (8, .int (f_X8_turned (S.1 9 x4.toNatClampNeg) x5)), (9, .int (b2i (if (f_X8_canStand S (f_X8_turned (S.1 9 x1.toNatClampNeg) x2) x3) then (if (f_X8_canStand S (f_X8_turned (S.1 9 x4.toNatClampNeg) x5) x6) then true else false) else false))), (10, .int 0)] []))))) : At X 11 (mW X.E ad S) 0 [(0, .ref (ad 0)), (1, .int x1), (2, .int x2), (3, .int x3), (4, .int x4), (5, .int x5), (6, .int x6)] [] := by
  refine at_aload_n C dX8_meetOf_0 rfl (j := 0) rfl ?_
  refine at_get C (K := RX8) (T := TX8) (N := 18) (ci := 7) (v := .ref (ad 7)) iw_X8_meetOf_X8 0 mW_c0 rfl 9 (by decide) lk_X8_meetOf_0 rfl dX8_meetOf_1 ?_
  refine at_iload_n C dX8_meetOf_4 rfl (j := 1) rfl ?_
  refine at_iald C 7 mW_c7 h.1 dX8_meetOf_5 ?_
  replace h := h.2
  refine at_iload_n C dX8_meetOf_6 rfl (j := 2) rfl ?_
  refine at_cS0 C 2 (c_X8_turned X.l X.D X.E X.a1 X.a2 (S.1 9 x1.toNatClampNeg) x2) gX8_meetOf_X8_turned rfl (by decide +kernel) ⟨rfl, rfl⟩ rfl rfl rfl dX8_meetOf_7 ?_
  refine at_istore C dX8_meetOf_10 (by decide) (lv' := [(7, .int (f_X8_turned (S.1 9 x1.toNatClampNeg) x2)), (0, .ref (ad 0)), (1, .int x1), (2, .int x2), (3, .int x3), (4, .int x4), (5, .int x5), (6, .int x6)]) rfl ?_
  refine at_aload_n C dX8_meetOf_12 rfl (j := 1) rfl ?_
  refine at_get C (K := RX8) (T := TX8) (N := 18) (ci := 7) (v := .ref (ad 7)) iw_X8_meetOf_X8 0 mW_c0 rfl 9 (by decide) lk_X8_meetOf_0 rfl dX8_meetOf_13 ?_
  refine at_iload C dX8_meetOf_16 (j := 5) rfl ?_
  refine at_iald C 7 mW_c7 h.1 dX8_meetOf_18 ?_
  replace h := h.2
  refine at_iload C dX8_meetOf_19 (j := 6) rfl ?_
  refine at_cS0 C 2 (c_X8_turned X.l X.D X.E X.a1 X.a2 (S.1 9 x4.toNatClampNeg) x5) gX8_meetOf_X8_turned rfl (by decide +kernel) ⟨rfl, rfl⟩ rfl rfl rfl dX8_meetOf_21 ?_
  refine at_istore C dX8_meetOf_24 (by decide) (lv' := [(8, .int (f_X8_turned (S.1 9 x4.toNatClampNeg) x5)), (7, .int (f_X8_turned (S.1 9 x1.toNatClampNeg) x2)), (0, .ref (ad 0)), (1, .int x1), (2, .int x2), (3, .int x3), (4, .int x4), (5, .int x5), (6, .int x6)]) rfl ?_
  refine at_aload_n C dX8_meetOf_26 rfl (j := 2) rfl ?_
  refine at_iload C dX8_meetOf_27 (j := 1) rfl ?_
  refine at_iload_n C dX8_meetOf_29 rfl (j := 5) rfl ?_
  refine at_cV1 C 2 (c_X8_canStand X.l X.D X.E X.a1 X.a2 ad S (f_X8_turned (S.1 9 x1.toNatClampNeg) x2) x3 h.1) gX8_meetOf_X8_canStand rfl (by decide +kernel) ⟨rfl, rfl⟩ rfl rfl rfl 0 mW_c0 rfl dX8_meetOf_30 ?_
  replace h := h.2
  have hq := h.1
  replace h := h.2
  have K : At X 11 (mW X.E ad S) 52 [(3, .int x3), (6, .int x6), (7, .int (f_X8_turned (S.1 9 x1.toNatClampNeg) x2)), (8, .int (f_X8_turned (S.1 9 x4.toNatClampNeg) x5))] [.int (b2i (if (f_X8_canStand S (f_X8_turned (S.1 9 x1.toNatClampNeg) x2) x3) then (if (f_X8_canStand S (f_X8_turned (S.1 9 x4.toNatClampNeg) x5) x6) then true else false) else false))] := by
    refine at_istore C dX8_meetOf_52 (by decide) (lv' := [(9, .int (b2i (if (f_X8_canStand S (f_X8_turned (S.1 9 x1.toNatClampNeg) x2) x3) then (if (f_X8_canStand S (f_X8_turned (S.1 9 x4.toNatClampNeg) x5) x6) then true else false) else false))), (3, .int x3), (6, .int x6), (7, .int (f_X8_turned (S.1 9 x1.toNatClampNeg) x2)), (8, .int (f_X8_turned (S.1 9 x4.toNatClampNeg) x5))]) rfl ?_
    refine at_iconst C dX8_meetOf_54 (v := 0) rfl ?_
    refine at_istore C dX8_meetOf_55 (by decide) (lv' := [(10, .int 0), (9, .int (b2i (if (f_X8_canStand S (f_X8_turned (S.1 9 x1.toNatClampNeg) x2) x3) then (if (f_X8_canStand S (f_X8_turned (S.1 9 x4.toNatClampNeg) x5) x6) then true else false) else false))), (3, .int x3), (6, .int x6), (7, .int (f_X8_turned (S.1 9 x1.toNatClampNeg) x2)), (8, .int (f_X8_turned (S.1 9 x4.toNatClampNeg) x5))]) rfl ?_
    refine at_lv [2, 3, 4, 5, 1, 0] rfl ?_
    exact h
  replace h := hq
  refine at_ifB_eq C dX8_meetOf_33 (tgt := 51) (by decide) (fun hc0 => ?_) (fun hc0 => ?_)
  · skip
    refine at_iconst C dX8_meetOf_51 (v := 0) rfl ?_
    refine at_lv [5, 8, 1, 0] rfl ?_
    first | (simp only [if_neg (show ¬ (f_X8_canStand S (f_X8_turned (S.1 9 x1.toNatClampNeg) x2) x3) = true by rw [hc0]; decide)] at K; exact K) | exact K
  · replace h := h hc0
    refine at_aload_n C dX8_meetOf_36 rfl (j := 2) rfl ?_
    refine at_iload C dX8_meetOf_37 (j := 0) rfl ?_
    refine at_iload C dX8_meetOf_39 (j := 8) rfl ?_
    refine at_cV1 C 2 (c_X8_canStand X.l X.D X.E X.a1 X.a2 ad S (f_X8_turned (S.1 9 x4.toNatClampNeg) x5) x6 h) gX8_meetOf_X8_canStand rfl (by decide +kernel) ⟨rfl, rfl⟩ rfl rfl rfl 0 mW_c0 rfl dX8_meetOf_41 ?_
    refine at_ifB_eq C dX8_meetOf_44 (tgt := 51) (by decide) (fun hc1 => ?_) (fun hc1 => ?_)
    · skip
      refine at_iconst C dX8_meetOf_51 (v := 0) rfl ?_
      refine at_lv [5, 8, 1, 0] rfl ?_
      first | (simp only [if_pos hc0, if_neg (show ¬ (f_X8_canStand S (f_X8_turned (S.1 9 x4.toNatClampNeg) x5) x6) = true by rw [hc1]; decide)] at K; exact K) | exact K
    · skip
      refine at_iconst C dX8_meetOf_47 (v := 1) rfl ?_
      refine at_goto C dX8_meetOf_48 (tgt := 52) (by decide) ?_
      refine at_lv [5, 8, 1, 0] rfl ?_
      first | (simp only [if_pos hc0, if_pos hc1] at K; exact K) | exact K
set_option maxRecDepth 100000 in
theorem r_X8_meetOf_57 {X : Bn} (C : Cx X cX8_meetOf 11 RX8 wsX8_meetOf 3 69) (ad : Nat → Nat) (S : MS) (x3 : Int32) (x6 : Int32) (x7 : Int32) (x8 : Int32) (x9 : Int32) (x10 : Int32) (h : ((64 ≤ x10) → (Ends X (some .int) (some (.int (b2i (if x9 = 0 then false else true)))) (mW X.E ad S))) ∧ (¬ 64 ≤ x10 → (At X 11 (mW X.E ad S) 57 [(3, .int x3), (6, .int x6), (7, .int x7), (8, .int x8), (9, .int (b2i (if x9 = 0 then false else (if (f_X8_covers x7 x3 x10) then (if (f_X8_covers x8 x6 x10) then false else true) else true)))), (10, .int (x10 + 1))] []))) : At X 11 (mW X.E ad S) 57 [(3, .int x3), (6, .int x6), (7, .int x7), (8, .int x8), (9, .int x9), (10, .int x10)] [] := by
  refine at_iload C dX8_meetOf_57 (j := 5) rfl ?_
  refine at_bipush C dX8_meetOf_59 (v := 64) rfl ?_
  refine at_icmp_ge C dX8_meetOf_61 (tgt := 105) (by decide) (fun hc0 => ?_) (fun hc0 => ?_)
  · replace h := h.1 hc0
    refine at_iload C dX8_meetOf_105 (j := 4) rfl ?_
    have K : At X 11 (mW X.E ad S) 115 [] [.int (b2i (if x9 = 0 then false else true))] := by
      exact at_iret C dX8_meetOf_115 h
    refine at_if_eq C dX8_meetOf_107 (tgt := 114) (by decide) (fun hc1 => ?_) (fun hc1 => ?_)
    · skip
      refine at_iconst C dX8_meetOf_114 (v := 0) rfl ?_
      refine at_lv [] rfl ?_
      first | (simp only [if_pos hc1] at K; exact K) | exact K
    · skip
      refine at_iconst C dX8_meetOf_110 (v := 1) rfl ?_
      refine at_goto C dX8_meetOf_111 (tgt := 115) (by decide) ?_
      refine at_lv [] rfl ?_
      first | (simp only [if_neg hc1] at K; exact K) | exact K
  · replace h := h.2 hc0
    refine at_iload C dX8_meetOf_64 (j := 4) rfl ?_
    have K : At X 11 (mW X.E ad S) 97 [(3, .int x3), (6, .int x6), (7, .int x7), (8, .int x8), (10, .int x10)] [.int (b2i (if x9 = 0 then false else (if (f_X8_covers x7 x3 x10) then (if (f_X8_covers x8 x6 x10) then false else true) else true)))] := by
      refine at_istore C dX8_meetOf_97 (by decide) (lv' := [(9, .int (b2i (if x9 = 0 then false else (if (f_X8_covers x7 x3 x10) then (if (f_X8_covers x8 x6 x10) then false else true) else true)))), (3, .int x3), (6, .int x6), (7, .int x7), (8, .int x8), (10, .int x10)]) rfl ?_
      refine at_iinc C dX8_meetOf_99 (j := 5) (v := x10 + 1) rfl rfl (by decide) (lv' := [(10, .int (x10 + 1)), (9, .int (b2i (if x9 = 0 then false else (if (f_X8_covers x7 x3 x10) then (if (f_X8_covers x8 x6 x10) then false else true) else true)))), (3, .int x3), (6, .int x6), (7, .int x7), (8, .int x8)]) rfl ?_
      refine at_goto C dX8_meetOf_102 (tgt := 57) (by decide) ?_
      refine at_lv [2, 3, 4, 5, 1, 0] rfl ?_
      exact h
    refine at_if_eq C dX8_meetOf_66 (tgt := 96) (by decide) (fun hc1 => ?_) (fun hc1 => ?_)
    · skip
      refine at_iconst C dX8_meetOf_96 (v := 0) rfl ?_
      refine at_lv [0, 1, 2, 3, 5] rfl ?_
      first | (simp only [if_pos hc1] at K; exact K) | exact K
    · skip
      refine at_iload C dX8_meetOf_69 (j := 2) rfl ?_
      refine at_iload_n C dX8_meetOf_71 rfl (j := 0) rfl ?_
      refine at_iload C dX8_meetOf_72 (j := 5) rfl ?_
      refine at_cS0 C 3 (c_X8_covers X.l X.D X.E X.a1 X.a2 x7 x3 x10) gX8_meetOf_X8_covers rfl (by decide +kernel) ⟨rfl, rfl⟩ rfl rfl rfl dX8_meetOf_74 ?_
      refine at_ifB_eq C dX8_meetOf_77 (tgt := 92) (by decide) (fun hc2 => ?_) (fun hc2 => ?_)
      · skip
        refine at_iconst C dX8_meetOf_92 (v := 1) rfl ?_
        refine at_goto C dX8_meetOf_93 (tgt := 97) (by decide) ?_
        refine at_lv [0, 1, 2, 3, 5] rfl ?_
        first | (simp only [if_neg hc1, if_neg (show ¬ (f_X8_covers x7 x3 x10) = true by rw [hc2]; decide)] at K; exact K) | exact K
      · skip
        refine at_iload C dX8_meetOf_80 (j := 3) rfl ?_
        refine at_iload C dX8_meetOf_82 (j := 1) rfl ?_
        refine at_iload C dX8_meetOf_84 (j := 5) rfl ?_
        refine at_cS0 C 3 (c_X8_covers X.l X.D X.E X.a1 X.a2 x8 x6 x10) gX8_meetOf_X8_covers rfl (by decide +kernel) ⟨rfl, rfl⟩ rfl rfl rfl dX8_meetOf_86 ?_
        refine at_ifB_ne C dX8_meetOf_89 (tgt := 96) (by decide) (fun hc3 => ?_) (fun hc3 => ?_)
        · skip
          refine at_iconst C dX8_meetOf_96 (v := 0) rfl ?_
          refine at_lv [0, 1, 2, 3, 5] rfl ?_
          first | (simp only [if_neg hc1, if_pos hc2, if_pos hc3] at K; exact K) | exact K
        · skip
          refine at_iconst C dX8_meetOf_92 (v := 1) rfl ?_
          refine at_goto C dX8_meetOf_93 (tgt := 97) (by decide) ?_
          refine at_lv [0, 1, 2, 3, 5] rfl ?_
          first | (simp only [if_neg hc1, if_pos hc2, if_neg (show ¬ (f_X8_covers x8 x6 x10) = true by rw [hc3]; decide)] at K; exact K) | exact K
set_option maxRecDepth 20000 in
theorem ggX8_isFit_X8_turned : GoodIn wsX8_isFit wsX8_turned := goodIn_r _ [7, 8, 9, 6, 10, 11, 12, 13] (by decide +kernel) (by decide +kernel)
set_option maxRecDepth 20000 in
theorem gX8_isFit_X8_turned : GoodIn wsX8_isFit (va_wsS RX8 132 yX8_turned wsX8_turned) := goodIn_app (goodIn_of _ (by decide +kernel)) ggX8_isFit_X8_turned
set_option maxRecDepth 20000 in
theorem ggX8_isFit_X8_sightOf : GoodIn wsX8_isFit wsX8_sightOf := goodIn_r _ [16, 11, 12, 6, 13, 17, 18, 19] (by decide +kernel) (by decide +kernel)
set_option maxRecDepth 20000 in
theorem gX8_isFit_X8_sightOf : GoodIn wsX8_isFit (va_wsS RX8 156 yX8_sightOf wsX8_sightOf) := goodIn_app (goodIn_of _ (by decide +kernel)) ggX8_isFit_X8_sightOf
theorem dX8_isFit_0 : decode cX8_isFit 0 = .ok (.iconst 1, 1) := by decide +kernel
theorem dX8_isFit_1 : decode cX8_isFit 1 = .ok (.istore_n 3, 1) := by decide +kernel
theorem dX8_isFit_2 : decode cX8_isFit 2 = .ok (.iconst 0, 1) := by decide +kernel
theorem dX8_isFit_3 : decode cX8_isFit 3 = .ok (.istore 4, 2) := by decide +kernel
theorem dX8_isFit_5 : decode cX8_isFit 5 = .ok (.iload 4, 2) := by decide +kernel
theorem dX8_isFit_7 : decode cX8_isFit 7 = .ok (.aload_n 0, 1) := by decide +kernel
theorem dX8_isFit_8 : decode cX8_isFit 8 = .ok (.getfield 224, 3) := by decide +kernel
theorem dX8_isFit_11 : decode cX8_isFit 11 = .ok (.if_icmp .ge 55, 3) := by decide +kernel
theorem dX8_isFit_14 : decode cX8_isFit 14 = .ok (.iload_n 3, 1) := by decide +kernel
theorem dX8_isFit_15 : decode cX8_isFit 15 = .ok (.ifCond .eq 43, 3) := by decide +kernel
theorem dX8_isFit_18 : decode cX8_isFit 18 = .ok (.aload_n 0, 1) := by decide +kernel
theorem dX8_isFit_19 : decode cX8_isFit 19 = .ok (.getfield 28, 3) := by decide +kernel
theorem dX8_isFit_22 : decode cX8_isFit 22 = .ok (.iload_n 1, 1) := by decide +kernel
theorem dX8_isFit_23 : decode cX8_isFit 23 = .ok (.iaload, 1) := by decide +kernel
theorem dX8_isFit_24 : decode cX8_isFit 24 = .ok (.iload_n 2, 1) := by decide +kernel
theorem dX8_isFit_25 : decode cX8_isFit 25 = .ok (.invokestatic 132, 3) := by decide +kernel
theorem dX8_isFit_28 : decode cX8_isFit 28 = .ok (.aload_n 0, 1) := by decide +kernel
theorem dX8_isFit_29 : decode cX8_isFit 29 = .ok (.getfield 41, 3) := by decide +kernel
theorem dX8_isFit_32 : decode cX8_isFit 32 = .ok (.iconst 2, 1) := by decide +kernel
theorem dX8_isFit_33 : decode cX8_isFit 33 = .ok (.iload 4, 2) := by decide +kernel
theorem dX8_isFit_35 : decode cX8_isFit 35 = .ok (.imul, 1) := by decide +kernel
theorem dX8_isFit_36 : decode cX8_isFit 36 = .ok (.iaload, 1) := by decide +kernel
theorem dX8_isFit_37 : decode cX8_isFit 37 = .ok (.invokestatic 156, 3) := by decide +kernel
theorem dX8_isFit_40 : decode cX8_isFit 40 = .ok (.aload_n 0, 1) := by decide +kernel
theorem dX8_isFit_41 : decode cX8_isFit 41 = .ok (.getfield 41, 3) := by decide +kernel
theorem dX8_isFit_44 : decode cX8_isFit 44 = .ok (.iconst 2, 1) := by decide +kernel
theorem dX8_isFit_45 : decode cX8_isFit 45 = .ok (.iload 4, 2) := by decide +kernel
theorem dX8_isFit_47 : decode cX8_isFit 47 = .ok (.imul, 1) := by decide +kernel
theorem dX8_isFit_48 : decode cX8_isFit 48 = .ok (.iconst 1, 1) := by decide +kernel
theorem dX8_isFit_49 : decode cX8_isFit 49 = .ok (.iadd, 1) := by decide +kernel
theorem dX8_isFit_50 : decode cX8_isFit 50 = .ok (.iaload, 1) := by decide +kernel
theorem dX8_isFit_51 : decode cX8_isFit 51 = .ok (.if_icmp .ne 7, 3) := by decide +kernel
theorem dX8_isFit_54 : decode cX8_isFit 54 = .ok (.iconst 1, 1) := by decide +kernel
theorem dX8_isFit_55 : decode cX8_isFit 55 = .ok (.goto 4, 3) := by decide +kernel
theorem dX8_isFit_58 : decode cX8_isFit 58 = .ok (.iconst 0, 1) := by decide +kernel
theorem dX8_isFit_59 : decode cX8_isFit 59 = .ok (.istore_n 3, 1) := by decide +kernel
theorem dX8_isFit_60 : decode cX8_isFit 60 = .ok (.iinc 4 1, 3) := by decide +kernel
theorem dX8_isFit_63 : decode cX8_isFit 63 = .ok (.goto (-58), 3) := by decide +kernel
theorem dX8_isFit_66 : decode cX8_isFit 66 = .ok (.iload_n 3, 1) := by decide +kernel
theorem dX8_isFit_67 : decode cX8_isFit 67 = .ok (.ireturn, 1) := by decide +kernel
theorem iw_X8_isFit_X8 : ∀ w ∈ u_ws RX8 TX8 18, w ∈ wsX8_isFit := by decide +kernel
theorem lk_X8_isFit_0 : Cond.fieldLink RX8 224 (TX8 14).1 (TX8 14).2.1 (TX8 14).2.2.1 ∈ wsX8_isFit := by decide +kernel
theorem lk_X8_isFit_1 : Cond.fieldLink RX8 28 (TX8 9).1 (TX8 9).2.1 (TX8 9).2.2.1 ∈ wsX8_isFit := by decide +kernel
theorem lk_X8_isFit_2 : Cond.fieldLink RX8 41 (TX8 15).1 (TX8 15).2.1 (TX8 15).2.2.1 ∈ wsX8_isFit := by decide +kernel
set_option maxRecDepth 100000 in
theorem r_X8_isFit_0 {X : Bn} (C : Cx X cX8_isFit 5 RX8 wsX8_isFit 3 67) (ad : Nat → Nat) (S : MS) (x1 : Int32) (x2 : Int32) (h : At X 5 (mW X.E ad S) 5 [(0, .ref (ad 0)), (1, .int x1), (2, .int x2), (3, .int 1), (4, .int 0)] []) : At X 5 (mW X.E ad S) 0 [(0, .ref (ad 0)), (1, .int x1), (2, .int x2)] [] := by
  refine at_iconst C dX8_isFit_0 (v := 1) rfl ?_
  refine at_istore_n C dX8_isFit_1 rfl (by decide) (lv' := [(3, .int 1), (0, .ref (ad 0)), (1, .int x1), (2, .int x2)]) rfl ?_
  refine at_iconst C dX8_isFit_2 (v := 0) rfl ?_
  refine at_istore C dX8_isFit_3 (by decide) (lv' := [(4, .int 0), (3, .int 1), (0, .ref (ad 0)), (1, .int x1), (2, .int x2)]) rfl ?_
  refine at_lv [2, 3, 4, 1, 0] rfl ?_
  exact h
set_option maxRecDepth 100000 in
theorem r_X8_isFit_5 {X : Bn} (C : Cx X cX8_isFit 5 RX8 wsX8_isFit 3 67) (ad : Nat → Nat) (S : MS) (x1 : Int32) (x2 : Int32) (x3 : Int32) (x4 : Int32) (h : ((S.1 14 0 ≤ x4) → ((narrow .boolean (.int x3) = .int x3) ∧ (Ends X (some .boolean) (some (.int x3)) (mW X.E ad S)))) ∧ (¬ S.1 14 0 ≤ x4 → ((((¬ x3 = 0) → (vp_in x1 8) ∧ (vp_in (2 * x4) 16) ∧ (vp_in ((2 * x4) + 1) 16))) ∧ (At X 5 (mW X.E ad S) 5 [(0, .ref (ad 0)), (1, .int x1), (2, .int x2), (3, .int (b2i (if x3 = 0 then false else (if f_X8_sightOf (f_X8_turned (S.1 9 x1.toNatClampNeg) x2) (S.1 15 ((2 * x4).toNatClampNeg)) = S.1 15 (((2 * x4) + 1).toNatClampNeg) then true else false)))), (4, .int (x4 + 1))] [])))) : At X 5 (mW X.E ad S) 5 [(0, .ref (ad 0)), (1, .int x1), (2, .int x2), (3, .int x3), (4, .int x4)] [] := by
  refine at_iload C dX8_isFit_5 (j := 4) rfl ?_
  refine at_aload_n C dX8_isFit_7 rfl (j := 0) rfl ?_
  refine at_get C (K := RX8) (T := TX8) (N := 18) (ci := 7) (v := .int (S.1 14 0)) iw_X8_isFit_X8 0 mW_c0 rfl 14 (by decide) lk_X8_isFit_0 rfl dX8_isFit_8 ?_
  refine at_icmp_ge C dX8_isFit_11 (tgt := 66) (by decide) (fun hc0 => ?_) (fun hc0 => ?_)
  · replace h := h.1 hc0
    refine at_iload_n C dX8_isFit_66 rfl (j := 3) rfl ?_
    exact at_zret C dX8_isFit_67 h.1 h.2
  · replace h := h.2 hc0
    refine at_iload_n C dX8_isFit_14 rfl (j := 3) rfl ?_
    have hq := h.1
    replace h := h.2
    have K : At X 5 (mW X.E ad S) 59 [(0, .ref (ad 0)), (1, .int x1), (2, .int x2), (4, .int x4)] [.int (b2i (if x3 = 0 then false else (if f_X8_sightOf (f_X8_turned (S.1 9 x1.toNatClampNeg) x2) (S.1 15 ((2 * x4).toNatClampNeg)) = S.1 15 (((2 * x4) + 1).toNatClampNeg) then true else false)))] := by
      refine at_istore_n C dX8_isFit_59 rfl (by decide) (lv' := [(3, .int (b2i (if x3 = 0 then false else (if f_X8_sightOf (f_X8_turned (S.1 9 x1.toNatClampNeg) x2) (S.1 15 ((2 * x4).toNatClampNeg)) = S.1 15 (((2 * x4) + 1).toNatClampNeg) then true else false)))), (0, .ref (ad 0)), (1, .int x1), (2, .int x2), (4, .int x4)]) rfl ?_
      refine at_iinc C dX8_isFit_60 (j := 4) (v := x4 + 1) rfl rfl (by decide) (lv' := [(4, .int (x4 + 1)), (3, .int (b2i (if x3 = 0 then false else (if f_X8_sightOf (f_X8_turned (S.1 9 x1.toNatClampNeg) x2) (S.1 15 ((2 * x4).toNatClampNeg)) = S.1 15 (((2 * x4) + 1).toNatClampNeg) then true else false)))), (0, .ref (ad 0)), (1, .int x1), (2, .int x2)]) rfl ?_
      refine at_goto C dX8_isFit_63 (tgt := 5) (by decide) ?_
      refine at_lv [2, 3, 4, 1, 0] rfl ?_
      exact h
    replace h := hq
    refine at_if_eq C dX8_isFit_15 (tgt := 58) (by decide) (fun hc1 => ?_) (fun hc1 => ?_)
    · skip
      refine at_iconst C dX8_isFit_58 (v := 0) rfl ?_
      refine at_lv [0, 1, 2, 4] rfl ?_
      first | (simp only [if_pos hc1] at K; exact K) | exact K
    · replace h := h hc1
      refine at_aload_n C dX8_isFit_18 rfl (j := 0) rfl ?_
      refine at_get C (K := RX8) (T := TX8) (N := 18) (ci := 7) (v := .ref (ad 7)) iw_X8_isFit_X8 0 mW_c0 rfl 9 (by decide) lk_X8_isFit_1 rfl dX8_isFit_19 ?_
      refine at_iload_n C dX8_isFit_22 rfl (j := 1) rfl ?_
      refine at_iald C 7 mW_c7 h.1 dX8_isFit_23 ?_
      replace h := h.2
      refine at_iload_n C dX8_isFit_24 rfl (j := 2) rfl ?_
      refine at_cS0 C 2 (c_X8_turned X.l X.D X.E X.a1 X.a2 (S.1 9 x1.toNatClampNeg) x2) gX8_isFit_X8_turned rfl (by decide +kernel) ⟨rfl, rfl⟩ rfl rfl rfl dX8_isFit_25 ?_
      refine at_aload_n C dX8_isFit_28 rfl (j := 0) rfl ?_
      refine at_get C (K := RX8) (T := TX8) (N := 18) (ci := 7) (v := .ref (ad 11)) iw_X8_isFit_X8 0 mW_c0 rfl 15 (by decide) lk_X8_isFit_2 rfl dX8_isFit_29 ?_
      refine at_iconst C dX8_isFit_32 (v := 2) rfl ?_
      refine at_iload C dX8_isFit_33 (j := 4) rfl ?_
      refine at_imul C dX8_isFit_35 ?_
      refine at_iald C 11 mW_c11 h.1 dX8_isFit_36 ?_
      replace h := h.2
      refine at_cS0 C 2 (c_X8_sightOf X.l X.D X.E X.a1 X.a2 (f_X8_turned (S.1 9 x1.toNatClampNeg) x2) (S.1 15 ((2 * x4).toNatClampNeg))) gX8_isFit_X8_sightOf rfl (by decide +kernel) ⟨rfl, rfl⟩ rfl rfl rfl dX8_isFit_37 ?_
      refine at_aload_n C dX8_isFit_40 rfl (j := 0) rfl ?_
      refine at_get C (K := RX8) (T := TX8) (N := 18) (ci := 7) (v := .ref (ad 11)) iw_X8_isFit_X8 0 mW_c0 rfl 15 (by decide) lk_X8_isFit_2 rfl dX8_isFit_41 ?_
      refine at_iconst C dX8_isFit_44 (v := 2) rfl ?_
      refine at_iload C dX8_isFit_45 (j := 4) rfl ?_
      refine at_imul C dX8_isFit_47 ?_
      refine at_iconst C dX8_isFit_48 (v := 1) rfl ?_
      refine at_iadd C dX8_isFit_49 ?_
      refine at_iald C 11 mW_c11 h dX8_isFit_50 ?_
      refine at_icmp_ne C dX8_isFit_51 (tgt := 58) (by decide) (fun hc2 => ?_) (fun hc2 => ?_)
      · skip
        refine at_iconst C dX8_isFit_58 (v := 0) rfl ?_
        refine at_lv [0, 1, 2, 4] rfl ?_
        first | (simp only [if_neg hc1, if_neg hc2] at K; exact K) | exact K
      · skip
        refine at_iconst C dX8_isFit_54 (v := 1) rfl ?_
        refine at_goto C dX8_isFit_55 (tgt := 59) (by decide) ?_
        refine at_lv [0, 1, 2, 4] rfl ?_
        first | (simp only [if_neg hc1, if_pos hc2] at K; exact K) | exact K
set_option maxRecDepth 20000 in
theorem ggX8_fitsOf_X8_isFit : GoodIn wsX8_fitsOf wsX8_isFit := goodIn_r _ [6, 7, 8, 9, 10, 11, 5, 12, 13, 14, 15, 16, 17, 18, 19, 20, 21, 22, 23, 24, 25, 26, 27, 28, 29, 30, 31, 32, 33, 34, 35, 36, 37, 38, 39, 40, 41, 42] (by decide +kernel) (by decide +kernel)
set_option maxRecDepth 20000 in
theorem gX8_fitsOf_X8_isFit : GoodIn wsX8_fitsOf (wsV RX8 229 RX8 yX8_isFit wsX8_isFit) := goodIn_app (goodIn_of _ (by decide +kernel)) ggX8_fitsOf_X8_isFit
theorem dX8_fitsOf_0 : decode cX8_fitsOf 0 = .ok (.iconst 0, 1) := by decide +kernel
theorem dX8_fitsOf_1 : decode cX8_fitsOf 1 = .ok (.istore_n 2, 1) := by decide +kernel
theorem dX8_fitsOf_2 : decode cX8_fitsOf 2 = .ok (.iconst 0, 1) := by decide +kernel
theorem dX8_fitsOf_3 : decode cX8_fitsOf 3 = .ok (.istore_n 3, 1) := by decide +kernel
theorem dX8_fitsOf_4 : decode cX8_fitsOf 4 = .ok (.iconst 0, 1) := by decide +kernel
theorem dX8_fitsOf_5 : decode cX8_fitsOf 5 = .ok (.istore 4, 2) := by decide +kernel
theorem dX8_fitsOf_7 : decode cX8_fitsOf 7 = .ok (.iload 4, 2) := by decide +kernel
theorem dX8_fitsOf_9 : decode cX8_fitsOf 9 = .ok (.aload_n 0, 1) := by decide +kernel
theorem dX8_fitsOf_10 : decode cX8_fitsOf 10 = .ok (.getfield 90, 3) := by decide +kernel
theorem dX8_fitsOf_13 : decode cX8_fitsOf 13 = .ok (.if_icmp .ge 45, 3) := by decide +kernel
theorem dX8_fitsOf_16 : decode cX8_fitsOf 16 = .ok (.iconst 0, 1) := by decide +kernel
theorem dX8_fitsOf_17 : decode cX8_fitsOf 17 = .ok (.istore 5, 2) := by decide +kernel
theorem dX8_fitsOf_19 : decode cX8_fitsOf 19 = .ok (.iload 5, 2) := by decide +kernel
theorem dX8_fitsOf_21 : decode cX8_fitsOf 21 = .ok (.iconst 4, 1) := by decide +kernel
theorem dX8_fitsOf_22 : decode cX8_fitsOf 22 = .ok (.if_icmp .ge 30, 3) := by decide +kernel
theorem dX8_fitsOf_25 : decode cX8_fitsOf 25 = .ok (.aload_n 0, 1) := by decide +kernel
theorem dX8_fitsOf_26 : decode cX8_fitsOf 26 = .ok (.iload 4, 2) := by decide +kernel
theorem dX8_fitsOf_28 : decode cX8_fitsOf 28 = .ok (.iload 5, 2) := by decide +kernel
theorem dX8_fitsOf_30 : decode cX8_fitsOf 30 = .ok (.invokevirtual 229, 3) := by decide +kernel
theorem dX8_fitsOf_33 : decode cX8_fitsOf 33 = .ok (.ifCond .eq 13, 3) := by decide +kernel
theorem dX8_fitsOf_36 : decode cX8_fitsOf 36 = .ok (.iinc 2 1, 3) := by decide +kernel
theorem dX8_fitsOf_39 : decode cX8_fitsOf 39 = .ok (.iload_n 3, 1) := by decide +kernel
theorem dX8_fitsOf_40 : decode cX8_fitsOf 40 = .ok (.iconst 1, 1) := by decide +kernel
theorem dX8_fitsOf_41 : decode cX8_fitsOf 41 = .ok (.iload 4, 2) := by decide +kernel
theorem dX8_fitsOf_43 : decode cX8_fitsOf 43 = .ok (.ishl, 1) := by decide +kernel
theorem dX8_fitsOf_44 : decode cX8_fitsOf 44 = .ok (.ior, 1) := by decide +kernel
theorem dX8_fitsOf_45 : decode cX8_fitsOf 45 = .ok (.istore_n 3, 1) := by decide +kernel
theorem dX8_fitsOf_46 : decode cX8_fitsOf 46 = .ok (.iinc 5 1, 3) := by decide +kernel
theorem dX8_fitsOf_49 : decode cX8_fitsOf 49 = .ok (.goto (-30), 3) := by decide +kernel
theorem dX8_fitsOf_52 : decode cX8_fitsOf 52 = .ok (.iinc 4 1, 3) := by decide +kernel
theorem dX8_fitsOf_55 : decode cX8_fitsOf 55 = .ok (.goto (-48), 3) := by decide +kernel
theorem dX8_fitsOf_58 : decode cX8_fitsOf 58 = .ok (.iload_n 1, 1) := by decide +kernel
theorem dX8_fitsOf_59 : decode cX8_fitsOf 59 = .ok (.ifCond .ne 7, 3) := by decide +kernel
theorem dX8_fitsOf_62 : decode cX8_fitsOf 62 = .ok (.iload_n 2, 1) := by decide +kernel
theorem dX8_fitsOf_63 : decode cX8_fitsOf 63 = .ok (.goto 4, 3) := by decide +kernel
theorem dX8_fitsOf_66 : decode cX8_fitsOf 66 = .ok (.iload_n 3, 1) := by decide +kernel
theorem dX8_fitsOf_67 : decode cX8_fitsOf 67 = .ok (.ireturn, 1) := by decide +kernel
theorem iw_X8_fitsOf_X8 : ∀ w ∈ u_ws RX8 TX8 18, w ∈ wsX8_fitsOf := by decide +kernel
theorem lk_X8_fitsOf_0 : Cond.fieldLink RX8 90 (TX8 8).1 (TX8 8).2.1 (TX8 8).2.2.1 ∈ wsX8_fitsOf := by decide +kernel
set_option maxRecDepth 100000 in
theorem r_X8_fitsOf_0 {X : Bn} (C : Cx X cX8_fitsOf 6 RX8 wsX8_fitsOf 4 91) (ad : Nat → Nat) (S : MS) (x1 : Int32) (h : At X 6 (mW X.E ad S) 7 [(0, .ref (ad 0)), (1, .int x1), (2, .int 0), (3, .int 0), (4, .int 0)] []) : At X 6 (mW X.E ad S) 0 [(0, .ref (ad 0)), (1, .int x1)] [] := by
  refine at_iconst C dX8_fitsOf_0 (v := 0) rfl ?_
  refine at_istore_n C dX8_fitsOf_1 rfl (by decide) (lv' := [(2, .int 0), (0, .ref (ad 0)), (1, .int x1)]) rfl ?_
  refine at_iconst C dX8_fitsOf_2 (v := 0) rfl ?_
  refine at_istore_n C dX8_fitsOf_3 rfl (by decide) (lv' := [(3, .int 0), (2, .int 0), (0, .ref (ad 0)), (1, .int x1)]) rfl ?_
  refine at_iconst C dX8_fitsOf_4 (v := 0) rfl ?_
  refine at_istore C dX8_fitsOf_5 (by decide) (lv' := [(4, .int 0), (3, .int 0), (2, .int 0), (0, .ref (ad 0)), (1, .int x1)]) rfl ?_
  refine at_lv [3, 4, 2, 1, 0] rfl ?_
  exact h
set_option maxRecDepth 100000 in
theorem r_X8_fitsOf_7 {X : Bn} (C : Cx X cX8_fitsOf 6 RX8 wsX8_fitsOf 4 91) (ad : Nat → Nat) (S : MS) (x1 : Int32) (x2 : Int32) (x3 : Int32) (x4 : Int32) (h : ((S.1 8 0 ≤ x4) → (Ends X (some .int) (some (.int (if x1 = 0 then x2 else x3))) (mW X.E ad S))) ∧ (¬ S.1 8 0 ≤ x4 → (At X 6 (mW X.E ad S) 19 [(0, .ref (ad 0)), (1, .int x1), (2, .int x2), (3, .int x3), (4, .int x4), (5, .int 0)] []))) : At X 6 (mW X.E ad S) 7 [(0, .ref (ad 0)), (1, .int x1), (2, .int x2), (3, .int x3), (4, .int x4)] [] := by
  refine at_iload C dX8_fitsOf_7 (j := 4) rfl ?_
  refine at_aload_n C dX8_fitsOf_9 rfl (j := 0) rfl ?_
  refine at_get C (K := RX8) (T := TX8) (N := 18) (ci := 7) (v := .int (S.1 8 0)) iw_X8_fitsOf_X8 0 mW_c0 rfl 8 (by decide) lk_X8_fitsOf_0 rfl dX8_fitsOf_10 ?_
  refine at_icmp_ge C dX8_fitsOf_13 (tgt := 58) (by decide) (fun hc0 => ?_) (fun hc0 => ?_)
  · replace h := h.1 hc0
    refine at_iload_n C dX8_fitsOf_58 rfl (j := 1) rfl ?_
    have K : At X 6 (mW X.E ad S) 67 [] [.int (if x1 = 0 then x2 else x3)] := by
      exact at_iret C dX8_fitsOf_67 h
    refine at_if_ne C dX8_fitsOf_59 (tgt := 66) (by decide) (fun hc1 => ?_) (fun hc1 => ?_)
    · skip
      refine at_iload_n C dX8_fitsOf_66 rfl (j := 3) rfl ?_
      refine at_lv [] rfl ?_
      first | (simp only [if_neg hc1] at K; exact K) | exact K
    · skip
      refine at_iload_n C dX8_fitsOf_62 rfl (j := 2) rfl ?_
      refine at_goto C dX8_fitsOf_63 (tgt := 67) (by decide) ?_
      refine at_lv [] rfl ?_
      first | (simp only [if_pos hc1] at K; exact K) | exact K
  · replace h := h.2 hc0
    refine at_iconst C dX8_fitsOf_16 (v := 0) rfl ?_
    refine at_istore C dX8_fitsOf_17 (by decide) (lv' := [(5, .int 0), (0, .ref (ad 0)), (1, .int x1), (2, .int x2), (3, .int x3), (4, .int x4)]) rfl ?_
    refine at_lv [1, 2, 3, 4, 5, 0] rfl ?_
    exact h
set_option maxRecDepth 100000 in
theorem r_X8_fitsOf_19 {X : Bn} (C : Cx X cX8_fitsOf 6 RX8 wsX8_fitsOf 4 91) (ad : Nat → Nat) (S : MS) (x1 : Int32) (x2 : Int32) (x3 : Int32) (x4 : Int32) (x5 : Int32) (h : ((4 ≤ x5) → (At X 6 (mW X.E ad S) 7 [(0, .ref (ad 0)), (1, .int x1), (2, .int x2), (3, .int x3), (4, .int (x4 + 1))] [])) ∧ (¬ 4 ≤ x5 → ((p_X8_isFit S x4) ∧ (At X 6 (mW X.E ad S) 19 [(0, .ref (ad 0)), (1, .int x1), (2, .int (if (f_X8_isFit S x4 x5) then x2 + 1 else x2)), (3, .int (if (f_X8_isFit S x4 x5) then x3 ||| (ishl 1 x4) else x3)), (4, .int x4), (5, .int (x5 + 1))] [])))) : At X 6 (mW X.E ad S) 19 [(0, .ref (ad 0)), (1, .int x1), (2, .int x2), (3, .int x3), (4, .int x4), (5, .int x5)] [] := by
  refine at_iload C dX8_fitsOf_19 (j := 5) rfl ?_
  refine at_iconst C dX8_fitsOf_21 (v := 4) rfl ?_
  refine at_icmp_ge C dX8_fitsOf_22 (tgt := 52) (by decide) (fun hc1 => ?_) (fun hc1 => ?_)
  · replace h := h.1 hc1
    refine at_iinc C dX8_fitsOf_52 (j := 4) (v := x4 + 1) rfl rfl (by decide) (lv' := [(4, .int (x4 + 1)), (0, .ref (ad 0)), (1, .int x1), (2, .int x2), (3, .int x3), (5, .int x5)]) rfl ?_
    refine at_goto C dX8_fitsOf_55 (tgt := 7) (by decide) ?_
    refine at_lv [1, 2, 3, 4, 0] rfl ?_
    exact h
  · replace h := h.2 hc1
    refine at_aload_n C dX8_fitsOf_25 rfl (j := 0) rfl ?_
    refine at_iload C dX8_fitsOf_26 (j := 4) rfl ?_
    refine at_iload C dX8_fitsOf_28 (j := 5) rfl ?_
    refine at_cV1 C 2 (c_X8_isFit X.l X.D X.E X.a1 X.a2 ad S x4 x5 h.1) gX8_fitsOf_X8_isFit rfl (by decide +kernel) ⟨rfl, rfl⟩ rfl rfl rfl 0 mW_c0 rfl dX8_fitsOf_30 ?_
    replace h := h.2
    have K : At X 6 (mW X.E ad S) 46 [(0, .ref (ad 0)), (1, .int x1), (2, .int (if (f_X8_isFit S x4 x5) then x2 + 1 else x2)), (3, .int (if (f_X8_isFit S x4 x5) then x3 ||| (ishl 1 x4) else x3)), (4, .int x4), (5, .int x5)] [] := by
      refine at_iinc C dX8_fitsOf_46 (j := 5) (v := x5 + 1) rfl rfl (by decide) (lv' := [(5, .int (x5 + 1)), (0, .ref (ad 0)), (1, .int x1), (2, .int (if (f_X8_isFit S x4 x5) then x2 + 1 else x2)), (3, .int (if (f_X8_isFit S x4 x5) then x3 ||| (ishl 1 x4) else x3)), (4, .int x4)]) rfl ?_
      refine at_goto C dX8_fitsOf_49 (tgt := 19) (by decide) ?_
      refine at_lv [1, 2, 3, 4, 5, 0] rfl ?_
      exact h
    refine at_ifB_eq C dX8_fitsOf_33 (tgt := 46) (by decide) (fun hc2 => ?_) (fun hc2 => ?_)
    · skip
      first | (simp only [if_neg (show ¬ (f_X8_isFit S x4 x5) = true by rw [hc2]; decide)] at K; exact K) | exact K
    · skip
      refine at_iinc C dX8_fitsOf_36 (j := 2) (v := x2 + 1) rfl rfl (by decide) (lv' := [(2, .int (x2 + 1)), (0, .ref (ad 0)), (1, .int x1), (3, .int x3), (4, .int x4), (5, .int x5)]) rfl ?_
      refine at_iload_n C dX8_fitsOf_39 rfl (j := 3) rfl ?_
      refine at_iconst C dX8_fitsOf_40 (v := 1) rfl ?_
      refine at_iload C dX8_fitsOf_41 (j := 4) rfl ?_
      refine at_ishl C dX8_fitsOf_43 ?_
      refine at_ior C dX8_fitsOf_44 ?_
      refine at_istore_n C dX8_fitsOf_45 rfl (by decide) (lv' := [(3, .int (x3 ||| (ishl 1 x4))), (2, .int (x2 + 1)), (0, .ref (ad 0)), (1, .int x1), (4, .int x4), (5, .int x5)]) rfl ?_
      refine at_lv [2, 3, 1, 0, 4, 5] rfl ?_
      first | (simp only [if_pos hc2] at K; exact K) | exact K
set_option maxRecDepth 20000 in
theorem ggX8_echo_X8_beside : GoodIn wsX8_echo wsX8_beside := goodIn_r _ [5, 6, 7, 8, 9, 4, 10, 11, 12, 13, 14, 15, 16, 17, 18, 19, 20, 21, 22, 23, 24, 25, 26, 27, 28] (by decide +kernel) (by decide +kernel)
set_option maxRecDepth 20000 in
theorem gX8_echo_X8_beside : GoodIn wsX8_echo (wsV RX8 241 RX8 yX8_beside wsX8_beside) := goodIn_app (goodIn_of _ (by decide +kernel)) ggX8_echo_X8_beside
theorem dX8_echo_0 : decode cX8_echo 0 = .ok (.iconst 0, 1) := by decide +kernel
theorem dX8_echo_1 : decode cX8_echo 1 = .ok (.istore_n 3, 1) := by decide +kernel
theorem dX8_echo_2 : decode cX8_echo 2 = .ok (.aload_n 0, 1) := by decide +kernel
theorem dX8_echo_3 : decode cX8_echo 3 = .ok (.iload_n 1, 1) := by decide +kernel
theorem dX8_echo_4 : decode cX8_echo 4 = .ok (.iload_n 2, 1) := by decide +kernel
theorem dX8_echo_5 : decode cX8_echo 5 = .ok (.invokevirtual 241, 3) := by decide +kernel
theorem dX8_echo_8 : decode cX8_echo 8 = .ok (.istore 4, 2) := by decide +kernel
theorem dX8_echo_10 : decode cX8_echo 10 = .ok (.iload 4, 2) := by decide +kernel
theorem dX8_echo_12 : decode cX8_echo 12 = .ok (.iconst (-1), 1) := by decide +kernel
theorem dX8_echo_13 : decode cX8_echo 13 = .ok (.if_icmp .eq 18, 3) := by decide +kernel
theorem dX8_echo_16 : decode cX8_echo 16 = .ok (.iinc 3 1, 3) := by decide +kernel
theorem dX8_echo_19 : decode cX8_echo 19 = .ok (.aload_n 0, 1) := by decide +kernel
theorem dX8_echo_20 : decode cX8_echo 20 = .ok (.iload 4, 2) := by decide +kernel
theorem dX8_echo_22 : decode cX8_echo 22 = .ok (.iload_n 2, 1) := by decide +kernel
theorem dX8_echo_23 : decode cX8_echo 23 = .ok (.invokevirtual 241, 3) := by decide +kernel
theorem dX8_echo_26 : decode cX8_echo 26 = .ok (.istore 4, 2) := by decide +kernel
theorem dX8_echo_28 : decode cX8_echo 28 = .ok (.goto (-18), 3) := by decide +kernel
theorem dX8_echo_31 : decode cX8_echo 31 = .ok (.iload_n 3, 1) := by decide +kernel
theorem dX8_echo_32 : decode cX8_echo 32 = .ok (.ireturn, 1) := by decide +kernel
set_option maxRecDepth 100000 in
theorem r_X8_echo_0 {X : Bn} (C : Cx X cX8_echo 5 RX8 wsX8_echo 2 49) (ad : Nat → Nat) (S : MS) (x1 : Int32) (x2 : Int32) (h : (p_X8_beside S x1 x2) ∧ (At X 5 (mW X.E ad S) 10 [(0, .ref (ad 0)), (2, .int x2), (3, .int 0), (4, .int (f_X8_beside S x1 x2))] [])) : At X 5 (mW X.E ad S) 0 [(0, .ref (ad 0)), (1, .int x1), (2, .int x2)] [] := by
  refine at_iconst C dX8_echo_0 (v := 0) rfl ?_
  refine at_istore_n C dX8_echo_1 rfl (by decide) (lv' := [(3, .int 0), (0, .ref (ad 0)), (1, .int x1), (2, .int x2)]) rfl ?_
  refine at_aload_n C dX8_echo_2 rfl (j := 1) rfl ?_
  refine at_iload_n C dX8_echo_3 rfl (j := 2) rfl ?_
  refine at_iload_n C dX8_echo_4 rfl (j := 3) rfl ?_
  refine at_cV1 C 2 (c_X8_beside X.l X.D X.E X.a1 X.a2 ad S x1 x2 h.1) gX8_echo_X8_beside rfl (by decide +kernel) ⟨rfl, rfl⟩ rfl rfl rfl 0 mW_c0 rfl dX8_echo_5 ?_
  replace h := h.2
  refine at_istore C dX8_echo_8 (by decide) (lv' := [(4, .int (f_X8_beside S x1 x2)), (3, .int 0), (0, .ref (ad 0)), (1, .int x1), (2, .int x2)]) rfl ?_
  refine at_lv [2, 4, 1, 0] rfl ?_
  exact h
set_option maxRecDepth 100000 in
theorem r_X8_echo_10 {X : Bn} (C : Cx X cX8_echo 5 RX8 wsX8_echo 2 49) (ad : Nat → Nat) (S : MS) (x2 : Int32) (x3 : Int32) (x4 : Int32) (h : ((x4 = (-1)) → (Ends X (some .int) (some (.int x3)) (mW X.E ad S))) ∧ (¬ x4 = (-1) → ((p_X8_beside S x4 x2) ∧ (At X 5 (mW X.E ad S) 10 [(0, .ref (ad 0)), (2, .int x2), (3, .int (x3 + 1)), (4, .int (f_X8_beside S x4 x2))] [])))) : At X 5 (mW X.E ad S) 10 [(0, .ref (ad 0)), (2, .int x2), (3, .int x3), (4, .int x4)] [] := by
  refine at_iload C dX8_echo_10 (j := 3) rfl ?_
  refine at_iconst C dX8_echo_12 (v := (-1)) rfl ?_
  refine at_icmp_eq C dX8_echo_13 (tgt := 31) (by decide) (fun hc0 => ?_) (fun hc0 => ?_)
  · replace h := h.1 hc0
    refine at_iload_n C dX8_echo_31 rfl (j := 2) rfl ?_
    exact at_iret C dX8_echo_32 h
  · replace h := h.2 hc0
    refine at_iinc C dX8_echo_16 (j := 2) (v := x3 + 1) rfl rfl (by decide) (lv' := [(3, .int (x3 + 1)), (0, .ref (ad 0)), (2, .int x2), (4, .int x4)]) rfl ?_
    refine at_aload_n C dX8_echo_19 rfl (j := 1) rfl ?_
    refine at_iload C dX8_echo_20 (j := 3) rfl ?_
    refine at_iload_n C dX8_echo_22 rfl (j := 2) rfl ?_
    refine at_cV1 C 2 (c_X8_beside X.l X.D X.E X.a1 X.a2 ad S x4 x2 h.1) gX8_echo_X8_beside rfl (by decide +kernel) ⟨rfl, rfl⟩ rfl rfl rfl 0 mW_c0 rfl dX8_echo_23 ?_
    replace h := h.2
    refine at_istore C dX8_echo_26 (by decide) (lv' := [(4, .int (f_X8_beside S x4 x2)), (3, .int (x3 + 1)), (0, .ref (ad 0)), (2, .int x2)]) rfl ?_
    refine at_goto C dX8_echo_28 (tgt := 10) (by decide) ?_
    refine at_lv [2, 3, 1, 0] rfl ?_
    exact h
set_option maxRecDepth 20000 in
theorem ggX8_viewOf_X8_echo : GoodIn wsX8_viewOf wsX8_echo := goodIn_r _ [5, 6, 7, 8, 4, 9, 10, 11, 12, 13, 14, 15, 16, 17, 18, 19, 20, 21, 22, 23, 24, 25, 26, 27, 28, 29, 30, 31, 32] (by decide +kernel) (by decide +kernel)
set_option maxRecDepth 20000 in
theorem gX8_viewOf_X8_echo : GoodIn wsX8_viewOf (wsV RX8 244 RX8 yX8_echo wsX8_echo) := goodIn_app (goodIn_of _ (by decide +kernel)) ggX8_viewOf_X8_echo
theorem dX8_viewOf_0 : decode cX8_viewOf 0 = .ok (.iconst 1, 1) := by decide +kernel
theorem dX8_viewOf_1 : decode cX8_viewOf 1 = .ok (.aload_n 0, 1) := by decide +kernel
theorem dX8_viewOf_2 : decode cX8_viewOf 2 = .ok (.iload_n 1, 1) := by decide +kernel
theorem dX8_viewOf_3 : decode cX8_viewOf 3 = .ok (.iconst 0, 1) := by decide +kernel
theorem dX8_viewOf_4 : decode cX8_viewOf 4 = .ok (.invokevirtual 244, 3) := by decide +kernel
theorem dX8_viewOf_7 : decode cX8_viewOf 7 = .ok (.iadd, 1) := by decide +kernel
theorem dX8_viewOf_8 : decode cX8_viewOf 8 = .ok (.aload_n 0, 1) := by decide +kernel
theorem dX8_viewOf_9 : decode cX8_viewOf 9 = .ok (.iload_n 1, 1) := by decide +kernel
theorem dX8_viewOf_10 : decode cX8_viewOf 10 = .ok (.iconst 1, 1) := by decide +kernel
theorem dX8_viewOf_11 : decode cX8_viewOf 11 = .ok (.invokevirtual 244, 3) := by decide +kernel
theorem dX8_viewOf_14 : decode cX8_viewOf 14 = .ok (.iadd, 1) := by decide +kernel
theorem dX8_viewOf_15 : decode cX8_viewOf 15 = .ok (.aload_n 0, 1) := by decide +kernel
theorem dX8_viewOf_16 : decode cX8_viewOf 16 = .ok (.iload_n 1, 1) := by decide +kernel
theorem dX8_viewOf_17 : decode cX8_viewOf 17 = .ok (.iconst 2, 1) := by decide +kernel
theorem dX8_viewOf_18 : decode cX8_viewOf 18 = .ok (.invokevirtual 244, 3) := by decide +kernel
theorem dX8_viewOf_21 : decode cX8_viewOf 21 = .ok (.iadd, 1) := by decide +kernel
theorem dX8_viewOf_22 : decode cX8_viewOf 22 = .ok (.aload_n 0, 1) := by decide +kernel
theorem dX8_viewOf_23 : decode cX8_viewOf 23 = .ok (.iload_n 1, 1) := by decide +kernel
theorem dX8_viewOf_24 : decode cX8_viewOf 24 = .ok (.iconst 3, 1) := by decide +kernel
theorem dX8_viewOf_25 : decode cX8_viewOf 25 = .ok (.invokevirtual 244, 3) := by decide +kernel
theorem dX8_viewOf_28 : decode cX8_viewOf 28 = .ok (.iadd, 1) := by decide +kernel
theorem dX8_viewOf_29 : decode cX8_viewOf 29 = .ok (.ireturn, 1) := by decide +kernel
set_option maxRecDepth 100000 in
theorem r_X8_viewOf_0 {X : Bn} (C : Cx X cX8_viewOf 2 RX8 wsX8_viewOf 3 73) (ad : Nat → Nat) (S : MS) (x1 : Int32) (h : (p_X8_echo x1 (0 : Int32)) ∧ ((p_X8_echo x1 (1 : Int32)) ∧ ((p_X8_echo x1 (2 : Int32)) ∧ ((p_X8_echo x1 (3 : Int32)) ∧ (Ends X (some .int) (some (.int ((((1 + (f_X8_echo S x1 (0 : Int32))) + (f_X8_echo S x1 (1 : Int32))) + (f_X8_echo S x1 (2 : Int32))) + (f_X8_echo S x1 (3 : Int32))))) (mW X.E ad S)))))) : At X 2 (mW X.E ad S) 0 [(0, .ref (ad 0)), (1, .int x1)] [] := by
  refine at_iconst C dX8_viewOf_0 (v := 1) rfl ?_
  refine at_aload_n C dX8_viewOf_1 rfl (j := 0) rfl ?_
  refine at_iload_n C dX8_viewOf_2 rfl (j := 1) rfl ?_
  refine at_iconst C dX8_viewOf_3 (v := 0) rfl ?_
  refine at_cV1 C 2 (c_X8_echo X.l X.D X.E X.a1 X.a2 ad S x1 (0 : Int32) h.1) gX8_viewOf_X8_echo rfl (by decide +kernel) ⟨rfl, rfl⟩ rfl rfl rfl 0 mW_c0 rfl dX8_viewOf_4 ?_
  replace h := h.2
  refine at_iadd C dX8_viewOf_7 ?_
  refine at_aload_n C dX8_viewOf_8 rfl (j := 0) rfl ?_
  refine at_iload_n C dX8_viewOf_9 rfl (j := 1) rfl ?_
  refine at_iconst C dX8_viewOf_10 (v := 1) rfl ?_
  refine at_cV1 C 2 (c_X8_echo X.l X.D X.E X.a1 X.a2 ad S x1 (1 : Int32) h.1) gX8_viewOf_X8_echo rfl (by decide +kernel) ⟨rfl, rfl⟩ rfl rfl rfl 0 mW_c0 rfl dX8_viewOf_11 ?_
  replace h := h.2
  refine at_iadd C dX8_viewOf_14 ?_
  refine at_aload_n C dX8_viewOf_15 rfl (j := 0) rfl ?_
  refine at_iload_n C dX8_viewOf_16 rfl (j := 1) rfl ?_
  refine at_iconst C dX8_viewOf_17 (v := 2) rfl ?_
  refine at_cV1 C 2 (c_X8_echo X.l X.D X.E X.a1 X.a2 ad S x1 (2 : Int32) h.1) gX8_viewOf_X8_echo rfl (by decide +kernel) ⟨rfl, rfl⟩ rfl rfl rfl 0 mW_c0 rfl dX8_viewOf_18 ?_
  replace h := h.2
  refine at_iadd C dX8_viewOf_21 ?_
  refine at_aload_n C dX8_viewOf_22 rfl (j := 0) rfl ?_
  refine at_iload_n C dX8_viewOf_23 rfl (j := 1) rfl ?_
  refine at_iconst C dX8_viewOf_24 (v := 3) rfl ?_
  refine at_cV1 C 2 (c_X8_echo X.l X.D X.E X.a1 X.a2 ad S x1 (3 : Int32) h.1) gX8_viewOf_X8_echo rfl (by decide +kernel) ⟨rfl, rfl⟩ rfl rfl rfl 0 mW_c0 rfl dX8_viewOf_25 ?_
  replace h := h.2
  refine at_iadd C dX8_viewOf_28 ?_
  exact at_iret C dX8_viewOf_29 h
def f_X8_viewOf (S : MS) (x1 : Int32) : Int32 := (((1 + (f_X8_echo S x1 (0 : Int32))) + (f_X8_echo S x1 (1 : Int32))) + (f_X8_echo S x1 (2 : Int32))) + (f_X8_echo S x1 (3 : Int32))
def p_X8_viewOf (S : MS) (x1 : Int32) : Prop := (p_X8_echo x1 (0 : Int32)) ∧ (p_X8_echo x1 (1 : Int32)) ∧ (p_X8_echo x1 (2 : Int32)) ∧ (p_X8_echo x1 (3 : Int32))
set_option maxRecDepth 100000 in
theorem c_X8_viewOf (l : Launch) (D : va_G) (E : Nat → ClassId) (a1 a2 : Nat) (ad : Nat → Nat) (S : MS) (x1 : Int32) (hp : p_X8_viewOf S x1) : Fn l D E a1 a2 yX8_viewOf wsX8_viewOf 3 73 [.ref (ad 0), .int x1] (mW E ad S) (some (.int (f_X8_viewOf S x1))) (mW E ad S) := by
  refine Fn.of (cc := cX8_viewOf) (maxL := 2) (ret := (some .int)) (own := RX8) (by decide) rfl rfl rfl (Nat.le_of_ble_eq_true rfl) (fun X h1 h2 h3 h4 h5 C hE => ?_)
  subst h1 h2 h3 h4 h5
  refine r_X8_viewOf_0 C ad S x1 ?_
  refine ⟨hp.1, ?_⟩
  refine ⟨hp.2.1, ?_⟩
  refine ⟨hp.2.2.1, ?_⟩
  refine ⟨hp.2.2.2, ?_⟩
  simp only [f_X8_viewOf] at hE
  exact hE
set_option maxRecDepth 20000 in
theorem ggX8_stepsTo_X8_beside : GoodIn wsX8_stepsTo wsX8_beside := goodIn_r _ [5, 6, 7, 8, 9, 4, 10, 11, 12, 13, 14, 15, 16, 17, 18, 19, 20, 21, 22, 23, 24, 25, 26, 27, 28] (by decide +kernel) (by decide +kernel)
set_option maxRecDepth 20000 in
theorem gX8_stepsTo_X8_beside : GoodIn wsX8_stepsTo (wsV RX8 241 RX8 yX8_beside wsX8_beside) := goodIn_app (goodIn_of _ (by decide +kernel)) ggX8_stepsTo_X8_beside
theorem dX8_stepsTo_0 : decode cX8_stepsTo 0 = .ok (.iload_n 1, 1) := by decide +kernel
theorem dX8_stepsTo_1 : decode cX8_stepsTo 1 = .ok (.iload_n 2, 1) := by decide +kernel
theorem dX8_stepsTo_2 : decode cX8_stepsTo 2 = .ok (.if_icmp .ne 7, 3) := by decide +kernel
theorem dX8_stepsTo_5 : decode cX8_stepsTo 5 = .ok (.iconst 0, 1) := by decide +kernel
theorem dX8_stepsTo_6 : decode cX8_stepsTo 6 = .ok (.goto 4, 3) := by decide +kernel
theorem dX8_stepsTo_9 : decode cX8_stepsTo 9 = .ok (.iconst (-1), 1) := by decide +kernel
theorem dX8_stepsTo_10 : decode cX8_stepsTo 10 = .ok (.istore_n 3, 1) := by decide +kernel
theorem dX8_stepsTo_11 : decode cX8_stepsTo 11 = .ok (.iconst 0, 1) := by decide +kernel
theorem dX8_stepsTo_12 : decode cX8_stepsTo 12 = .ok (.istore 4, 2) := by decide +kernel
theorem dX8_stepsTo_14 : decode cX8_stepsTo 14 = .ok (.iload 4, 2) := by decide +kernel
theorem dX8_stepsTo_16 : decode cX8_stepsTo 16 = .ok (.iconst 4, 1) := by decide +kernel
theorem dX8_stepsTo_17 : decode cX8_stepsTo 17 = .ok (.if_icmp .ge 50, 3) := by decide +kernel
theorem dX8_stepsTo_20 : decode cX8_stepsTo 20 = .ok (.iload_n 1, 1) := by decide +kernel
theorem dX8_stepsTo_21 : decode cX8_stepsTo 21 = .ok (.istore 5, 2) := by decide +kernel
theorem dX8_stepsTo_23 : decode cX8_stepsTo 23 = .ok (.iconst 0, 1) := by decide +kernel
theorem dX8_stepsTo_24 : decode cX8_stepsTo 24 = .ok (.istore 6, 2) := by decide +kernel
theorem dX8_stepsTo_26 : decode cX8_stepsTo 26 = .ok (.iload 5, 2) := by decide +kernel
theorem dX8_stepsTo_28 : decode cX8_stepsTo 28 = .ok (.iconst (-1), 1) := by decide +kernel
theorem dX8_stepsTo_29 : decode cX8_stepsTo 29 = .ok (.if_icmp .eq 32, 3) := by decide +kernel
theorem dX8_stepsTo_32 : decode cX8_stepsTo 32 = .ok (.iload 5, 2) := by decide +kernel
theorem dX8_stepsTo_34 : decode cX8_stepsTo 34 = .ok (.iload_n 2, 1) := by decide +kernel
theorem dX8_stepsTo_35 : decode cX8_stepsTo 35 = .ok (.if_icmp .ne 8, 3) := by decide +kernel
theorem dX8_stepsTo_38 : decode cX8_stepsTo 38 = .ok (.iload 6, 2) := by decide +kernel
theorem dX8_stepsTo_40 : decode cX8_stepsTo 40 = .ok (.goto 4, 3) := by decide +kernel
theorem dX8_stepsTo_43 : decode cX8_stepsTo 43 = .ok (.iload_n 3, 1) := by decide +kernel
theorem dX8_stepsTo_44 : decode cX8_stepsTo 44 = .ok (.istore_n 3, 1) := by decide +kernel
theorem dX8_stepsTo_45 : decode cX8_stepsTo 45 = .ok (.aload_n 0, 1) := by decide +kernel
theorem dX8_stepsTo_46 : decode cX8_stepsTo 46 = .ok (.iload 5, 2) := by decide +kernel
theorem dX8_stepsTo_48 : decode cX8_stepsTo 48 = .ok (.iload 4, 2) := by decide +kernel
theorem dX8_stepsTo_50 : decode cX8_stepsTo 50 = .ok (.invokevirtual 241, 3) := by decide +kernel
theorem dX8_stepsTo_53 : decode cX8_stepsTo 53 = .ok (.istore 5, 2) := by decide +kernel
theorem dX8_stepsTo_55 : decode cX8_stepsTo 55 = .ok (.iinc 6 1, 3) := by decide +kernel
theorem dX8_stepsTo_58 : decode cX8_stepsTo 58 = .ok (.goto (-32), 3) := by decide +kernel
theorem dX8_stepsTo_61 : decode cX8_stepsTo 61 = .ok (.iinc 4 1, 3) := by decide +kernel
theorem dX8_stepsTo_64 : decode cX8_stepsTo 64 = .ok (.goto (-50), 3) := by decide +kernel
theorem dX8_stepsTo_67 : decode cX8_stepsTo 67 = .ok (.iload_n 3, 1) := by decide +kernel
theorem dX8_stepsTo_68 : decode cX8_stepsTo 68 = .ok (.ireturn, 1) := by decide +kernel
set_option maxRecDepth 100000 in
theorem r_X8_stepsTo_0 {X : Bn} (C : Cx X cX8_stepsTo 7 RX8 wsX8_stepsTo 2 49) (ad : Nat → Nat) (S : MS) (x1 : Int32) (x2 : Int32) (h : At X 7 (mW X.E ad S) 14 [(0, .ref (ad 0)), (1, .int x1), (2, .int x2), (3, .int (if x1 = x2 then 0 else (-1))), (4, .int 0)] []) : At X 7 (mW X.E ad S) 0 [(0, .ref (ad 0)), (1, .int x1), (2, .int x2)] [] := by
  refine at_iload_n C dX8_stepsTo_0 rfl (j := 1) rfl ?_
  refine at_iload_n C dX8_stepsTo_1 rfl (j := 2) rfl ?_
  have K : At X 7 (mW X.E ad S) 10 [(0, .ref (ad 0)), (1, .int x1), (2, .int x2)] [.int (if x1 = x2 then 0 else (-1))] := by
    refine at_istore_n C dX8_stepsTo_10 rfl (by decide) (lv' := [(3, .int (if x1 = x2 then 0 else (-1))), (0, .ref (ad 0)), (1, .int x1), (2, .int x2)]) rfl ?_
    refine at_iconst C dX8_stepsTo_11 (v := 0) rfl ?_
    refine at_istore C dX8_stepsTo_12 (by decide) (lv' := [(4, .int 0), (3, .int (if x1 = x2 then 0 else (-1))), (0, .ref (ad 0)), (1, .int x1), (2, .int x2)]) rfl ?_
    refine at_lv [2, 3, 4, 1, 0] rfl ?_
    exact h
  refine at_icmp_ne C dX8_stepsTo_2 (tgt := 9) (by decide) (fun hc0 => ?_) (fun hc0 => ?_)
  · skip
    refine at_iconst C dX8_stepsTo_9 (v := (-1)) rfl ?_
    first | (simp only [if_neg hc0] at K; exact K) | exact K
  · skip
    refine at_iconst C dX8_stepsTo_5 (v := 0) rfl ?_
    refine at_goto C dX8_stepsTo_6 (tgt := 10) (by decide) ?_
    first | (simp only [if_pos hc0] at K; exact K) | exact K
set_option maxRecDepth 100000 in
theorem r_X8_stepsTo_14 {X : Bn} (C : Cx X cX8_stepsTo 7 RX8 wsX8_stepsTo 2 49) (ad : Nat → Nat) (S : MS) (x1 : Int32) (x2 : Int32) (x3 : Int32) (x4 : Int32) (h : ((4 ≤ x4) → (Ends X (some .int) (some (.int x3)) (mW X.E ad S))) ∧ (¬ 4 ≤ x4 → (At X 7 (mW X.E ad S) 26 [(0, .ref (ad 0)), (1, .int x1), (2, .int x2), (3, .int x3), (4, .int x4), (5, .int x1), (6, .int 0)] []))) : At X 7 (mW X.E ad S) 14 [(0, .ref (ad 0)), (1, .int x1), (2, .int x2), (3, .int x3), (4, .int x4)] [] := by
  refine at_iload C dX8_stepsTo_14 (j := 4) rfl ?_
  refine at_iconst C dX8_stepsTo_16 (v := 4) rfl ?_
  refine at_icmp_ge C dX8_stepsTo_17 (tgt := 67) (by decide) (fun hc0 => ?_) (fun hc0 => ?_)
  · replace h := h.1 hc0
    refine at_iload_n C dX8_stepsTo_67 rfl (j := 3) rfl ?_
    exact at_iret C dX8_stepsTo_68 h
  · replace h := h.2 hc0
    refine at_iload_n C dX8_stepsTo_20 rfl (j := 1) rfl ?_
    refine at_istore C dX8_stepsTo_21 (by decide) (lv' := [(5, .int x1), (0, .ref (ad 0)), (1, .int x1), (2, .int x2), (3, .int x3), (4, .int x4)]) rfl ?_
    refine at_iconst C dX8_stepsTo_23 (v := 0) rfl ?_
    refine at_istore C dX8_stepsTo_24 (by decide) (lv' := [(6, .int 0), (5, .int x1), (0, .ref (ad 0)), (1, .int x1), (2, .int x2), (3, .int x3), (4, .int x4)]) rfl ?_
    refine at_lv [2, 3, 4, 5, 6, 1, 0] rfl ?_
    exact h
set_option maxRecDepth 100000 in
theorem r_X8_stepsTo_26 {X : Bn} (C : Cx X cX8_stepsTo 7 RX8 wsX8_stepsTo 2 49) (ad : Nat → Nat) (S : MS) (x1 : Int32) (x2 : Int32) (x3 : Int32) (x4 : Int32) (x5 : Int32) (x6 : Int32) (h : ((x5 = (-1)) → (At X 7 (mW X.E ad S) 14 [(0, .ref (ad 0)), (1, .int x1), (2, .int x2), (3, .int x3), (4, .int (x4 + 1))] [])) ∧ (¬ x5 = (-1) → ((p_X8_beside S x5 x4) ∧ (At X 7 (mW X.E ad S) 26 [(0, .ref (ad 0)), (1, .int x1), (2, .int x2), (3, .int (if x5 = x2 then x6 else x3)), (4, .int x4), (5, .int (f_X8_beside S x5 x4)), (6, .int (x6 + 1))] [])))) : At X 7 (mW X.E ad S) 26 [(0, .ref (ad 0)), (1, .int x1), (2, .int x2), (3, .int x3), (4, .int x4), (5, .int x5), (6, .int x6)] [] := by
  refine at_iload C dX8_stepsTo_26 (j := 5) rfl ?_
  refine at_iconst C dX8_stepsTo_28 (v := (-1)) rfl ?_
  refine at_icmp_eq C dX8_stepsTo_29 (tgt := 61) (by decide) (fun hc1 => ?_) (fun hc1 => ?_)
  · replace h := h.1 hc1
    refine at_iinc C dX8_stepsTo_61 (j := 4) (v := x4 + 1) rfl rfl (by decide) (lv' := [(4, .int (x4 + 1)), (0, .ref (ad 0)), (1, .int x1), (2, .int x2), (3, .int x3), (5, .int x5), (6, .int x6)]) rfl ?_
    refine at_goto C dX8_stepsTo_64 (tgt := 14) (by decide) ?_
    refine at_lv [1, 2, 3, 4, 0] rfl ?_
    exact h
  · replace h := h.2 hc1
    refine at_iload C dX8_stepsTo_32 (j := 5) rfl ?_
    refine at_iload_n C dX8_stepsTo_34 rfl (j := 2) rfl ?_
    have K : At X 7 (mW X.E ad S) 44 [(0, .ref (ad 0)), (1, .int x1), (2, .int x2), (4, .int x4), (5, .int x5), (6, .int x6)] [.int (if x5 = x2 then x6 else x3)] := by
      refine at_istore_n C dX8_stepsTo_44 rfl (by decide) (lv' := [(3, .int (if x5 = x2 then x6 else x3)), (0, .ref (ad 0)), (1, .int x1), (2, .int x2), (4, .int x4), (5, .int x5), (6, .int x6)]) rfl ?_
      refine at_aload_n C dX8_stepsTo_45 rfl (j := 1) rfl ?_
      refine at_iload C dX8_stepsTo_46 (j := 5) rfl ?_
      refine at_iload C dX8_stepsTo_48 (j := 4) rfl ?_
      refine at_cV1 C 2 (c_X8_beside X.l X.D X.E X.a1 X.a2 ad S x5 x4 h.1) gX8_stepsTo_X8_beside rfl (by decide +kernel) ⟨rfl, rfl⟩ rfl rfl rfl 0 mW_c0 rfl dX8_stepsTo_50 ?_
      replace h := h.2
      refine at_istore C dX8_stepsTo_53 (by decide) (lv' := [(5, .int (f_X8_beside S x5 x4)), (3, .int (if x5 = x2 then x6 else x3)), (0, .ref (ad 0)), (1, .int x1), (2, .int x2), (4, .int x4), (6, .int x6)]) rfl ?_
      refine at_iinc C dX8_stepsTo_55 (j := 6) (v := x6 + 1) rfl rfl (by decide) (lv' := [(6, .int (x6 + 1)), (5, .int (f_X8_beside S x5 x4)), (3, .int (if x5 = x2 then x6 else x3)), (0, .ref (ad 0)), (1, .int x1), (2, .int x2), (4, .int x4)]) rfl ?_
      refine at_goto C dX8_stepsTo_58 (tgt := 26) (by decide) ?_
      refine at_lv [3, 4, 5, 2, 6, 1, 0] rfl ?_
      exact h
    refine at_icmp_ne C dX8_stepsTo_35 (tgt := 43) (by decide) (fun hc2 => ?_) (fun hc2 => ?_)
    · skip
      refine at_iload_n C dX8_stepsTo_43 rfl (j := 3) rfl ?_
      refine at_lv [0, 1, 2, 4, 5, 6] rfl ?_
      first | (simp only [if_neg hc2] at K; exact K) | exact K
    · skip
      refine at_iload C dX8_stepsTo_38 (j := 6) rfl ?_
      refine at_goto C dX8_stepsTo_40 (tgt := 44) (by decide) ?_
      refine at_lv [0, 1, 2, 4, 5, 6] rfl ?_
      first | (simp only [if_pos hc2] at K; exact K) | exact K
set_option maxRecDepth 20000 in
theorem ggX8_isEcho_X8_echo : GoodIn wsX8_isEcho wsX8_echo := goodIn_r _ [5, 6, 7, 8, 4, 9, 10, 11, 12, 13, 14, 15, 16, 17, 18, 19, 20, 21, 22, 23, 24, 25, 26, 27, 28, 29, 30, 31, 32] (by decide +kernel) (by decide +kernel)
set_option maxRecDepth 20000 in
theorem gX8_isEcho_X8_echo : GoodIn wsX8_isEcho (wsV RX8 244 RX8 yX8_echo wsX8_echo) := goodIn_app (goodIn_of _ (by decide +kernel)) ggX8_isEcho_X8_echo
theorem dX8_isEcho_0 : decode cX8_isEcho 0 = .ok (.iload_n 3, 1) := by decide +kernel
theorem dX8_isEcho_1 : decode cX8_isEcho 1 = .ok (.iconst (-1), 1) := by decide +kernel
theorem dX8_isEcho_2 : decode cX8_isEcho 2 = .ok (.if_icmp .eq 13, 3) := by decide +kernel
theorem dX8_isEcho_5 : decode cX8_isEcho 5 = .ok (.aload_n 0, 1) := by decide +kernel
theorem dX8_isEcho_6 : decode cX8_isEcho 6 = .ok (.iload_n 1, 1) := by decide +kernel
theorem dX8_isEcho_7 : decode cX8_isEcho 7 = .ok (.iload_n 2, 1) := by decide +kernel
theorem dX8_isEcho_8 : decode cX8_isEcho 8 = .ok (.invokevirtual 244, 3) := by decide +kernel
theorem dX8_isEcho_11 : decode cX8_isEcho 11 = .ok (.iload_n 3, 1) := by decide +kernel
theorem dX8_isEcho_12 : decode cX8_isEcho 12 = .ok (.if_icmp .ne 7, 3) := by decide +kernel
theorem dX8_isEcho_15 : decode cX8_isEcho 15 = .ok (.iconst 1, 1) := by decide +kernel
theorem dX8_isEcho_16 : decode cX8_isEcho 16 = .ok (.goto 4, 3) := by decide +kernel
theorem dX8_isEcho_19 : decode cX8_isEcho 19 = .ok (.iconst 0, 1) := by decide +kernel
theorem dX8_isEcho_20 : decode cX8_isEcho 20 = .ok (.ireturn, 1) := by decide +kernel
set_option maxRecDepth 100000 in
theorem r_X8_isEcho_0 {X : Bn} (C : Cx X cX8_isEcho 4 RX8 wsX8_isEcho 3 73) (ad : Nat → Nat) (S : MS) (x1 : Int32) (x2 : Int32) (x3 : Int32) (h : (((¬ x3 = (-1)) → (p_X8_echo x1 x2))) ∧ (Ends X (some .boolean) (some (.int (b2i (if x3 = (-1) then true else (if f_X8_echo S x1 x2 = x3 then true else false))))) (mW X.E ad S))) : At X 4 (mW X.E ad S) 0 [(0, .ref (ad 0)), (1, .int x1), (2, .int x2), (3, .int x3)] [] := by
  refine at_iload_n C dX8_isEcho_0 rfl (j := 3) rfl ?_
  refine at_iconst C dX8_isEcho_1 (v := (-1)) rfl ?_
  have hq := h.1
  replace h := h.2
  have K : At X 4 (mW X.E ad S) 20 [] [.int (b2i (if x3 = (-1) then true else (if f_X8_echo S x1 x2 = x3 then true else false)))] := by
    exact at_zret C dX8_isEcho_20 (b2i_nar _) h
  replace h := hq
  refine at_icmp_eq C dX8_isEcho_2 (tgt := 15) (by decide) (fun hc0 => ?_) (fun hc0 => ?_)
  · skip
    refine at_iconst C dX8_isEcho_15 (v := 1) rfl ?_
    refine at_goto C dX8_isEcho_16 (tgt := 20) (by decide) ?_
    refine at_lv [] rfl ?_
    first | (simp only [if_pos hc0] at K; exact K) | exact K
  · replace h := h hc0
    refine at_aload_n C dX8_isEcho_5 rfl (j := 0) rfl ?_
    refine at_iload_n C dX8_isEcho_6 rfl (j := 1) rfl ?_
    refine at_iload_n C dX8_isEcho_7 rfl (j := 2) rfl ?_
    refine at_cV1 C 2 (c_X8_echo X.l X.D X.E X.a1 X.a2 ad S x1 x2 h) gX8_isEcho_X8_echo rfl (by decide +kernel) ⟨rfl, rfl⟩ rfl rfl rfl 0 mW_c0 rfl dX8_isEcho_8 ?_
    refine at_iload_n C dX8_isEcho_11 rfl (j := 3) rfl ?_
    refine at_icmp_ne C dX8_isEcho_12 (tgt := 19) (by decide) (fun hc1 => ?_) (fun hc1 => ?_)
    · skip
      refine at_iconst C dX8_isEcho_19 (v := 0) rfl ?_
      refine at_lv [] rfl ?_
      first | (simp only [if_neg hc0, if_neg hc1] at K; exact K) | exact K
    · skip
      refine at_iconst C dX8_isEcho_15 (v := 1) rfl ?_
      refine at_goto C dX8_isEcho_16 (tgt := 20) (by decide) ?_
      refine at_lv [] rfl ?_
      first | (simp only [if_neg hc0, if_pos hc1] at K; exact K) | exact K
def f_X8_isEcho (S : MS) (x1 : Int32) (x2 : Int32) (x3 : Int32) : Bool := (if x3 = (-1) then true else (if f_X8_echo S x1 x2 = x3 then true else false))
def p_X8_isEcho (S : MS) (x1 : Int32) (x2 : Int32) (x3 : Int32) : Prop := (((¬ x3 = (-1)) → (p_X8_echo x1 x2)))
set_option maxRecDepth 100000 in
theorem c_X8_isEcho (l : Launch) (D : va_G) (E : Nat → ClassId) (a1 a2 : Nat) (ad : Nat → Nat) (S : MS) (x1 : Int32) (x2 : Int32) (x3 : Int32) (hp : p_X8_isEcho S x1 x2 x3) : Fn l D E a1 a2 yX8_isEcho wsX8_isEcho 3 73 [.ref (ad 0), .int x1, .int x2, .int x3] (mW E ad S) (some (.int (b2i (f_X8_isEcho S x1 x2 x3)))) (mW E ad S) := by
  refine Fn.of (cc := cX8_isEcho) (maxL := 4) (ret := (some .boolean)) (own := RX8) (by decide) rfl rfl rfl (Nat.le_of_ble_eq_true rfl) (fun X h1 h2 h3 h4 h5 C hE => ?_)
  subst h1 h2 h3 h4 h5
  refine r_X8_isEcho_0 C ad S x1 x2 x3 ?_
  refine ⟨hp, ?_⟩
  simp only [f_X8_isEcho, b2i_t, b2i_f] at hE
  exact hE
set_option maxRecDepth 20000 in
theorem ggX8_echoesOf_X8_isEcho : GoodIn wsX8_echoesOf wsX8_isEcho := goodIn_r _ [6, 7, 8, 9, 5, 10, 11, 12, 13, 14, 15, 1, 16, 17, 18, 19, 20, 21, 22, 23, 24, 25, 26, 27, 28, 29, 30, 31, 32, 33, 34, 35, 36] (by decide +kernel) (by decide +kernel)
set_option maxRecDepth 20000 in
theorem gX8_echoesOf_X8_isEcho : GoodIn wsX8_echoesOf (wsV RX8 261 RX8 yX8_isEcho wsX8_isEcho) := goodIn_app (goodIn_of _ (by decide +kernel)) ggX8_echoesOf_X8_isEcho
theorem dX8_echoesOf_0 : decode cX8_echoesOf 0 = .ok (.iconst 0, 1) := by decide +kernel
theorem dX8_echoesOf_1 : decode cX8_echoesOf 1 = .ok (.istore 6, 2) := by decide +kernel
theorem dX8_echoesOf_3 : decode cX8_echoesOf 3 = .ok (.iconst (-1), 1) := by decide +kernel
theorem dX8_echoesOf_4 : decode cX8_echoesOf 4 = .ok (.istore 7, 2) := by decide +kernel
theorem dX8_echoesOf_6 : decode cX8_echoesOf 6 = .ok (.bipush 63, 2) := by decide +kernel
theorem dX8_echoesOf_8 : decode cX8_echoesOf 8 = .ok (.istore 8, 2) := by decide +kernel
theorem dX8_echoesOf_10 : decode cX8_echoesOf 10 = .ok (.iload 8, 2) := by decide +kernel
theorem dX8_echoesOf_12 : decode cX8_echoesOf 12 = .ok (.ifCond .lt 71, 3) := by decide +kernel
theorem dX8_echoesOf_15 : decode cX8_echoesOf 15 = .ok (.aload_n 0, 1) := by decide +kernel
theorem dX8_echoesOf_16 : decode cX8_echoesOf 16 = .ok (.getfield 31, 3) := by decide +kernel
theorem dX8_echoesOf_19 : decode cX8_echoesOf 19 = .ok (.iload 8, 2) := by decide +kernel
theorem dX8_echoesOf_21 : decode cX8_echoesOf 21 = .ok (.baload, 1) := by decide +kernel
theorem dX8_echoesOf_22 : decode cX8_echoesOf 22 = .ok (.ifCond .eq 55, 3) := by decide +kernel
theorem dX8_echoesOf_25 : decode cX8_echoesOf 25 = .ok (.aload_n 0, 1) := by decide +kernel
theorem dX8_echoesOf_26 : decode cX8_echoesOf 26 = .ok (.iload 8, 2) := by decide +kernel
theorem dX8_echoesOf_28 : decode cX8_echoesOf 28 = .ok (.iconst 0, 1) := by decide +kernel
theorem dX8_echoesOf_29 : decode cX8_echoesOf 29 = .ok (.iload_n 1, 1) := by decide +kernel
theorem dX8_echoesOf_30 : decode cX8_echoesOf 30 = .ok (.invokevirtual 261, 3) := by decide +kernel
theorem dX8_echoesOf_33 : decode cX8_echoesOf 33 = .ok (.ifCond .eq 44, 3) := by decide +kernel
theorem dX8_echoesOf_36 : decode cX8_echoesOf 36 = .ok (.aload_n 0, 1) := by decide +kernel
theorem dX8_echoesOf_37 : decode cX8_echoesOf 37 = .ok (.iload 8, 2) := by decide +kernel
theorem dX8_echoesOf_39 : decode cX8_echoesOf 39 = .ok (.iconst 1, 1) := by decide +kernel
theorem dX8_echoesOf_40 : decode cX8_echoesOf 40 = .ok (.iload_n 2, 1) := by decide +kernel
theorem dX8_echoesOf_41 : decode cX8_echoesOf 41 = .ok (.invokevirtual 261, 3) := by decide +kernel
theorem dX8_echoesOf_44 : decode cX8_echoesOf 44 = .ok (.ifCond .eq 33, 3) := by decide +kernel
theorem dX8_echoesOf_47 : decode cX8_echoesOf 47 = .ok (.aload_n 0, 1) := by decide +kernel
theorem dX8_echoesOf_48 : decode cX8_echoesOf 48 = .ok (.iload 8, 2) := by decide +kernel
theorem dX8_echoesOf_50 : decode cX8_echoesOf 50 = .ok (.iconst 2, 1) := by decide +kernel
theorem dX8_echoesOf_51 : decode cX8_echoesOf 51 = .ok (.iload_n 3, 1) := by decide +kernel
theorem dX8_echoesOf_52 : decode cX8_echoesOf 52 = .ok (.invokevirtual 261, 3) := by decide +kernel
theorem dX8_echoesOf_55 : decode cX8_echoesOf 55 = .ok (.ifCond .eq 22, 3) := by decide +kernel
theorem dX8_echoesOf_58 : decode cX8_echoesOf 58 = .ok (.aload_n 0, 1) := by decide +kernel
theorem dX8_echoesOf_59 : decode cX8_echoesOf 59 = .ok (.iload 8, 2) := by decide +kernel
theorem dX8_echoesOf_61 : decode cX8_echoesOf 61 = .ok (.iconst 3, 1) := by decide +kernel
theorem dX8_echoesOf_62 : decode cX8_echoesOf 62 = .ok (.iload 4, 2) := by decide +kernel
theorem dX8_echoesOf_64 : decode cX8_echoesOf 64 = .ok (.invokevirtual 261, 3) := by decide +kernel
theorem dX8_echoesOf_67 : decode cX8_echoesOf 67 = .ok (.ifCond .eq 10, 3) := by decide +kernel
theorem dX8_echoesOf_70 : decode cX8_echoesOf 70 = .ok (.iinc 6 1, 3) := by decide +kernel
theorem dX8_echoesOf_73 : decode cX8_echoesOf 73 = .ok (.iload 8, 2) := by decide +kernel
theorem dX8_echoesOf_75 : decode cX8_echoesOf 75 = .ok (.istore 7, 2) := by decide +kernel
theorem dX8_echoesOf_77 : decode cX8_echoesOf 77 = .ok (.iinc 8 (-1), 3) := by decide +kernel
theorem dX8_echoesOf_80 : decode cX8_echoesOf 80 = .ok (.goto (-70), 3) := by decide +kernel
theorem dX8_echoesOf_83 : decode cX8_echoesOf 83 = .ok (.iload 5, 2) := by decide +kernel
theorem dX8_echoesOf_85 : decode cX8_echoesOf 85 = .ok (.ifCond .ne 8, 3) := by decide +kernel
theorem dX8_echoesOf_88 : decode cX8_echoesOf 88 = .ok (.iload 6, 2) := by decide +kernel
theorem dX8_echoesOf_90 : decode cX8_echoesOf 90 = .ok (.goto 5, 3) := by decide +kernel
theorem dX8_echoesOf_93 : decode cX8_echoesOf 93 = .ok (.iload 7, 2) := by decide +kernel
theorem dX8_echoesOf_95 : decode cX8_echoesOf 95 = .ok (.ireturn, 1) := by decide +kernel
theorem iw_X8_echoesOf_X8 : ∀ w ∈ u_ws RX8 TX8 18, w ∈ wsX8_echoesOf := by decide +kernel
theorem lk_X8_echoesOf_0 : Cond.fieldLink RX8 31 (TX8 10).1 (TX8 10).2.1 (TX8 10).2.2.1 ∈ wsX8_echoesOf := by decide +kernel
set_option maxRecDepth 100000 in
theorem r_X8_echoesOf_0 {X : Bn} (C : Cx X cX8_echoesOf 9 RX8 wsX8_echoesOf 4 96) (ad : Nat → Nat) (S : MS) (x1 : Int32) (x2 : Int32) (x3 : Int32) (x4 : Int32) (x5 : Int32) (h : At X 9 (mW X.E ad S) 10 [(0, .ref (ad 0)), (1, .int x1), (2, .int x2), (3, .int x3), (4, .int x4), (5, .int x5), (6, .int 0), (7, .int (-1)), (8, .int 63)] []) : At X 9 (mW X.E ad S) 0 [(0, .ref (ad 0)), (1, .int x1), (2, .int x2), (3, .int x3), (4, .int x4), (5, .int x5)] [] := by
  refine at_iconst C dX8_echoesOf_0 (v := 0) rfl ?_
  refine at_istore C dX8_echoesOf_1 (by decide) (lv' := [(6, .int 0), (0, .ref (ad 0)), (1, .int x1), (2, .int x2), (3, .int x3), (4, .int x4), (5, .int x5)]) rfl ?_
  refine at_iconst C dX8_echoesOf_3 (v := (-1)) rfl ?_
  refine at_istore C dX8_echoesOf_4 (by decide) (lv' := [(7, .int (-1)), (6, .int 0), (0, .ref (ad 0)), (1, .int x1), (2, .int x2), (3, .int x3), (4, .int x4), (5, .int x5)]) rfl ?_
  refine at_bipush C dX8_echoesOf_6 (v := 63) rfl ?_
  refine at_istore C dX8_echoesOf_8 (by decide) (lv' := [(8, .int 63), (7, .int (-1)), (6, .int 0), (0, .ref (ad 0)), (1, .int x1), (2, .int x2), (3, .int x3), (4, .int x4), (5, .int x5)]) rfl ?_
  refine at_lv [3, 4, 5, 6, 7, 8, 2, 1, 0] rfl ?_
  exact h
set_option maxRecDepth 100000 in
theorem r_X8_echoesOf_10 {X : Bn} (C : Cx X cX8_echoesOf 9 RX8 wsX8_echoesOf 4 96) (ad : Nat → Nat) (S : MS) (x1 : Int32) (x2 : Int32) (x3 : Int32) (x4 : Int32) (x5 : Int32) (x6 : Int32) (x7 : Int32) (x8 : Int32) (h : ((x8 < 0) → (Ends X (some .int) (some (.int (if x5 = 0 then x6 else x7))) (mW X.E ad S))) ∧ (¬ x8 < 0 → ((vp_in x8 64) ∧ ((((¬ S.1 10 x8.toNatClampNeg = 0) → (p_X8_isEcho S x8 (0 : Int32) x1) ∧ (((f_X8_isEcho S x8 (0 : Int32) x1) = true) → (p_X8_isEcho S x8 (1 : Int32) x2) ∧ (((f_X8_isEcho S x8 (1 : Int32) x2) = true) → (p_X8_isEcho S x8 (2 : Int32) x3) ∧ (((f_X8_isEcho S x8 (2 : Int32) x3) = true) → (p_X8_isEcho S x8 (3 : Int32) x4)))))) ∧ (At X 9 (mW X.E ad S) 10 [(0, .ref (ad 0)), (1, .int x1), (2, .int x2), (3, .int x3), (4, .int x4), (5, .int x5), (6, .int (if S.1 10 x8.toNatClampNeg = 0 then x6 else (if (f_X8_isEcho S x8 (0 : Int32) x1) then (if (f_X8_isEcho S x8 (1 : Int32) x2) then (if (f_X8_isEcho S x8 (2 : Int32) x3) then (if (f_X8_isEcho S x8 (3 : Int32) x4) then x6 + 1 else x6) else x6) else x6) else x6))), (7, .int (if S.1 10 x8.toNatClampNeg = 0 then x7 else (if (f_X8_isEcho S x8 (0 : Int32) x1) then (if (f_X8_isEcho S x8 (1 : Int32) x2) then (if (f_X8_isEcho S x8 (2 : Int32) x3) then (if (f_X8_isEcho S x8 (3 : Int32) x4) then x8 else x7) else x7) else x7) else x7))), (8, .int (x8 + (-1)))] []))))) : At X 9 (mW X.E ad S) 10 [(0, .ref (ad 0)), (1, .int x1), (2, .int x2), (3, .int x3), (4, .int x4), (5, .int x5), (6, .int x6), (7, .int x7), (8, .int x8)] [] := by
  refine at_iload C dX8_echoesOf_10 (j := 8) rfl ?_
  refine at_if_lt C dX8_echoesOf_12 (tgt := 83) (by decide) (fun hc0 => ?_) (fun hc0 => ?_)
  · replace h := h.1 hc0
    refine at_iload C dX8_echoesOf_83 (j := 5) rfl ?_
    have K : At X 9 (mW X.E ad S) 95 [] [.int (if x5 = 0 then x6 else x7)] := by
      exact at_iret C dX8_echoesOf_95 h
    refine at_if_ne C dX8_echoesOf_85 (tgt := 93) (by decide) (fun hc1 => ?_) (fun hc1 => ?_)
    · skip
      refine at_iload C dX8_echoesOf_93 (j := 7) rfl ?_
      refine at_lv [] rfl ?_
      first | (simp only [if_neg hc1] at K; exact K) | exact K
    · skip
      refine at_iload C dX8_echoesOf_88 (j := 6) rfl ?_
      refine at_goto C dX8_echoesOf_90 (tgt := 95) (by decide) ?_
      refine at_lv [] rfl ?_
      first | (simp only [if_pos hc1] at K; exact K) | exact K
  · replace h := h.2 hc0
    refine at_aload_n C dX8_echoesOf_15 rfl (j := 0) rfl ?_
    refine at_get C (K := RX8) (T := TX8) (N := 18) (ci := 7) (v := .ref (ad 8)) iw_X8_echoesOf_X8 0 mW_c0 rfl 10 (by decide) lk_X8_echoesOf_0 rfl dX8_echoesOf_16 ?_
    refine at_iload C dX8_echoesOf_19 (j := 8) rfl ?_
    refine at_zald C 8 mW_c8 h.1 dX8_echoesOf_21 ?_
    replace h := h.2
    have hq := h.1
    replace h := h.2
    have K : At X 9 (mW X.E ad S) 77 [(0, .ref (ad 0)), (1, .int x1), (2, .int x2), (3, .int x3), (4, .int x4), (5, .int x5), (6, .int (if S.1 10 x8.toNatClampNeg = 0 then x6 else (if (f_X8_isEcho S x8 (0 : Int32) x1) then (if (f_X8_isEcho S x8 (1 : Int32) x2) then (if (f_X8_isEcho S x8 (2 : Int32) x3) then (if (f_X8_isEcho S x8 (3 : Int32) x4) then x6 + 1 else x6) else x6) else x6) else x6))), (7, .int (if S.1 10 x8.toNatClampNeg = 0 then x7 else (if (f_X8_isEcho S x8 (0 : Int32) x1) then (if (f_X8_isEcho S x8 (1 : Int32) x2) then (if (f_X8_isEcho S x8 (2 : Int32) x3) then (if (f_X8_isEcho S x8 (3 : Int32) x4) then x8 else x7) else x7) else x7) else x7))), (8, .int x8)] [] := by
      refine at_iinc C dX8_echoesOf_77 (j := 8) (v := x8 + (-1)) rfl rfl (by decide) (lv' := [(8, .int (x8 + (-1))), (0, .ref (ad 0)), (1, .int x1), (2, .int x2), (3, .int x3), (4, .int x4), (5, .int x5), (6, .int (if S.1 10 x8.toNatClampNeg = 0 then x6 else (if (f_X8_isEcho S x8 (0 : Int32) x1) then (if (f_X8_isEcho S x8 (1 : Int32) x2) then (if (f_X8_isEcho S x8 (2 : Int32) x3) then (if (f_X8_isEcho S x8 (3 : Int32) x4) then x6 + 1 else x6) else x6) else x6) else x6))), (7, .int (if S.1 10 x8.toNatClampNeg = 0 then x7 else (if (f_X8_isEcho S x8 (0 : Int32) x1) then (if (f_X8_isEcho S x8 (1 : Int32) x2) then (if (f_X8_isEcho S x8 (2 : Int32) x3) then (if (f_X8_isEcho S x8 (3 : Int32) x4) then x8 else x7) else x7) else x7) else x7)))]) rfl ?_
      refine at_goto C dX8_echoesOf_80 (tgt := 10) (by decide) ?_
      refine at_lv [1, 2, 3, 4, 5, 6, 7, 8, 0] rfl ?_
      exact h
    replace h := hq
    refine at_if_eq C dX8_echoesOf_22 (tgt := 77) (by decide) (fun hc1 => ?_) (fun hc1 => ?_)
    · skip
      first | (simp only [if_pos hc1] at K; exact K) | exact K
    · replace h := h hc1
      refine at_aload_n C dX8_echoesOf_25 rfl (j := 0) rfl ?_
      refine at_iload C dX8_echoesOf_26 (j := 8) rfl ?_
      refine at_iconst C dX8_echoesOf_28 (v := 0) rfl ?_
      refine at_iload_n C dX8_echoesOf_29 rfl (j := 1) rfl ?_
      refine at_cV1 C 3 (c_X8_isEcho X.l X.D X.E X.a1 X.a2 ad S x8 (0 : Int32) x1 h.1) gX8_echoesOf_X8_isEcho rfl (by decide +kernel) ⟨rfl, rfl⟩ rfl rfl rfl 0 mW_c0 rfl dX8_echoesOf_30 ?_
      replace h := h.2
      refine at_ifB_eq C dX8_echoesOf_33 (tgt := 77) (by decide) (fun hc2 => ?_) (fun hc2 => ?_)
      · skip
        first | (simp only [if_neg hc1, if_neg (show ¬ (f_X8_isEcho S x8 (0 : Int32) x1) = true by rw [hc2]; decide)] at K; exact K) | exact K
      · replace h := h hc2
        refine at_aload_n C dX8_echoesOf_36 rfl (j := 0) rfl ?_
        refine at_iload C dX8_echoesOf_37 (j := 8) rfl ?_
        refine at_iconst C dX8_echoesOf_39 (v := 1) rfl ?_
        refine at_iload_n C dX8_echoesOf_40 rfl (j := 2) rfl ?_
        refine at_cV1 C 3 (c_X8_isEcho X.l X.D X.E X.a1 X.a2 ad S x8 (1 : Int32) x2 h.1) gX8_echoesOf_X8_isEcho rfl (by decide +kernel) ⟨rfl, rfl⟩ rfl rfl rfl 0 mW_c0 rfl dX8_echoesOf_41 ?_
        replace h := h.2
        refine at_ifB_eq C dX8_echoesOf_44 (tgt := 77) (by decide) (fun hc3 => ?_) (fun hc3 => ?_)
        · skip
          first | (simp only [if_neg hc1, if_pos hc2, if_neg (show ¬ (f_X8_isEcho S x8 (1 : Int32) x2) = true by rw [hc3]; decide)] at K; exact K) | exact K
        · replace h := h hc3
          refine at_aload_n C dX8_echoesOf_47 rfl (j := 0) rfl ?_
          refine at_iload C dX8_echoesOf_48 (j := 8) rfl ?_
          refine at_iconst C dX8_echoesOf_50 (v := 2) rfl ?_
          refine at_iload_n C dX8_echoesOf_51 rfl (j := 3) rfl ?_
          refine at_cV1 C 3 (c_X8_isEcho X.l X.D X.E X.a1 X.a2 ad S x8 (2 : Int32) x3 h.1) gX8_echoesOf_X8_isEcho rfl (by decide +kernel) ⟨rfl, rfl⟩ rfl rfl rfl 0 mW_c0 rfl dX8_echoesOf_52 ?_
          replace h := h.2
          refine at_ifB_eq C dX8_echoesOf_55 (tgt := 77) (by decide) (fun hc4 => ?_) (fun hc4 => ?_)
          · skip
            first | (simp only [if_neg hc1, if_pos hc2, if_pos hc3, if_neg (show ¬ (f_X8_isEcho S x8 (2 : Int32) x3) = true by rw [hc4]; decide)] at K; exact K) | exact K
          · replace h := h hc4
            refine at_aload_n C dX8_echoesOf_58 rfl (j := 0) rfl ?_
            refine at_iload C dX8_echoesOf_59 (j := 8) rfl ?_
            refine at_iconst C dX8_echoesOf_61 (v := 3) rfl ?_
            refine at_iload C dX8_echoesOf_62 (j := 4) rfl ?_
            refine at_cV1 C 3 (c_X8_isEcho X.l X.D X.E X.a1 X.a2 ad S x8 (3 : Int32) x4 h) gX8_echoesOf_X8_isEcho rfl (by decide +kernel) ⟨rfl, rfl⟩ rfl rfl rfl 0 mW_c0 rfl dX8_echoesOf_64 ?_
            refine at_ifB_eq C dX8_echoesOf_67 (tgt := 77) (by decide) (fun hc5 => ?_) (fun hc5 => ?_)
            · skip
              first | (simp only [if_neg hc1, if_pos hc2, if_pos hc3, if_pos hc4, if_neg (show ¬ (f_X8_isEcho S x8 (3 : Int32) x4) = true by rw [hc5]; decide)] at K; exact K) | exact K
            · skip
              refine at_iinc C dX8_echoesOf_70 (j := 6) (v := x6 + 1) rfl rfl (by decide) (lv' := [(6, .int (x6 + 1)), (0, .ref (ad 0)), (1, .int x1), (2, .int x2), (3, .int x3), (4, .int x4), (5, .int x5), (7, .int x7), (8, .int x8)]) rfl ?_
              refine at_iload C dX8_echoesOf_73 (j := 8) rfl ?_
              refine at_istore C dX8_echoesOf_75 (by decide) (lv' := [(7, .int x8), (6, .int (x6 + 1)), (0, .ref (ad 0)), (1, .int x1), (2, .int x2), (3, .int x3), (4, .int x4), (5, .int x5), (8, .int x8)]) rfl ?_
              refine at_lv [2, 3, 4, 5, 6, 7, 1, 0, 8] rfl ?_
              first | (simp only [if_neg hc1, if_pos hc2, if_pos hc3, if_pos hc4, if_pos hc5] at K; exact K) | exact K
theorem dX8_part_0 : decode cX8_part 0 = .ok (.lload_n 0, 1) := by decide +kernel
theorem dX8_part_1 : decode cX8_part 1 = .ok (.lstore 5, 2) := by decide +kernel
theorem dX8_part_3 : decode cX8_part 3 = .ok (.lload_n 2, 1) := by decide +kernel
theorem dX8_part_4 : decode cX8_part 4 = .ok (.lstore 7, 2) := by decide +kernel
theorem dX8_part_6 : decode cX8_part 6 = .ok (.lload 7, 2) := by decide +kernel
theorem dX8_part_8 : decode cX8_part 8 = .ok (.lconst 0, 1) := by decide +kernel
theorem dX8_part_9 : decode cX8_part 9 = .ok (.lcmp, 1) := by decide +kernel
theorem dX8_part_10 : decode cX8_part 10 = .ok (.ifCond .eq 21, 3) := by decide +kernel
theorem dX8_part_13 : decode cX8_part 13 = .ok (.lload 5, 2) := by decide +kernel
theorem dX8_part_15 : decode cX8_part 15 = .ok (.lload 7, 2) := by decide +kernel
theorem dX8_part_17 : decode cX8_part 17 = .ok (.lrem, 1) := by decide +kernel
theorem dX8_part_18 : decode cX8_part 18 = .ok (.lstore 9, 2) := by decide +kernel
theorem dX8_part_20 : decode cX8_part 20 = .ok (.lload 7, 2) := by decide +kernel
theorem dX8_part_22 : decode cX8_part 22 = .ok (.lstore 5, 2) := by decide +kernel
theorem dX8_part_24 : decode cX8_part 24 = .ok (.lload 9, 2) := by decide +kernel
theorem dX8_part_26 : decode cX8_part 26 = .ok (.lstore 7, 2) := by decide +kernel
theorem dX8_part_28 : decode cX8_part 28 = .ok (.goto (-22), 3) := by decide +kernel
theorem dX8_part_31 : decode cX8_part 31 = .ok (.iload 4, 2) := by decide +kernel
theorem dX8_part_33 : decode cX8_part 33 = .ok (.ifCond .ne 7, 3) := by decide +kernel
theorem dX8_part_36 : decode cX8_part 36 = .ok (.lload_n 0, 1) := by decide +kernel
theorem dX8_part_37 : decode cX8_part 37 = .ok (.goto 4, 3) := by decide +kernel
theorem dX8_part_40 : decode cX8_part 40 = .ok (.lload_n 2, 1) := by decide +kernel
theorem dX8_part_41 : decode cX8_part 41 = .ok (.lload 5, 2) := by decide +kernel
theorem dX8_part_43 : decode cX8_part 43 = .ok (.ldiv, 1) := by decide +kernel
theorem dX8_part_44 : decode cX8_part 44 = .ok (.lreturn, 1) := by decide +kernel
set_option maxRecDepth 100000 in
theorem r_X8_part_0 {X : Bn} (C : Cx X cX8_part 11 RX8 wsX8_part 0 0) {ws : va_W} (x0 : Int64) (x2 : Int64) (x4 : Int32) (h : At X 11 (ws) 6 [(0, .long x0), (2, .long x2), (4, .int x4), (5, .long x0), (7, .long x2)] []) : At X 11 (ws) 0 [(0, .long x0), (2, .long x2), (4, .int x4)] [] := by
  refine at_lload_n C dX8_part_0 rfl (j := 0) rfl ?_
  refine at_lstore C dX8_part_1 (by decide) (lv' := [(5, .long x0), (0, .long x0), (2, .long x2), (4, .int x4)]) rfl ?_
  refine at_lload_n C dX8_part_3 rfl (j := 2) rfl ?_
  refine at_lstore C dX8_part_4 (by decide) (lv' := [(7, .long x2), (5, .long x0), (0, .long x0), (2, .long x2), (4, .int x4)]) rfl ?_
  refine at_lv [2, 3, 4, 1, 0] rfl ?_
  exact h
set_option maxRecDepth 100000 in
theorem r_X8_part_6 {X : Bn} (C : Cx X cX8_part 11 RX8 wsX8_part 0 0) {ws : va_W} (x0 : Int64) (x2 : Int64) (x4 : Int32) (x5 : Int64) (x7 : Int64) (h : ((x7 = 0) → ((¬ x5 = 0) ∧ (Ends X (some .long) (some (.long ((if x4 = 0 then x0 else x2) / x5))) (ws)))) ∧ (¬ x7 = 0 → ((¬ x7 = 0) ∧ (At X 11 (ws) 6 [(0, .long x0), (2, .long x2), (4, .int x4), (5, .long x7), (7, .long (lrm x5 x7))] [])))) : At X 11 (ws) 6 [(0, .long x0), (2, .long x2), (4, .int x4), (5, .long x5), (7, .long x7)] [] := by
  refine at_lload C dX8_part_6 (j := 4) rfl ?_
  refine at_lconst C dX8_part_8 (v := 0) rfl ?_
  refine at_lif_eq C dX8_part_9 dX8_part_10 (tgt := 31) (by decide) (fun hc0 => ?_) (fun hc0 => ?_)
  · replace h := h.1 hc0
    refine at_iload C dX8_part_31 (j := 2) rfl ?_
    have K : At X 11 (ws) 41 [(5, .long x5)] [.long (if x4 = 0 then x0 else x2)] := by
      refine at_lload C dX8_part_41 (j := 0) rfl ?_
      refine at_ldiv C dX8_part_43 h.1 ?_
      replace h := h.2
      exact at_lret C dX8_part_44 h
    refine at_if_ne C dX8_part_33 (tgt := 40) (by decide) (fun hc1 => ?_) (fun hc1 => ?_)
    · skip
      refine at_lload_n C dX8_part_40 rfl (j := 1) rfl ?_
      refine at_lv [3] rfl ?_
      first | (simp only [if_neg hc1] at K; exact K) | exact K
    · skip
      refine at_lload_n C dX8_part_36 rfl (j := 0) rfl ?_
      refine at_goto C dX8_part_37 (tgt := 41) (by decide) ?_
      refine at_lv [3] rfl ?_
      first | (simp only [if_pos hc1] at K; exact K) | exact K
  · replace h := h.2 hc0
    refine at_lload C dX8_part_13 (j := 3) rfl ?_
    refine at_lload C dX8_part_15 (j := 4) rfl ?_
    refine at_lrem C dX8_part_17 h.1 ?_
    replace h := h.2
    refine at_lstore C dX8_part_18 (by decide) (lv' := [(9, .long (lrm x5 x7)), (0, .long x0), (2, .long x2), (4, .int x4), (5, .long x5), (7, .long x7)]) rfl ?_
    refine at_lload C dX8_part_20 (j := 5) rfl ?_
    refine at_lstore C dX8_part_22 (by decide) (lv' := [(5, .long x7), (9, .long (lrm x5 x7)), (0, .long x0), (2, .long x2), (4, .int x4), (7, .long x7)]) rfl ?_
    refine at_lload C dX8_part_24 (j := 1) rfl ?_
    refine at_lstore C dX8_part_26 (by decide) (lv' := [(7, .long (lrm x5 x7)), (5, .long x7), (9, .long (lrm x5 x7)), (0, .long x0), (2, .long x2), (4, .int x4)]) rfl ?_
    refine at_goto C dX8_part_28 (tgt := 6) (by decide) ?_
    refine at_lv [3, 4, 5, 1, 0] rfl ?_
    exact h
set_option maxRecDepth 20000 in
theorem ggX8_fogOf_X8_stepsTo : GoodIn wsX8_fogOf wsX8_stepsTo := goodIn_r _ [6, 7, 8, 9, 5, 10, 11, 12, 13, 14, 15, 19, 20, 21, 22, 23, 24, 25, 26, 27, 28, 29, 30, 31, 32, 33, 34, 35, 36] (by decide +kernel) (by decide +kernel)
set_option maxRecDepth 20000 in
theorem gX8_fogOf_X8_stepsTo : GoodIn wsX8_fogOf (wsV RX8 253 RX8 yX8_stepsTo wsX8_stepsTo) := goodIn_app (goodIn_of _ (by decide +kernel)) ggX8_fogOf_X8_stepsTo
set_option maxRecDepth 20000 in
theorem ggX8_fogOf_X8_part : GoodIn wsX8_fogOf wsX8_part := goodIn_r _ [18] (by decide +kernel) (by decide +kernel)
set_option maxRecDepth 20000 in
theorem gX8_fogOf_X8_part : GoodIn wsX8_fogOf (va_wsS RX8 272 yX8_part wsX8_part) := goodIn_app (goodIn_of _ (by decide +kernel)) ggX8_fogOf_X8_part
theorem dX8_fogOf_0 : decode cX8_fogOf 0 = .ok (.aload_n 0, 1) := by decide +kernel
theorem dX8_fogOf_1 : decode cX8_fogOf 1 = .ok (.iload_n 1, 1) := by decide +kernel
theorem dX8_fogOf_2 : decode cX8_fogOf 2 = .ok (.iload_n 2, 1) := by decide +kernel
theorem dX8_fogOf_3 : decode cX8_fogOf 3 = .ok (.invokevirtual 253, 3) := by decide +kernel
theorem dX8_fogOf_6 : decode cX8_fogOf 6 = .ok (.istore 5, 2) := by decide +kernel
theorem dX8_fogOf_8 : decode cX8_fogOf 8 = .ok (.iload 5, 2) := by decide +kernel
theorem dX8_fogOf_10 : decode cX8_fogOf 10 = .ok (.iconst (-1), 1) := by decide +kernel
theorem dX8_fogOf_11 : decode cX8_fogOf 11 = .ok (.if_icmp .ne 7, 3) := by decide +kernel
theorem dX8_fogOf_14 : decode cX8_fogOf 14 = .ok (.lconst 0, 1) := by decide +kernel
theorem dX8_fogOf_15 : decode cX8_fogOf 15 = .ok (.goto 4, 3) := by decide +kernel
theorem dX8_fogOf_18 : decode cX8_fogOf 18 = .ok (.lconst 1, 1) := by decide +kernel
theorem dX8_fogOf_19 : decode cX8_fogOf 19 = .ok (.lstore 6, 2) := by decide +kernel
theorem dX8_fogOf_21 : decode cX8_fogOf 21 = .ok (.lconst 1, 1) := by decide +kernel
theorem dX8_fogOf_22 : decode cX8_fogOf 22 = .ok (.lstore 8, 2) := by decide +kernel
theorem dX8_fogOf_24 : decode cX8_fogOf 24 = .ok (.iconst 0, 1) := by decide +kernel
theorem dX8_fogOf_25 : decode cX8_fogOf 25 = .ok (.istore 10, 2) := by decide +kernel
theorem dX8_fogOf_27 : decode cX8_fogOf 27 = .ok (.iload 10, 2) := by decide +kernel
theorem dX8_fogOf_29 : decode cX8_fogOf 29 = .ok (.iload 5, 2) := by decide +kernel
theorem dX8_fogOf_31 : decode cX8_fogOf 31 = .ok (.if_icmp .ge 27, 3) := by decide +kernel
theorem dX8_fogOf_34 : decode cX8_fogOf 34 = .ok (.lload 6, 2) := by decide +kernel
theorem dX8_fogOf_36 : decode cX8_fogOf 36 = .ok (.bipush 16, 2) := by decide +kernel
theorem dX8_fogOf_38 : decode cX8_fogOf 38 = .ok (.iload_n 3, 1) := by decide +kernel
theorem dX8_fogOf_39 : decode cX8_fogOf 39 = .ok (.isub, 1) := by decide +kernel
theorem dX8_fogOf_40 : decode cX8_fogOf 40 = .ok (.i2l, 1) := by decide +kernel
theorem dX8_fogOf_41 : decode cX8_fogOf 41 = .ok (.lmul, 1) := by decide +kernel
theorem dX8_fogOf_42 : decode cX8_fogOf 42 = .ok (.lstore 6, 2) := by decide +kernel
theorem dX8_fogOf_44 : decode cX8_fogOf 44 = .ok (.lload 8, 2) := by decide +kernel
theorem dX8_fogOf_46 : decode cX8_fogOf 46 = .ok (.ldc2_w 270, 3) := by decide +kernel
theorem dX8_fogOf_49 : decode cX8_fogOf 49 = .ok (.lmul, 1) := by decide +kernel
theorem dX8_fogOf_50 : decode cX8_fogOf 50 = .ok (.lstore 8, 2) := by decide +kernel
theorem dX8_fogOf_52 : decode cX8_fogOf 52 = .ok (.iinc 10 1, 3) := by decide +kernel
theorem dX8_fogOf_55 : decode cX8_fogOf 55 = .ok (.goto (-28), 3) := by decide +kernel
theorem dX8_fogOf_58 : decode cX8_fogOf 58 = .ok (.lload 6, 2) := by decide +kernel
theorem dX8_fogOf_60 : decode cX8_fogOf 60 = .ok (.lload 8, 2) := by decide +kernel
theorem dX8_fogOf_62 : decode cX8_fogOf 62 = .ok (.iload 4, 2) := by decide +kernel
theorem dX8_fogOf_64 : decode cX8_fogOf 64 = .ok (.invokestatic 272, 3) := by decide +kernel
theorem dX8_fogOf_67 : decode cX8_fogOf 67 = .ok (.lreturn, 1) := by decide +kernel
theorem lk_X8_fogOf_0 : Cond.constantLong RX8 270 16 ∈ wsX8_fogOf := by decide +kernel
set_option maxRecDepth 100000 in
theorem r_X8_fogOf_0 {X : Bn} (C : Cx X cX8_fogOf 11 RX8 wsX8_fogOf 3 75) (ad : Nat → Nat) (S : MS) (x1 : Int32) (x2 : Int32) (x3 : Int32) (x4 : Int32) (h : (p_X8_stepsTo x1 x2) ∧ (At X 11 (mW X.E ad S) 27 [(3, .int x3), (4, .int x4), (5, .int (f_X8_stepsTo S x1 x2)), (6, .int (b2i (if f_X8_stepsTo S x1 x2 = (-1) then false else true))), (8, .long 1), (10, .int 0)] [])) : At X 11 (mW X.E ad S) 0 [(0, .ref (ad 0)), (1, .int x1), (2, .int x2), (3, .int x3), (4, .int x4)] [] := by
  refine at_aload_n C dX8_fogOf_0 rfl (j := 0) rfl ?_
  refine at_iload_n C dX8_fogOf_1 rfl (j := 1) rfl ?_
  refine at_iload_n C dX8_fogOf_2 rfl (j := 2) rfl ?_
  refine at_cV1 C 2 (c_X8_stepsTo X.l X.D X.E X.a1 X.a2 ad S x1 x2 h.1) gX8_fogOf_X8_stepsTo rfl (by decide +kernel) ⟨rfl, rfl⟩ rfl rfl rfl 0 mW_c0 rfl dX8_fogOf_3 ?_
  replace h := h.2
  refine at_istore C dX8_fogOf_6 (by decide) (lv' := [(5, .int (f_X8_stepsTo S x1 x2)), (0, .ref (ad 0)), (1, .int x1), (2, .int x2), (3, .int x3), (4, .int x4)]) rfl ?_
  refine at_iload C dX8_fogOf_8 (j := 0) rfl ?_
  refine at_iconst C dX8_fogOf_10 (v := (-1)) rfl ?_
  have K : At X 11 (mW X.E ad S) 19 [(3, .int x3), (4, .int x4), (5, .int (f_X8_stepsTo S x1 x2))] [.int (b2i (if f_X8_stepsTo S x1 x2 = (-1) then false else true))] := by
    refine at_lstore C dX8_fogOf_19 (by decide) (lv' := [(6, .int (b2i (if f_X8_stepsTo S x1 x2 = (-1) then false else true))), (3, .int x3), (4, .int x4), (5, .int (f_X8_stepsTo S x1 x2))]) rfl ?_
    refine at_lconst C dX8_fogOf_21 (v := 1) rfl ?_
    refine at_lstore C dX8_fogOf_22 (by decide) (lv' := [(8, .long 1), (6, .int (b2i (if f_X8_stepsTo S x1 x2 = (-1) then false else true))), (3, .int x3), (4, .int x4), (5, .int (f_X8_stepsTo S x1 x2))]) rfl ?_
    refine at_iconst C dX8_fogOf_24 (v := 0) rfl ?_
    refine at_istore C dX8_fogOf_25 (by decide) (lv' := [(10, .int 0), (8, .long 1), (6, .int (b2i (if f_X8_stepsTo S x1 x2 = (-1) then false else true))), (3, .int x3), (4, .int x4), (5, .int (f_X8_stepsTo S x1 x2))]) rfl ?_
    refine at_lv [3, 4, 5, 2, 1, 0] rfl ?_
    exact h
  refine at_icmp_ne C dX8_fogOf_11 (tgt := 18) (by decide) (fun hc0 => ?_) (fun hc0 => ?_)
  · skip
    refine at_lconst C dX8_fogOf_18 (v := 1) rfl ?_
    refine at_lv [4, 5, 0] rfl ?_
    first | (simp only [if_neg hc0] at K; exact K) | exact K
  · skip
    refine at_lconst C dX8_fogOf_14 (v := 0) rfl ?_
    refine at_goto C dX8_fogOf_15 (tgt := 19) (by decide) ?_
    refine at_lv [4, 5, 0] rfl ?_
    first | (simp only [if_pos hc0] at K; exact K) | exact K
set_option maxRecDepth 100000 in
theorem r_X8_fogOf_27 {X : Bn} (C : Cx X cX8_fogOf 11 RX8 wsX8_fogOf 3 75) (ad : Nat → Nat) (S : MS) (x3 : Int32) (x4 : Int32) (x5 : Int32) (x6 : Int64) (x8 : Int64) (x10 : Int32) (h : ((x5 ≤ x10) → ((p_X8_part x6 x8) ∧ (Ends X (some .long) (some (.long (f_X8_part x6 x8 x4))) (mW X.E ad S)))) ∧ (¬ x5 ≤ x10 → (At X 11 (mW X.E ad S) 27 [(3, .int x3), (4, .int x4), (5, .int x5), (6, .long (x6 * ((16 - x3).toInt64))), (8, .long (x8 * 16)), (10, .int (x10 + 1))] []))) : At X 11 (mW X.E ad S) 27 [(3, .int x3), (4, .int x4), (5, .int x5), (6, .long x6), (8, .long x8), (10, .int x10)] [] := by
  refine at_iload C dX8_fogOf_27 (j := 5) rfl ?_
  refine at_iload C dX8_fogOf_29 (j := 2) rfl ?_
  refine at_icmp_ge C dX8_fogOf_31 (tgt := 58) (by decide) (fun hc0 => ?_) (fun hc0 => ?_)
  · replace h := h.1 hc0
    refine at_lload C dX8_fogOf_58 (j := 3) rfl ?_
    refine at_lload C dX8_fogOf_60 (j := 4) rfl ?_
    refine at_iload C dX8_fogOf_62 (j := 1) rfl ?_
    refine at_cS0 C 3 (c_X8_part X.l X.D X.E X.a1 X.a2 x6 x8 x4 h.1) gX8_fogOf_X8_part rfl (by decide +kernel) ⟨rfl, rfl⟩ rfl rfl rfl dX8_fogOf_64 ?_
    replace h := h.2
    exact at_lret C dX8_fogOf_67 h
  · replace h := h.2 hc0
    refine at_lload C dX8_fogOf_34 (j := 3) rfl ?_
    refine at_bipush C dX8_fogOf_36 (v := 16) rfl ?_
    refine at_iload_n C dX8_fogOf_38 rfl (j := 0) rfl ?_
    refine at_isub C dX8_fogOf_39 ?_
    refine at_i2l C dX8_fogOf_40 ?_
    refine at_lmul C dX8_fogOf_41 ?_
    refine at_lstore C dX8_fogOf_42 (by decide) (lv' := [(6, .long (x6 * ((16 - x3).toInt64))), (3, .int x3), (4, .int x4), (5, .int x5), (8, .long x8), (10, .int x10)]) rfl ?_
    refine at_lload C dX8_fogOf_44 (j := 4) rfl ?_
    refine at_ldc2 C lk_X8_fogOf_0 dX8_fogOf_46 ?_
    refine at_lmul C dX8_fogOf_49 ?_
    refine at_lstore C dX8_fogOf_50 (by decide) (lv' := [(8, .long (x8 * 16)), (6, .long (x6 * ((16 - x3).toInt64))), (3, .int x3), (4, .int x4), (5, .int x5), (10, .int x10)]) rfl ?_
    refine at_iinc C dX8_fogOf_52 (j := 5) (v := x10 + 1) rfl rfl (by decide) (lv' := [(10, .int (x10 + 1)), (8, .long (x8 * 16)), (6, .long (x6 * ((16 - x3).toInt64))), (3, .int x3), (4, .int x4), (5, .int x5)]) rfl ?_
    refine at_goto C dX8_fogOf_55 (tgt := 27) (by decide) ?_
    refine at_lv [3, 4, 5, 2, 1, 0] rfl ?_
    exact h
