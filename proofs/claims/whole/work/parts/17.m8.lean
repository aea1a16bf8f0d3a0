set_option maxRecDepth 20000 in
theorem ggX8_readsHouse_X8_clears : GoodIn wsX8_readsHouse wsX8_clears := goodIn_r _ [7, 8, 18, 19, 20, 21, 22, 23, 24, 25, 26, 27, 28, 29, 30, 31, 32, 33, 34, 35] (by decide +kernel) (by decide +kernel)
set_option maxRecDepth 20000 in
theorem gX8_readsHouse_X8_clears : GoodIn wsX8_readsHouse (wsV RX8 112 RX8 yX8_clears wsX8_clears) := goodIn_app (goodIn_of _ (by decide +kernel)) ggX8_readsHouse_X8_clears
set_option maxRecDepth 20000 in
theorem ggX8_readsHouse_X8_readsRow : GoodIn wsX8_readsHouse wsX8_readsRow := goodIn_r _ [12, 1, 2, 8, 13, 14, 15, 6, 16, 17, 18, 19, 20, 21, 22, 23, 24, 25, 26, 27, 28, 29, 30, 31, 32, 33, 34, 35] (by decide +kernel) (by decide +kernel)
set_option maxRecDepth 20000 in
theorem gX8_readsHouse_X8_readsRow : GoodIn wsX8_readsHouse (wsV RX8 115 RX8 yX8_readsRow wsX8_readsRow) := goodIn_app (goodIn_of _ (by decide +kernel)) ggX8_readsHouse_X8_readsRow
theorem dX8_readsHouse_0 : decode cX8_readsHouse 0 = .ok (.aload_n 0, 1) := by decide +kernel
theorem dX8_readsHouse_1 : decode cX8_readsHouse 1 = .ok (.invokevirtual 112, 3) := by decide +kernel
theorem dX8_readsHouse_4 : decode cX8_readsHouse 4 = .ok (.aload_n 0, 1) := by decide +kernel
theorem dX8_readsHouse_5 : decode cX8_readsHouse 5 = .ok (.iconst 0, 1) := by decide +kernel
theorem dX8_readsHouse_6 : decode cX8_readsHouse 6 = .ok (.putfield 87, 3) := by decide +kernel
theorem dX8_readsHouse_9 : decode cX8_readsHouse 9 = .ok (.iconst 0, 1) := by decide +kernel
theorem dX8_readsHouse_10 : decode cX8_readsHouse 10 = .ok (.istore_n 1, 1) := by decide +kernel
theorem dX8_readsHouse_11 : decode cX8_readsHouse 11 = .ok (.iconst 0, 1) := by decide +kernel
theorem dX8_readsHouse_12 : decode cX8_readsHouse 12 = .ok (.istore_n 2, 1) := by decide +kernel
theorem dX8_readsHouse_13 : decode cX8_readsHouse 13 = .ok (.aload_n 0, 1) := by decide +kernel
theorem dX8_readsHouse_14 : decode cX8_readsHouse 14 = .ok (.getfield 25, 3) := by decide +kernel
theorem dX8_readsHouse_17 : decode cX8_readsHouse 17 = .ok (.iconst 1, 1) := by decide +kernel
theorem dX8_readsHouse_18 : decode cX8_readsHouse 18 = .ok (.iaload, 1) := by decide +kernel
theorem dX8_readsHouse_19 : decode cX8_readsHouse 19 = .ok (.ifCond .le 7, 3) := by decide +kernel
theorem dX8_readsHouse_22 : decode cX8_readsHouse 22 = .ok (.iconst 1, 1) := by decide +kernel
theorem dX8_readsHouse_23 : decode cX8_readsHouse 23 = .ok (.goto 4, 3) := by decide +kernel
theorem dX8_readsHouse_26 : decode cX8_readsHouse 26 = .ok (.iconst 0, 1) := by decide +kernel
theorem dX8_readsHouse_27 : decode cX8_readsHouse 27 = .ok (.istore_n 3, 1) := by decide +kernel
theorem dX8_readsHouse_28 : decode cX8_readsHouse 28 = .ok (.iload_n 3, 1) := by decide +kernel
theorem dX8_readsHouse_29 : decode cX8_readsHouse 29 = .ok (.ifCond .eq 82, 3) := by decide +kernel
theorem dX8_readsHouse_32 : decode cX8_readsHouse 32 = .ok (.iload_n 1, 1) := by decide +kernel
theorem dX8_readsHouse_33 : decode cX8_readsHouse 33 = .ok (.bipush 8, 2) := by decide +kernel
theorem dX8_readsHouse_35 : decode cX8_readsHouse 35 = .ok (.if_icmp .ne 7, 3) := by decide +kernel
theorem dX8_readsHouse_38 : decode cX8_readsHouse 38 = .ok (.iconst (-1), 1) := by decide +kernel
theorem dX8_readsHouse_39 : decode cX8_readsHouse 39 = .ok (.goto 9, 3) := by decide +kernel
theorem dX8_readsHouse_42 : decode cX8_readsHouse 42 = .ok (.aload_n 0, 1) := by decide +kernel
theorem dX8_readsHouse_43 : decode cX8_readsHouse 43 = .ok (.iload_n 1, 1) := by decide +kernel
theorem dX8_readsHouse_44 : decode cX8_readsHouse 44 = .ok (.iload_n 2, 1) := by decide +kernel
theorem dX8_readsHouse_45 : decode cX8_readsHouse 45 = .ok (.invokevirtual 115, 3) := by decide +kernel
theorem dX8_readsHouse_48 : decode cX8_readsHouse 48 = .ok (.istore 4, 2) := by decide +kernel
theorem dX8_readsHouse_50 : decode cX8_readsHouse 50 = .ok (.iload 4, 2) := by decide +kernel
theorem dX8_readsHouse_52 : decode cX8_readsHouse 52 = .ok (.iconst (-1), 1) := by decide +kernel
theorem dX8_readsHouse_53 : decode cX8_readsHouse 53 = .ok (.if_icmp .ne 12, 3) := by decide +kernel
theorem dX8_readsHouse_56 : decode cX8_readsHouse 56 = .ok (.aload_n 0, 1) := by decide +kernel
theorem dX8_readsHouse_57 : decode cX8_readsHouse 57 = .ok (.invokevirtual 112, 3) := by decide +kernel
theorem dX8_readsHouse_60 : decode cX8_readsHouse 60 = .ok (.aload_n 0, 1) := by decide +kernel
theorem dX8_readsHouse_61 : decode cX8_readsHouse 61 = .ok (.getfield 87, 3) := by decide +kernel
theorem dX8_readsHouse_64 : decode cX8_readsHouse 64 = .ok (.ireturn, 1) := by decide +kernel
theorem dX8_readsHouse_65 : decode cX8_readsHouse 65 = .ok (.iload 4, 2) := by decide +kernel
theorem dX8_readsHouse_67 : decode cX8_readsHouse 67 = .ok (.istore_n 2, 1) := by decide +kernel
theorem dX8_readsHouse_68 : decode cX8_readsHouse 68 = .ok (.iinc 1 1, 3) := by decide +kernel
theorem dX8_readsHouse_71 : decode cX8_readsHouse 71 = .ok (.aload_n 0, 1) := by decide +kernel
theorem dX8_readsHouse_72 : decode cX8_readsHouse 72 = .ok (.getfield 87, 3) := by decide +kernel
theorem dX8_readsHouse_75 : decode cX8_readsHouse 75 = .ok (.aload_n 0, 1) := by decide +kernel
theorem dX8_readsHouse_76 : decode cX8_readsHouse 76 = .ok (.getfield 25, 3) := by decide +kernel
theorem dX8_readsHouse_79 : decode cX8_readsHouse 79 = .ok (.iconst 1, 1) := by decide +kernel
theorem dX8_readsHouse_80 : decode cX8_readsHouse 80 = .ok (.iaload, 1) := by decide +kernel
theorem dX8_readsHouse_81 : decode cX8_readsHouse 81 = .ok (.if_icmp .ge 7, 3) := by decide +kernel
theorem dX8_readsHouse_84 : decode cX8_readsHouse 84 = .ok (.iconst 1, 1) := by decide +kernel
theorem dX8_readsHouse_85 : decode cX8_readsHouse 85 = .ok (.goto 4, 3) := by decide +kernel
theorem dX8_readsHouse_88 : decode cX8_readsHouse 88 = .ok (.iconst 0, 1) := by decide +kernel
theorem dX8_readsHouse_89 : decode cX8_readsHouse 89 = .ok (.istore_n 3, 1) := by decide +kernel
theorem dX8_readsHouse_90 : decode cX8_readsHouse 90 = .ok (.aload_n 0, 1) := by decide +kernel
theorem dX8_readsHouse_91 : decode cX8_readsHouse 91 = .ok (.dup, 1) := by decide +kernel
theorem dX8_readsHouse_92 : decode cX8_readsHouse 92 = .ok (.getfield 87, 3) := by decide +kernel
theorem dX8_readsHouse_95 : decode cX8_readsHouse 95 = .ok (.iload_n 3, 1) := by decide +kernel
theorem dX8_readsHouse_96 : decode cX8_readsHouse 96 = .ok (.ifCond .eq 7, 3) := by decide +kernel
theorem dX8_readsHouse_99 : decode cX8_readsHouse 99 = .ok (.iconst 1, 1) := by decide +kernel
theorem dX8_readsHouse_100 : decode cX8_readsHouse 100 = .ok (.goto 4, 3) := by decide +kernel
theorem dX8_readsHouse_103 : decode cX8_readsHouse 103 = .ok (.iconst 0, 1) := by decide +kernel
theorem dX8_readsHouse_104 : decode cX8_readsHouse 104 = .ok (.iadd, 1) := by decide +kernel
theorem dX8_readsHouse_105 : decode cX8_readsHouse 105 = .ok (.putfield 87, 3) := by decide +kernel
theorem dX8_readsHouse_108 : decode cX8_readsHouse 108 = .ok (.goto (-80), 3) := by decide +kernel
theorem dX8_readsHouse_111 : decode cX8_readsHouse 111 = .ok (.iconst (-1), 1) := by decide +kernel
theorem dX8_readsHouse_112 : decode cX8_readsHouse 112 = .ok (.ireturn, 1) := by decide +kernel
theorem iw_X8_readsHouse_X8 : ∀ w ∈ u_ws RX8 TX8 18, w ∈ wsX8_readsHouse := by decide +kernel
theorem lk_X8_readsHouse_0 : Cond.fieldLink RX8 87 (TX8 7).1 (TX8 7).2.1 (TX8 7).2.2.1 ∈ wsX8_readsHouse := by decide +kernel
theorem lk_X8_readsHouse_1 : Cond.fieldLink RX8 25 (TX8 6).1 (TX8 6).2.1 (TX8 6).2.2.1 ∈ wsX8_readsHouse := by decide +kernel
set_option maxRecDepth 100000 in
theorem r_X8_readsHouse_0 {X : Bn} (C : Cx X cX8_readsHouse 5 RX8 wsX8_readsHouse 2 45) (ad : Nat → Nat) (S : MS) (h : (vp_in 1 2) ∧ (At X 5 (mW X.E ad (pg (s_X8_clears S) 7 0 0)) 28 [(0, .ref (ad 0)), (1, .int 0), (2, .int 0), (3, .int (b2i (if (s_X8_clears S).1 6 ((1 : Int32).toNatClampNeg) ≤ 0 then false else true)))] [])) : At X 5 (mW X.E ad S) 0 [(0, .ref (ad 0))] [] := by
  refine at_aload_n C dX8_readsHouse_0 rfl (j := 0) rfl ?_
  refine at_cV1v C 0 (c_X8_clears X.l X.D X.E X.a1 X.a2 ad S) gX8_readsHouse_X8_clears rfl (by decide +kernel) ⟨rfl, rfl⟩ rfl rfl rfl 0 mW_c0 rfl dX8_readsHouse_1 ?_
  refine at_aload_n C dX8_readsHouse_4 rfl (j := 0) rfl ?_
  refine at_iconst C dX8_readsHouse_5 (v := 0) rfl ?_
  refine at_put C (K := RX8) (T := TX8) (N := 18) (ci := 7) (ty := .int) iw_X8_readsHouse_X8 tyX8 tyX8_ok nmX8 0 mW_c0 rfl 7 (by decide) lk_X8_readsHouse_0 rfl rfl rfl rfl (Nat.le_of_ble_eq_true rfl) mW_f0_7 dX8_readsHouse_6 ?_
  refine at_iconst C dX8_readsHouse_9 (v := 0) rfl ?_
  refine at_istore_n C dX8_readsHouse_10 rfl (by decide) (lv' := [(1, .int 0), (0, .ref (ad 0))]) rfl ?_
  refine at_iconst C dX8_readsHouse_11 (v := 0) rfl ?_
  refine at_istore_n C dX8_readsHouse_12 rfl (by decide) (lv' := [(2, .int 0), (1, .int 0), (0, .ref (ad 0))]) rfl ?_
  refine at_aload_n C dX8_readsHouse_13 rfl (j := 2) rfl ?_
  refine at_get C (K := RX8) (T := TX8) (N := 18) (ci := 7) (v := .ref (ad 6)) iw_X8_readsHouse_X8 0 mW_c0 rfl 6 (by decide) lk_X8_readsHouse_1 rfl dX8_readsHouse_14 ?_
  refine at_iconst C dX8_readsHouse_17 (v := 1) rfl ?_
  refine at_iald C 6 mW_c6 h.1 dX8_readsHouse_18 ?_
  replace h := h.2
  refine at_topI (pg_o (by decide)) ?_
  have K : At X 5 (mW X.E ad (pg (s_X8_clears S) 7 0 0)) 27 [(0, .ref (ad 0)), (1, .int 0), (2, .int 0)] [.int (b2i (if (s_X8_clears S).1 6 ((1 : Int32).toNatClampNeg) ≤ 0 then false else true))] := by
    refine at_istore_n C dX8_readsHouse_27 rfl (by decide) (lv' := [(3, .int (b2i (if (s_X8_clears S).1 6 ((1 : Int32).toNatClampNeg) ≤ 0 then false else true))), (0, .ref (ad 0)), (1, .int 0), (2, .int 0)]) rfl ?_
    refine at_lv [1, 2, 3, 0] rfl ?_
    exact h
  refine at_if_le C dX8_readsHouse_19 (tgt := 26) (by decide) (fun hc0 => ?_) (fun hc0 => ?_)
  · skip
    refine at_iconst C dX8_readsHouse_26 (v := 0) rfl ?_
    refine at_lv [2, 1, 0] rfl ?_
    first | (simp only [if_pos hc0] at K; exact K) | exact K
  · skip
    refine at_iconst C dX8_readsHouse_22 (v := 1) rfl ?_
    refine at_goto C dX8_readsHouse_23 (tgt := 27) (by decide) ?_
    refine at_lv [2, 1, 0] rfl ?_
    first | (simp only [if_neg hc0] at K; exact K) | exact K
set_option maxRecDepth 100000 in
theorem r_X8_readsHouse_28 {X : Bn} (C : Cx X cX8_readsHouse 5 RX8 wsX8_readsHouse 2 45) (ad : Nat → Nat) (S : MS) (x1 : Int32) (x2 : Int32) (x3 : Int32) (h : ((x3 = 0) → (Ends X (some .int) (some (.int (-1))) (mW X.E ad S))) ∧ (¬ x3 = 0 → (((x1 = 8) → (((((-1) : Int32) = (-1)) → (Ends X (some .int) (some (.int ((s_X8_clears S).1 7 0))) (mW X.E ad (s_X8_clears S)))) ∧ (¬ ((-1) : Int32) = (-1) → ((vp_in 1 2) ∧ (At X 5 (mW X.E ad (pg S 7 0 ((S.1 7 0) + (b2i (if (if S.1 6 ((1 : Int32).toNatClampNeg) ≤ S.1 7 0 then false else true) then true else false))))) 28 [(0, .ref (ad 0)), (1, .int (x1 + 1)), (2, .int (-1)), (3, .int (b2i (if S.1 6 ((1 : Int32).toNatClampNeg) ≤ S.1 7 0 then false else true)))] []))))) ∧ (¬ x1 = 8 → (∃ (r1 : Int32) (S1 : MS), (Fn X.l X.D X.E X.a1 X.a2 yX8_readsRow wsX8_readsRow 1 21 [.ref (ad 0), .int x1, .int x2] (mW X.E ad S) (some (.int r1)) (mW X.E ad S1)) ∧ (((r1 = (-1)) → (Ends X (some .int) (some (.int ((s_X8_clears S1).1 7 0))) (mW X.E ad (s_X8_clears S1)))) ∧ (¬ r1 = (-1) → ((vp_in 1 2) ∧ (At X 5 (mW X.E ad (pg S1 7 0 ((S1.1 7 0) + (b2i (if (if S1.1 6 ((1 : Int32).toNatClampNeg) ≤ S1.1 7 0 then false else true) then true else false))))) 28 [(0, .ref (ad 0)), (1, .int (x1 + 1)), (2, .int r1), (3, .int (b2i (if S1.1 6 ((1 : Int32).toNatClampNeg) ≤ S1.1 7 0 then false else true)))] []))))))))) : At X 5 (mW X.E ad S) 28 [(0, .ref (ad 0)), (1, .int x1), (2, .int x2), (3, .int x3)] [] := by
  refine at_iload_n C dX8_readsHouse_28 rfl (j := 3) rfl ?_
  refine at_if_eq C dX8_readsHouse_29 (tgt := 111) (by decide) (fun hc0 => ?_) (fun hc0 => ?_)
  · replace h := h.1 hc0
    refine at_iconst C dX8_readsHouse_111 (v := (-1)) rfl ?_
    exact at_iret C dX8_readsHouse_112 h
  · replace h := h.2 hc0
    refine at_iload_n C dX8_readsHouse_32 rfl (j := 1) rfl ?_
    refine at_bipush C dX8_readsHouse_33 (v := 8) rfl ?_
    refine at_icmp_ne C dX8_readsHouse_35 (tgt := 42) (by decide) (fun hc1 => ?_) (fun hc1 => ?_)
    · replace h := h.2 hc1
      refine at_aload_n C dX8_readsHouse_42 rfl (j := 0) rfl ?_
      refine at_iload_n C dX8_readsHouse_43 rfl (j := 1) rfl ?_
      refine at_iload_n C dX8_readsHouse_44 rfl (j := 2) rfl ?_
      obtain ⟨r1, S1, hF1, h⟩ := h
      refine at_cV1 C 2 hF1 gX8_readsHouse_X8_readsRow rfl (by decide +kernel) ⟨rfl, rfl⟩ rfl rfl rfl 0 mW_c0 rfl dX8_readsHouse_45 ?_
      refine at_istore C dX8_readsHouse_48 (by decide) (lv' := [(4, .int r1), (0, .ref (ad 0)), (1, .int x1), (2, .int x2), (3, .int x3)]) rfl ?_
      refine at_iload C dX8_readsHouse_50 (j := 0) rfl ?_
      refine at_iconst C dX8_readsHouse_52 (v := (-1)) rfl ?_
      refine at_icmp_ne C dX8_readsHouse_53 (tgt := 65) (by decide) (fun hc2 => ?_) (fun hc2 => ?_)
      · replace h := h.2 hc2
        refine at_iload C dX8_readsHouse_65 (j := 0) rfl ?_
        refine at_istore_n C dX8_readsHouse_67 rfl (by decide) (lv' := [(2, .int r1), (4, .int r1), (0, .ref (ad 0)), (1, .int x1), (3, .int x3)]) rfl ?_
        refine at_iinc C dX8_readsHouse_68 (j := 3) (v := x1 + 1) rfl rfl (by decide) (lv' := [(1, .int (x1 + 1)), (2, .int r1), (4, .int r1), (0, .ref (ad 0)), (3, .int x3)]) rfl ?_
        refine at_aload_n C dX8_readsHouse_71 rfl (j := 3) rfl ?_
        refine at_get C (K := RX8) (T := TX8) (N := 18) (ci := 7) (v := .int (S1.1 7 0)) iw_X8_readsHouse_X8 0 mW_c0 rfl 7 (by decide) lk_X8_readsHouse_0 rfl dX8_readsHouse_72 ?_
        refine at_aload_n C dX8_readsHouse_75 rfl (j := 3) rfl ?_
        refine at_get C (K := RX8) (T := TX8) (N := 18) (ci := 7) (v := .ref (ad 6)) iw_X8_readsHouse_X8 0 mW_c0 rfl 6 (by decide) lk_X8_readsHouse_1 rfl dX8_readsHouse_76 ?_
        refine at_iconst C dX8_readsHouse_79 (v := 1) rfl ?_
        refine at_iald C 6 mW_c6 h.1 dX8_readsHouse_80 ?_
        replace h := h.2
        have K : At X 5 (mW X.E ad S1) 89 [(0, .ref (ad 0)), (1, .int (x1 + 1)), (2, .int r1)] [.int (b2i (if S1.1 6 ((1 : Int32).toNatClampNeg) ≤ S1.1 7 0 then false else true))] := by
          refine at_istore_n C dX8_readsHouse_89 rfl (by decide) (lv' := [(3, .int (b2i (if S1.1 6 ((1 : Int32).toNatClampNeg) ≤ S1.1 7 0 then false else true))), (0, .ref (ad 0)), (1, .int (x1 + 1)), (2, .int r1)]) rfl ?_
          refine at_aload_n C dX8_readsHouse_90 rfl (j := 1) rfl ?_
          refine at_dup C dX8_readsHouse_91 rfl ?_
          refine at_get C (K := RX8) (T := TX8) (N := 18) (ci := 7) (v := .int (S1.1 7 0)) iw_X8_readsHouse_X8 0 mW_c0 rfl 7 (by decide) lk_X8_readsHouse_0 rfl dX8_readsHouse_92 ?_
          refine at_iload_n C dX8_readsHouse_95 rfl (j := 0) rfl ?_
          have K : At X 5 (mW X.E ad S1) 104 [(0, .ref (ad 0)), (1, .int (x1 + 1)), (2, .int r1), (3, .int (b2i (if S1.1 6 ((1 : Int32).toNatClampNeg) ≤ S1.1 7 0 then false else true)))] [.int (b2i (if (if S1.1 6 ((1 : Int32).toNatClampNeg) ≤ S1.1 7 0 then false else true) then true else false)), .int (S1.1 7 0), .ref (ad 0)] := by
            refine at_iadd C dX8_readsHouse_104 ?_
            refine at_put C (K := RX8) (T := TX8) (N := 18) (ci := 7) (ty := .int) iw_X8_readsHouse_X8 tyX8 tyX8_ok nmX8 0 mW_c0 rfl 7 (by decide) lk_X8_readsHouse_0 rfl rfl rfl rfl (Nat.le_of_ble_eq_true rfl) mW_f0_7 dX8_readsHouse_105 ?_
            refine at_goto C dX8_readsHouse_108 (tgt := 28) (by decide) ?_
            exact h
          refine at_ifB_eq C dX8_readsHouse_96 (tgt := 103) (by decide) (fun hc3 => ?_) (fun hc3 => ?_)
          · skip
            refine at_iconst C dX8_readsHouse_103 (v := 0) rfl ?_
            refine at_lv [1, 2, 3, 0] rfl ?_
            first | (simp only [if_neg (show ¬ (if S1.1 6 ((1 : Int32).toNatClampNeg) ≤ S1.1 7 0 then false else true) = true by rw [hc3]; decide)] at K; exact K) | exact K
          · skip
            refine at_iconst C dX8_readsHouse_99 (v := 1) rfl ?_
            refine at_goto C dX8_readsHouse_100 (tgt := 104) (by decide) ?_
            refine at_lv [1, 2, 3, 0] rfl ?_
            first | (simp only [if_pos hc3] at K; exact K) | exact K
        refine at_icmp_ge C dX8_readsHouse_81 (tgt := 88) (by decide) (fun hc3 => ?_) (fun hc3 => ?_)
        · skip
          refine at_iconst C dX8_readsHouse_88 (v := 0) rfl ?_
          refine at_lv [3, 0, 1] rfl ?_
          first | (simp only [if_pos hc3] at K; exact K) | exact K
        · skip
          refine at_iconst C dX8_readsHouse_84 (v := 1) rfl ?_
          refine at_goto C dX8_readsHouse_85 (tgt := 89) (by decide) ?_
          refine at_lv [3, 0, 1] rfl ?_
          first | (simp only [if_neg hc3] at K; exact K) | exact K
      · replace h := h.1 hc2
        refine at_aload_n C dX8_readsHouse_56 rfl (j := 1) rfl ?_
        refine at_cV1v C 0 (c_X8_clears X.l X.D X.E X.a1 X.a2 ad S1) gX8_readsHouse_X8_clears rfl (by decide +kernel) ⟨rfl, rfl⟩ rfl rfl rfl 0 mW_c0 rfl dX8_readsHouse_57 ?_
        refine at_aload_n C dX8_readsHouse_60 rfl (j := 1) rfl ?_
        refine at_get C (K := RX8) (T := TX8) (N := 18) (ci := 7) (v := .int ((s_X8_clears S1).1 7 0)) iw_X8_readsHouse_X8 0 mW_c0 rfl 7 (by decide) lk_X8_readsHouse_0 rfl dX8_readsHouse_61 ?_
        exact at_iret C dX8_readsHouse_64 h
    · replace h := h.1 hc1
      refine at_iconst C dX8_readsHouse_38 (v := (-1)) rfl ?_
      refine at_goto C dX8_readsHouse_39 (tgt := 48) (by decide) ?_
      refine at_istore C dX8_readsHouse_48 (by decide) (lv' := [(4, .int (-1)), (0, .ref (ad 0)), (1, .int x1), (2, .int x2), (3, .int x3)]) rfl ?_
      refine at_iload C dX8_readsHouse_50 (j := 0) rfl ?_
      refine at_iconst C dX8_readsHouse_52 (v := (-1)) rfl ?_
      refine at_icmp_ne C dX8_readsHouse_53 (tgt := 65) (by decide) (fun hc3 => ?_) (fun hc3 => ?_)
      · replace h := h.2 hc3
        refine at_iload C dX8_readsHouse_65 (j := 0) rfl ?_
        refine at_istore_n C dX8_readsHouse_67 rfl (by decide) (lv' := [(2, .int (-1)), (4, .int (-1)), (0, .ref (ad 0)), (1, .int x1), (3, .int x3)]) rfl ?_
        refine at_iinc C dX8_readsHouse_68 (j := 3) (v := x1 + 1) rfl rfl (by decide) (lv' := [(1, .int (x1 + 1)), (2, .int (-1)), (4, .int (-1)), (0, .ref (ad 0)), (3, .int x3)]) rfl ?_
        refine at_aload_n C dX8_readsHouse_71 rfl (j := 3) rfl ?_
        refine at_get C (K := RX8) (T := TX8) (N := 18) (ci := 7) (v := .int (S.1 7 0)) iw_X8_readsHouse_X8 0 mW_c0 rfl 7 (by decide) lk_X8_readsHouse_0 rfl dX8_readsHouse_72 ?_
        refine at_aload_n C dX8_readsHouse_75 rfl (j := 3) rfl ?_
        refine at_get C (K := RX8) (T := TX8) (N := 18) (ci := 7) (v := .ref (ad 6)) iw_X8_readsHouse_X8 0 mW_c0 rfl 6 (by decide) lk_X8_readsHouse_1 rfl dX8_readsHouse_76 ?_
        refine at_iconst C dX8_readsHouse_79 (v := 1) rfl ?_
        refine at_iald C 6 mW_c6 h.1 dX8_readsHouse_80 ?_
        replace h := h.2
        have K : At X 5 (mW X.E ad S) 89 [(0, .ref (ad 0)), (1, .int (x1 + 1)), (2, .int (-1))] [.int (b2i (if S.1 6 ((1 : Int32).toNatClampNeg) ≤ S.1 7 0 then false else true))] := by
          refine at_istore_n C dX8_readsHouse_89 rfl (by decide) (lv' := [(3, .int (b2i (if S.1 6 ((1 : Int32).toNatClampNeg) ≤ S.1 7 0 then false else true))), (0, .ref (ad 0)), (1, .int (x1 + 1)), (2, .int (-1))]) rfl ?_
          refine at_aload_n C dX8_readsHouse_90 rfl (j := 1) rfl ?_
          refine at_dup C dX8_readsHouse_91 rfl ?_
          refine at_get C (K := RX8) (T := TX8) (N := 18) (ci := 7) (v := .int (S.1 7 0)) iw_X8_readsHouse_X8 0 mW_c0 rfl 7 (by decide) lk_X8_readsHouse_0 rfl dX8_readsHouse_92 ?_
          refine at_iload_n C dX8_readsHouse_95 rfl (j := 0) rfl ?_
          have K : At X 5 (mW X.E ad S) 104 [(0, .ref (ad 0)), (1, .int (x1 + 1)), (2, .int (-1)), (3, .int (b2i (if S.1 6 ((1 : Int32).toNatClampNeg) ≤ S.1 7 0 then false else true)))] [.int (b2i (if (if S.1 6 ((1 : Int32).toNatClampNeg) ≤ S.1 7 0 then false else true) then true else false)), .int (S.1 7 0), .ref (ad 0)] := by
            refine at_iadd C dX8_readsHouse_104 ?_
            refine at_put C (K := RX8) (T := TX8) (N := 18) (ci := 7) (ty := .int) iw_X8_readsHouse_X8 tyX8 tyX8_ok nmX8 0 mW_c0 rfl 7 (by decide) lk_X8_readsHouse_0 rfl rfl rfl rfl (Nat.le_of_ble_eq_true rfl) mW_f0_7 dX8_readsHouse_105 ?_
            refine at_goto C dX8_readsHouse_108 (tgt := 28) (by decide) ?_
            exact h
          refine at_ifB_eq C dX8_readsHouse_96 (tgt := 103) (by decide) (fun hc4 => ?_) (fun hc4 => ?_)
          · skip
            refine at_iconst C dX8_readsHouse_103 (v := 0) rfl ?_
            refine at_lv [1, 2, 3, 0] rfl ?_
            first | (simp only [if_neg (show ¬ (if S.1 6 ((1 : Int32).toNatClampNeg) ≤ S.1 7 0 then false else true) = true by rw [hc4]; decide)] at K; exact K) | exact K
          · skip
            refine at_iconst C dX8_readsHouse_99 (v := 1) rfl ?_
            refine at_goto C dX8_readsHouse_100 (tgt := 104) (by decide) ?_
            refine at_lv [1, 2, 3, 0] rfl ?_
            first | (simp only [if_pos hc4] at K; exact K) | exact K
        refine at_icmp_ge C dX8_readsHouse_81 (tgt := 88) (by decide) (fun hc4 => ?_) (fun hc4 => ?_)
        · skip
          refine at_iconst C dX8_readsHouse_88 (v := 0) rfl ?_
          refine at_lv [3, 0, 1] rfl ?_
          first | (simp only [if_pos hc4] at K; exact K) | exact K
        · skip
          refine at_iconst C dX8_readsHouse_84 (v := 1) rfl ?_
          refine at_goto C dX8_readsHouse_85 (tgt := 89) (by decide) ?_
          refine at_lv [3, 0, 1] rfl ?_
          first | (simp only [if_neg hc4] at K; exact K) | exact K
      · replace h := h.1 hc3
        refine at_aload_n C dX8_readsHouse_56 rfl (j := 1) rfl ?_
        refine at_cV1v C 0 (c_X8_clears X.l X.D X.E X.a1 X.a2 ad S) gX8_readsHouse_X8_clears rfl (by decide +kernel) ⟨rfl, rfl⟩ rfl rfl rfl 0 mW_c0 rfl dX8_readsHouse_57 ?_
        refine at_aload_n C dX8_readsHouse_60 rfl (j := 1) rfl ?_
        refine at_get C (K := RX8) (T := TX8) (N := 18) (ci := 7) (v := .int ((s_X8_clears S).1 7 0)) iw_X8_readsHouse_X8 0 mW_c0 rfl 7 (by decide) lk_X8_readsHouse_0 rfl dX8_readsHouse_61 ?_
        exact at_iret C dX8_readsHouse_64 h
/-- rows of width w from a row on, at most so many: the fault (-1: none) -/
def fsH (hx : Nat → Int32) (n w : Nat) : Nat → Nat → Int32
  | 0, row => nI (row * (w + 1))
  | f + 1, row => if lead hx w (row * (w + 1)) < w then nI (row * (w + 1) + lead hx w (row * (w + 1))) else (if n ≤ row * (w + 1) + w then -1 else (if hx (row * (w + 1) + w) = 59 then fsH hx n w f (row + 1) else nI (row * (w + 1) + w)))
def widH (hx : Nat → Int32) : Nat := lead hx 8 0
def faultH (hx : Nat → Int32) (n : Nat) : Int32 := if n = 0 then -1 else (if widH hx = 0 then 0 else fsH hx n (widH hx) 8 0)
/-- the cell's place holds a free one -/
def dotH (hx : Nat → Int32) (w c : Nat) : Bool := decide (c % 8 < w) && decide (hx (c / 8 * (w + 1) + c % 8) = 46)
def freeH (hx : Nat → Int32) (n c : Nat) : Bool := decide (faultH hx n = -1) && dotH hx (widH hx) c
def rdHouse (hx : Nat → Int32) (n : Nat) (S S' : MS) : Prop := (∀ c, c < 64 → S'.1 10 c = b2i (freeH hx n c)) ∧ (∀ k, k ≠ 7 → k ≠ 10 → S'.1 k = S.1 k) ∧ S'.2 = S.2
theorem lead_self (hx : Nat → Int32) : ∀ (m p : Nat), lead hx (lead hx m p) p = lead hx m p
  | 0, p => rfl
  | m + 1, p => by
    by_cases h : ground (hx p) = true
    · have e : lead hx (m + 1) p = lead hx m (p + 1) + 1 := by rw [lead, if_pos h]
      rw [e, lead, if_pos h, lead_self hx m (p + 1)]
    · have e : lead hx (m + 1) p = 0 := by rw [lead, if_neg h]
      rw [e]; rfl
theorem lead_ground (hx : Nat → Int32) : ∀ (m p j : Nat), j < lead hx m p → ground (hx (p + j)) = true
  | 0, p, j, h => absurd h (Nat.not_lt_zero j)
  | m + 1, p, j, h => by
    by_cases q : ground (hx p) = true
    · cases j with
      | zero => exact q
      | succ j =>
        rw [lead, if_pos q] at h
        have := lead_ground hx m (p + 1) j (by omega)
        rwa [show p + 1 + j = p + (j + 1) by omega] at this
    · rw [lead, if_neg q] at h; exact absurd h (Nat.not_lt_zero j)
theorem nm1 {a : Nat} (h : a < 2 ^ 31) : ¬ nI a = -1 := fun e => by
  have h1 := congrArg Int32.toInt e
  rw [nI_toInt h] at h1
  have h2 : (-1 : Int32).toInt = -1 := rfl
  rw [h2] at h1
  omega
theorem c_X8_readsHouse (ad : Nat → Nat) (S : MS) {n : Nat} (hn : n ≤ 71) (e6 : S.1 6 1 = nI n) :
    ∃ S', rdHouse (hxv (S.1 5) 40 n) n S S' ∧ ∀ (l : Launch) (D : va_G) (E : Nat → ClassId) (a1 a2 : Nat), Fn l D E a1 a2 yX8_readsHouse wsX8_readsHouse 2 45 [.ref (ad 0)] (mW E ad S) (some (.int (faultH (hxv (S.1 5) 40 n) n))) (mW E ad S') := by
  generalize hhx : hxv (S.1 5) 40 n = hx
  generalize hw : widH hx = w
  have hw8 : w ≤ 8 := by rw [← hw]; exact lead_le hx 8 0
  have hgn : ∀ p, ground (hx p) = true → p < n := by
    intro p hg
    rcases Nat.lt_or_ge p n with q | q
    · exact q
    · rw [← hhx, hxv_end q] at hg; exact absurd hg (by decide)
  have hxe : ∀ p, n ≤ p → hx p = -1 := fun p q => by rw [← hhx]; exact hxv_end q
  have c1 : (1 : Int32).toNatClampNeg = 1 := rfl
  have hv : vp_in 1 2 := vp_in_nI (n := 1) (by decide) (by decide)
  -- what is left of a state when a fault is told
  have bad : ∀ T : MS, (∀ k, k ≠ 7 → k ≠ 10 → T.1 k = S.1 k) → T.2 = S.2 → (∀ c, c < 64 → (s_X8_clears T).1 10 c = 0) ∧ (∀ k, k ≠ 7 → k ≠ 10 → (s_X8_clears T).1 k = S.1 k) ∧ (s_X8_clears T).2 = S.2 :=
    fun T h1 h2 => ⟨fun c hc => clears_0 T hc, fun k k7 k10 => by rw [clears_o T k10]; exact h1 k k7 k10, by rw [clears_2]; exact h2⟩
  -- a row that was read: what it leaves, and how the machine goes on
  have row1 : ∀ (row wide p : Nat) (T : MS), row < 8 → wide ≤ 8 → p ≤ n → T.1 7 0 = nI p → (∀ k, k ≠ 7 → k ≠ 10 → T.1 k = S.1 k) → T.2 = S.2 →
      ∃ S1 : MS, rdRow hx row (if wide = 0 then 8 else wide) p T S1 ∧ (∀ k, k ≠ 7 → k ≠ 10 → S1.1 k = S.1 k) ∧ S1.2 = S.2 ∧ S1.1 6 1 = nI n ∧
        ∀ X : Bn, Cx X cX8_readsHouse 5 RX8 wsX8_readsHouse 2 45 →
          ((rowAns hx n wide p = -1 → Ends X (some .int) (some (.int (nI (p + lead hx (if wide = 0 then 8 else wide) p)))) (mW X.E ad (s_X8_clears S1))) ∧
           (¬ rowAns hx n wide p = -1 → (n ≤ p + lead hx (if wide = 0 then 8 else wide) p → Ends X (some .int) (some (.int (-1))) (mW X.E ad (pg S1 7 0 (S1.1 7 0 + b2i false)))) ∧
             (¬ n ≤ p + lead hx (if wide = 0 then 8 else wide) p → At X 5 (mW X.E ad (pg S1 7 0 (nI (p + lead hx (if wide = 0 then 8 else wide) p + 1)))) 28 [(0, .ref (ad 0)), (1, .int (nI (row + 1))), (2, .int (rowAns hx n wide p)), (3, .int (b2i true))] []))) →
          At X 5 (mW X.E ad T) 28 [(0, .ref (ad 0)), (1, .int (nI row)), (2, .int (nI wide)), (3, .int (b2i true))] [] := by
    intro row wide p T hr hwd hp t7 to t2
    have t6 : T.1 6 1 = nI n := by rw [to 6 (by decide) (by decide)]; exact e6
    have t5 : T.1 5 = S.1 5 := to 5 (by decide) (by decide)
    obtain ⟨S1, hrd, hF⟩ := c_X8_readsRow ad T (n := n) (p := p) (row := row) (wide := wide) hn t6 t7 hp hr hwd
    rw [t5, hhx] at hrd hF
    have s6 : S1.1 6 1 = nI n := by rw [hrd.2.2.2.1 6 (by decide) (by decide)]; exact t6
    have so : ∀ k, k ≠ 7 → k ≠ 10 → S1.1 k = S.1 k := fun k k7 k10 => by rw [hrd.2.2.2.1 k k7 k10]; exact to k k7 k10
    have s2 : S1.2 = S.2 := by rw [hrd.2.2.2.2]; exact t2
    have s7 := hrd.1
    have ll := lead_le hx (if wide = 0 then 8 else wide) p
    have ll8 : (if wide = 0 then 8 else wide) ≤ 8 := by split <;> omega
    refine ⟨S1, hrd, so, s2, s6, fun X C H => ?_⟩
    have n8 : ¬ nI row = 8 := fun z => by have := (nI_eq (b := 8) (by omega) (by decide)).mp z; omega
    refine r_X8_readsHouse_28 C ad T _ _ _ ⟨fun q => (by cases q), fun _ => ⟨fun z => absurd z n8, fun _ => ⟨rowAns hx n wide p, S1, hF X.l X.D X.E X.a1 X.a2, fun z => ?_, fun z => ⟨hv, ?_⟩⟩⟩⟩
    · rw [clears_o S1 (by decide), s7]; exact H.1 z
    · by_cases q : n ≤ p + lead hx (if wide = 0 then 8 else wide) p
      · have hle : S1.1 6 (1 : Int32).toNatClampNeg ≤ S1.1 7 0 := by rw [c1, s6, s7]; exact (nle (by omega) (by omega)).mpr q
        simp only [if_pos hle]
        exact r_X8_readsHouse_28 C ad _ _ _ _ ⟨fun _ => (H.2 z).1 q, fun y => absurd rfl y⟩
      · have hle : ¬ S1.1 6 (1 : Int32).toNatClampNeg ≤ S1.1 7 0 := by rw [c1, s6, s7]; exact fun y => q ((nle (by omega) (by omega)).mp y)
        simp only [if_neg hle]
        have := (H.2 z).2 q
        rw [s7, nI_1 row]
        show At X 5 (mW X.E ad (pg S1 7 0 (nI (p + lead hx (if wide = 0 then 8 else wide) p) + 1))) 28 _ []
        rw [nI_1]
        exact this
  have loop : ∀ (f row : Nat) (T : MS), 0 < w → f + row = 8 → row * (w + 1) ≤ n → T.1 7 0 = nI (row * (w + 1)) → (∀ c, c < 64 → T.1 10 c = b2i (decide (c / 8 < row) && dotH hx w c)) → (∀ k, k ≠ 7 → k ≠ 10 → T.1 k = S.1 k) → T.2 = S.2 → 0 < row →
      ∃ S', ((∀ c, c < 64 → S'.1 10 c = b2i (decide (fsH hx n w f row = -1) && dotH hx w c)) ∧ (∀ k, k ≠ 7 → k ≠ 10 → S'.1 k = S.1 k) ∧ S'.2 = S.2) ∧
        ∀ X : Bn, Cx X cX8_readsHouse 5 RX8 wsX8_readsHouse 2 45 → Ends X (some .int) (some (.int (fsH hx n w f row))) (mW X.E ad S') → At X 5 (mW X.E ad T) 28 [(0, .ref (ad 0)), (1, .int (nI row)), (2, .int (nI w)), (3, .int (b2i true))] [] := by
    intro f
    induction f with
    | zero =>
      intro row T w0 hf hp t7 tc to t2 hr
      have e8 : row = 8 := by omega
      obtain ⟨b1, b2, b3⟩ := bad T to t2
      have ef : fsH hx n w 0 row = nI (row * (w + 1)) := rfl
      refine ⟨s_X8_clears T, ⟨fun c hc => by rw [b1 c hc, ef, decide_eq_false (nm1 (by omega))]; rfl, b2, b3⟩, fun X C hE => ?_⟩
      refine r_X8_readsHouse_28 C ad T _ _ _ ⟨fun q => (by cases q), fun _ => ⟨fun _ => ⟨fun _ => ?_, fun z => absurd rfl z⟩, fun z => absurd (by rw [e8]; rfl) z⟩⟩
      rw [clears_o T (by decide), t7]
      exact hE
    | succ f ih =>
      intro row T w0 hf hp t7 tc to t2 hr
      have hr8 : row < 8 := by omega
      obtain ⟨S1, hrd, so, s2, s6, hgo⟩ := row1 row w (row * (w + 1)) T hr8 hw8 hp t7 to t2
      have ew : (if w = 0 then 8 else w) = w := if_neg (by omega)
      rw [rowAns, ew] at hgo
      rw [ew] at hrd
      generalize hP : row * (w + 1) = P at hrd hgo hp t7
      have ll := lead_le hx w P
      have hPm : (row + 1) * (w + 1) = P + w + 1 := by rw [Nat.succ_mul, hP]; omega
      have hP64 : P ≤ 71 := by omega
      by_cases hc : lead hx w P < w
      · -- the row is too short, or a byte is no ground
        have ef : fsH hx n w (f + 1) row = nI (P + lead hx w P) := by rw [fsH, hP, if_pos hc]
        obtain ⟨b1, b2, b3⟩ := bad S1 so s2
        have ea : rowFin hx n w (P + lead hx w P) (lead hx w P) = -1 := by
          by_cases q : n ≤ P + lead hx w P ∨ hx (P + lead hx w P) = 59
          · rw [rowFin_y q]
            by_cases z : lead hx w P = 0
            · rw [if_pos z]
            · rw [if_neg z, if_neg (by omega)]
          · rw [rowFin_n q]
        refine ⟨s_X8_clears S1, ⟨fun c hc => by rw [b1 c hc, ef, decide_eq_false (nm1 (by omega))]; rfl, b2, b3⟩, fun X C hE => ?_⟩
        refine hgo X C ⟨fun _ => by rw [ef] at hE; exact hE, fun z => absurd ea z⟩
      · have hcw : lead hx w P = w := by omega
        rw [hcw] at hgo
        have hrd1 := hrd.2.1
        have hrd2 := hrd.2.2.1
        rw [hcw] at hrd1 hrd2
        -- the row's cells
        have sc : ∀ c, c < 64 → S1.1 10 c = b2i (decide (c / 8 < row + 1) && dotH hx w c) := by
          intro c hc
          by_cases hin : c / 8 = row ∧ c % 8 < w
          · have e1 : c = 8 * row + c % 8 := by omega
            have := hrd1 (c % 8) hin.2
            rw [← e1] at this
            rw [this, decide_eq_true (show c / 8 < row + 1 by omega), dotH, decide_eq_true hin.2, hin.1, hP]
            rfl
          · rw [hrd2 c (by omega), tc c hc]
            by_cases h1 : c / 8 < row
            · rw [decide_eq_true h1, decide_eq_true (show c / 8 < row + 1 by omega)]
            · rw [decide_eq_false h1]
              by_cases h2 : c / 8 = row
              · have : ¬ c % 8 < w := fun z => hin ⟨h2, z⟩
                rw [dotH, decide_eq_false this]; simp
              · rw [decide_eq_false (show ¬ c / 8 < row + 1 by omega)]
        by_cases hend : n ≤ P + w
        · -- the last row
          have ef : fsH hx n w (f + 1) row = -1 := by rw [fsH, hP, if_neg hc, if_pos hend]
          have ea : ¬ rowFin hx n w (P + w) w = -1 := by
            rw [rowFin_y (Or.inl hend), if_neg (by omega), if_pos (Nat.le_refl _)]
            exact nm1 (by omega)
          refine ⟨pg S1 7 0 (S1.1 7 0 + b2i false), ⟨fun c hc => ?_, fun k k7 k10 => by rw [pg_r k7]; exact so k k7 k10, s2⟩, fun X C hE => ?_⟩
          · rw [pg_o (by decide), sc c hc, ef, decide_eq_true rfl, Bool.true_and]
            by_cases h1 : c / 8 < row + 1
            · rw [decide_eq_true h1, Bool.true_and]
            · rw [decide_eq_false h1, dotH]
              have : (row + 1) * (w + 1) ≤ c / 8 * (w + 1) := Nat.mul_le_mul_right _ (by omega)
              rw [hxe _ (by omega)]
              simp
          · refine hgo X C ⟨fun z => absurd z ea, fun _ => ⟨fun _ => by rw [ef] at hE; exact hE, fun z => absurd hend z⟩⟩
        · by_cases hsep : hx (P + w) = 59
          · -- one more row
            have ef : fsH hx n w (f + 1) row = fsH hx n w f (row + 1) := by rw [fsH, hP, if_neg hc, if_neg hend, if_pos hsep]
            have ea : rowFin hx n w (P + w) w = nI w := by rw [rowFin_y (Or.inr hsep), if_neg (by omega), if_pos (Nat.le_refl _)]
            obtain ⟨S', hS', hgo2⟩ := ih (row + 1) (pg S1 7 0 (nI (P + w + 1))) w0 (by omega) (by omega) (by rw [pg_s, hPm]) (fun c hc => by rw [pg_o (by decide)]; exact sc c hc) (fun k k7 k10 => by rw [pg_r k7]; exact so k k7 k10) s2 (by omega)
            refine ⟨S', by rw [ef]; exact hS', fun X C hE => ?_⟩
            rw [ef] at hE
            refine hgo X C ⟨fun z => absurd z (by rw [ea]; exact nm1 (by omega)), fun _ => ⟨fun z => absurd z hend, fun _ => ?_⟩⟩
            rw [ea]
            exact hgo2 X C hE
          · have ef : fsH hx n w (f + 1) row = nI (P + w) := by rw [fsH, hP, if_neg hc, if_neg hend, if_neg hsep]
            have ea : rowFin hx n w (P + w) w = -1 := rowFin_n (fun o => o.elim hend hsep)
            obtain ⟨b1, b2, b3⟩ := bad S1 so s2
            refine ⟨s_X8_clears S1, ⟨fun c hc => by rw [b1 c hc, ef, decide_eq_false (nm1 (by omega))]; rfl, b2, b3⟩, fun X C hE => ?_⟩
            refine hgo X C ⟨fun _ => by rw [ef] at hE; exact hE, fun z => absurd ea z⟩
  by_cases h0 : n = 0
  · have ef : faultH hx n = -1 := by rw [faultH, if_pos h0]
    refine ⟨pg (s_X8_clears S) 7 0 0, ⟨fun c hc => ?_, fun k k7 k10 => by rw [pg_r k7, clears_o S k10], by rw [pg_2, clears_2]⟩, fun l D E a1 a2 => ?_⟩
    · rw [pg_o (by decide), clears_0 S hc, freeH, dotH, hxe _ (by omega)]
      simp [b2i]
    · refine Fn.of (cc := cX8_readsHouse) (maxL := 5) (ret := (some .int)) (own := RX8) (by decide) rfl rfl (sameM _ _ _ _) (Nat.le_of_ble_eq_true rfl) (fun X h1 h2 h3 h4 h5 C hE => ?_)
      subst h1 h2 h3 h4 h5
      rw [ef] at hE
      refine r_X8_readsHouse_0 C ad S ⟨hv, ?_⟩
      have hle : (s_X8_clears S).1 6 (1 : Int32).toNatClampNeg ≤ 0 := by rw [c1, clears_o S (by decide), e6, h0]; exact Int32.le_refl _
      simp only [if_pos hle]
      exact r_X8_readsHouse_28 C ad _ _ _ _ ⟨fun _ => hE, fun z => absurd rfl z⟩
  · -- the first row tells how wide they are
    have hle : ¬ (s_X8_clears S).1 6 (1 : Int32).toNatClampNeg ≤ 0 := by
      rw [c1, clears_o S (by decide), e6]
      exact fun z => absurd ((nle (b := 0) (by omega) (by decide)).mp z) (by omega)
    obtain ⟨T, hT⟩ : ∃ T, T = pg (s_X8_clears S) 7 0 0 := ⟨_, rfl⟩
    have to : ∀ k, k ≠ 7 → k ≠ 10 → T.1 k = S.1 k := fun k k7 k10 => by rw [hT, pg_r k7, clears_o S k10]
    have t2 : T.2 = S.2 := by rw [hT, pg_2, clears_2]
    have t7 : T.1 7 0 = nI 0 := by rw [hT, pg_s]; rfl
    have tc : ∀ c, c < 64 → T.1 10 c = 0 := fun c hc => by rw [hT, pg_o (by decide), clears_0 S hc]
    obtain ⟨S1, hrd, so, s2, s6, hgo⟩ := row1 0 0 0 T (by decide) (by decide) (Nat.zero_le n) t7 to t2
    have ew : lead hx (if 0 = 0 then 8 else 0) 0 = w := by rw [if_pos rfl, ← hw]; rfl
    rw [rowAns, ew, Nat.zero_add] at hgo
    have hrd0 := hrd.2.1
    have hrd3 := hrd.2.2.1
    rw [ew] at hrd0 hrd3
    have start : ∀ (S' : MS), (∀ X : Bn, Cx X cX8_readsHouse 5 RX8 wsX8_readsHouse 2 45 → Ends X (some .int) (some (.int (faultH hx n))) (mW X.E ad S') → At X 5 (mW X.E ad T) 28 [(0, .ref (ad 0)), (1, .int (nI 0)), (2, .int (nI 0)), (3, .int (b2i true))] []) → ∀ (l : Launch) (D : va_G) (E : Nat → ClassId) (a1 a2 : Nat), Fn l D E a1 a2 yX8_readsHouse wsX8_readsHouse 2 45 [.ref (ad 0)] (mW E ad S) (some (.int (faultH hx n))) (mW E ad S') := by
      intro S' hgo l D E a1 a2
      refine Fn.of (cc := cX8_readsHouse) (maxL := 5) (ret := (some .int)) (own := RX8) (by decide) rfl rfl (sameM _ _ _ _) (Nat.le_of_ble_eq_true rfl) (fun X h1 h2 h3 h4 h5 C hE => ?_)
      subst h1 h2 h3 h4 h5
      refine r_X8_readsHouse_0 C ad S ⟨hv, ?_⟩
      simp only [if_neg hle]
      rw [← hT]
      exact hgo X C hE
    have hlw : lead hx w 0 = w := by rw [← hw]; exact lead_self hx 8 0
    obtain ⟨b1, b2, b3⟩ := bad S1 so s2
    by_cases w0 : w = 0
    · have ef : faultH hx n = nI 0 := by rw [faultH, if_neg h0, hw, if_pos w0]; rfl
      refine ⟨s_X8_clears S1, ⟨fun c hc => by rw [b1 c hc, freeH, ef, decide_eq_false (nm1 (by decide))]; rfl, b2, b3⟩, start _ (fun X C hE => ?_)⟩
      have ea : rowFin hx n 0 w w = -1 := by
        by_cases q : n ≤ w ∨ hx w = 59
        · rw [rowFin_y q, if_pos w0]
        · rw [rowFin_n q]
      refine hgo X C ⟨fun _ => by rw [ef] at hE; rw [w0]; exact hE, fun z => absurd ea z⟩
    · have sc : ∀ c, c < 64 → S1.1 10 c = b2i (decide (c / 8 < 1) && dotH hx w c) := by
        intro c hc
        by_cases hin : c < w
        · have := hrd0 c hin
          rw [show 8 * 0 + c = c by omega] at this
          rw [this, decide_eq_true (show c / 8 < 1 by omega), dotH, decide_eq_true (show c % 8 < w by omega), show c / 8 * (w + 1) + c % 8 = c by
            have : c / 8 = 0 := by omega
            rw [this]; omega]
          rfl
        · rw [hrd3 c (Or.inr (by omega)), tc c hc]
          by_cases h1 : c / 8 < 1
          · rw [dotH, decide_eq_false (show ¬ c % 8 < w by omega)]; simp [b2i]
          · rw [decide_eq_false h1]; rfl
      have e0 : fsH hx n w 8 0 = (if n ≤ w then -1 else (if hx w = 59 then fsH hx n w 7 1 else nI w)) := by
        rw [fsH, Nat.zero_mul, Nat.zero_add, Nat.zero_add, hlw, if_neg (Nat.lt_irrefl w)]
      have ef : faultH hx n = (if n ≤ w then -1 else (if hx w = 59 then fsH hx n w 7 1 else nI w)) := by rw [faultH, if_neg h0, hw, if_neg w0, e0]
      by_cases hend : n ≤ w
      · rw [if_pos hend] at ef
        have ea : ¬ rowFin hx n 0 w w = -1 := by
          rw [rowFin_y (Or.inl hend), if_neg w0, if_pos (Nat.zero_le _)]
          exact nm1 (by omega)
        refine ⟨pg S1 7 0 (S1.1 7 0 + b2i false), ⟨fun c hc => ?_, fun k k7 k10 => by rw [pg_r k7]; exact so k k7 k10, s2⟩, start _ (fun X C hE => ?_)⟩
        · rw [pg_o (by decide), sc c hc, freeH, ef, decide_eq_true rfl, Bool.true_and, hw]
          by_cases h1 : c / 8 < 1
          · rw [decide_eq_true h1, Bool.true_and]
          · rw [decide_eq_false h1, dotH]
            have : 1 * (w + 1) ≤ c / 8 * (w + 1) := Nat.mul_le_mul_right _ (by omega)
            rw [hxe _ (by omega)]
            simp
        · refine hgo X C ⟨fun z => absurd z ea, fun _ => ⟨fun _ => by rw [ef] at hE; exact hE, fun z => absurd hend z⟩⟩
      · rw [if_neg hend] at ef
        by_cases hsep : hx w = 59
        · rw [if_pos hsep] at ef
          have ea : rowFin hx n 0 w w = nI w := by rw [rowFin_y (Or.inr hsep), if_neg w0, if_pos (Nat.zero_le _)]
          obtain ⟨S', ⟨r1, r2, r3⟩, hgo2⟩ := loop 7 1 (pg S1 7 0 (nI (w + 1))) (by omega) rfl (by omega) (by rw [pg_s, Nat.one_mul]) (fun c hc => by rw [pg_o (by decide)]; exact sc c hc) (fun k k7 k10 => by rw [pg_r k7]; exact so k k7 k10) s2 (by decide)
          refine ⟨S', ⟨fun c hc => by rw [r1 c hc, freeH, ef, hw], r2, r3⟩, start _ (fun X C hE => ?_)⟩
          refine hgo X C ⟨fun z => absurd z (by rw [ea]; exact nm1 (by omega)), fun _ => ⟨fun z => absurd z hend, fun _ => ?_⟩⟩
          rw [ea]
          rw [ef] at hE
          exact hgo2 X C hE
        · rw [if_neg hsep] at ef
          have ea : rowFin hx n 0 w w = -1 := rowFin_n (fun o => o.elim hend hsep)
          refine ⟨s_X8_clears S1, ⟨fun c hc => by rw [b1 c hc, freeH, ef, decide_eq_false (nm1 (by omega))]; rfl, b2, b3⟩, start _ (fun X C hE => ?_)⟩
          refine hgo X C ⟨fun _ => by rw [ef] at hE; exact hE, fun z => absurd ea z⟩
