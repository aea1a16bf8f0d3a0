set_option maxRecDepth 20000 in
theorem ggX8_readsRow_X8_here : GoodIn wsX8_readsRow wsX8_here := goodIn_r _ [8, 1, 2, 9, 10, 11, 12, 13, 14, 15, 16, 17, 18, 19, 20, 21, 22, 23, 24, 25, 26, 27] (by decide +kernel) (by decide +kernel)
set_option maxRecDepth 20000 in
theorem gX8_readsRow_X8_here : GoodIn wsX8_readsRow (wsV RX8 93 RX8 yX8_here wsX8_here) := goodIn_app (goodIn_of _ (by decide +kernel)) ggX8_readsRow_X8_here
theorem dX8_readsRow_0 : decode cX8_readsRow 0 = .ok (.iconst 0, 1) := by decide +kernel
theorem dX8_readsRow_1 : decode cX8_readsRow 1 = .ok (.istore_n 3, 1) := by decide +kernel
theorem dX8_readsRow_2 : decode cX8_readsRow 2 = .ok (.aload_n 0, 1) := by decide +kernel
theorem dX8_readsRow_3 : decode cX8_readsRow 3 = .ok (.getfield 87, 3) := by decide +kernel
theorem dX8_readsRow_6 : decode cX8_readsRow 6 = .ok (.aload_n 0, 1) := by decide +kernel
theorem dX8_readsRow_7 : decode cX8_readsRow 7 = .ok (.getfield 25, 3) := by decide +kernel
theorem dX8_readsRow_10 : decode cX8_readsRow 10 = .ok (.iconst 1, 1) := by decide +kernel
theorem dX8_readsRow_11 : decode cX8_readsRow 11 = .ok (.iaload, 1) := by decide +kernel
theorem dX8_readsRow_12 : decode cX8_readsRow 12 = .ok (.if_icmp .ge 89, 3) := by decide +kernel
theorem dX8_readsRow_15 : decode cX8_readsRow 15 = .ok (.aload_n 0, 1) := by decide +kernel
theorem dX8_readsRow_16 : decode cX8_readsRow 16 = .ok (.iconst 1, 1) := by decide +kernel
theorem dX8_readsRow_17 : decode cX8_readsRow 17 = .ok (.invokevirtual 93, 3) := by decide +kernel
theorem dX8_readsRow_20 : decode cX8_readsRow 20 = .ok (.bipush 59, 2) := by decide +kernel
theorem dX8_readsRow_22 : decode cX8_readsRow 22 = .ok (.if_icmp .eq 79, 3) := by decide +kernel
theorem dX8_readsRow_25 : decode cX8_readsRow 25 = .ok (.aload_n 0, 1) := by decide +kernel
theorem dX8_readsRow_26 : decode cX8_readsRow 26 = .ok (.iconst 1, 1) := by decide +kernel
theorem dX8_readsRow_27 : decode cX8_readsRow 27 = .ok (.invokevirtual 93, 3) := by decide +kernel
theorem dX8_readsRow_30 : decode cX8_readsRow 30 = .ok (.istore 4, 2) := by decide +kernel
theorem dX8_readsRow_32 : decode cX8_readsRow 32 = .ok (.iload_n 3, 1) := by decide +kernel
theorem dX8_readsRow_33 : decode cX8_readsRow 33 = .ok (.iload_n 2, 1) := by decide +kernel
theorem dX8_readsRow_34 : decode cX8_readsRow 34 = .ok (.ifCond .ne 8, 3) := by decide +kernel
theorem dX8_readsRow_37 : decode cX8_readsRow 37 = .ok (.bipush 8, 2) := by decide +kernel
theorem dX8_readsRow_39 : decode cX8_readsRow 39 = .ok (.goto 4, 3) := by decide +kernel
theorem dX8_readsRow_42 : decode cX8_readsRow 42 = .ok (.iload_n 2, 1) := by decide +kernel
theorem dX8_readsRow_43 : decode cX8_readsRow 43 = .ok (.if_icmp .eq 17, 3) := by decide +kernel
theorem dX8_readsRow_46 : decode cX8_readsRow 46 = .ok (.iload 4, 2) := by decide +kernel
theorem dX8_readsRow_48 : decode cX8_readsRow 48 = .ok (.bipush 46, 2) := by decide +kernel
theorem dX8_readsRow_50 : decode cX8_readsRow 50 = .ok (.if_icmp .eq 12, 3) := by decide +kernel
theorem dX8_readsRow_53 : decode cX8_readsRow 53 = .ok (.iload 4, 2) := by decide +kernel
theorem dX8_readsRow_55 : decode cX8_readsRow 55 = .ok (.bipush 35, 2) := by decide +kernel
theorem dX8_readsRow_57 : decode cX8_readsRow 57 = .ok (.if_icmp .eq 5, 3) := by decide +kernel
theorem dX8_readsRow_60 : decode cX8_readsRow 60 = .ok (.iconst (-1), 1) := by decide +kernel
theorem dX8_readsRow_61 : decode cX8_readsRow 61 = .ok (.ireturn, 1) := by decide +kernel
theorem dX8_readsRow_62 : decode cX8_readsRow 62 = .ok (.aload_n 0, 1) := by decide +kernel
theorem dX8_readsRow_63 : decode cX8_readsRow 63 = .ok (.getfield 31, 3) := by decide +kernel
theorem dX8_readsRow_66 : decode cX8_readsRow 66 = .ok (.bipush 8, 2) := by decide +kernel
theorem dX8_readsRow_68 : decode cX8_readsRow 68 = .ok (.iload_n 1, 1) := by decide +kernel
theorem dX8_readsRow_69 : decode cX8_readsRow 69 = .ok (.imul, 1) := by decide +kernel
theorem dX8_readsRow_70 : decode cX8_readsRow 70 = .ok (.iload_n 3, 1) := by decide +kernel
theorem dX8_readsRow_71 : decode cX8_readsRow 71 = .ok (.iadd, 1) := by decide +kernel
theorem dX8_readsRow_72 : decode cX8_readsRow 72 = .ok (.iload 4, 2) := by decide +kernel
theorem dX8_readsRow_74 : decode cX8_readsRow 74 = .ok (.bipush 46, 2) := by decide +kernel
theorem dX8_readsRow_76 : decode cX8_readsRow 76 = .ok (.if_icmp .ne 7, 3) := by decide +kernel
theorem dX8_readsRow_79 : decode cX8_readsRow 79 = .ok (.iconst 1, 1) := by decide +kernel
theorem dX8_readsRow_80 : decode cX8_readsRow 80 = .ok (.goto 4, 3) := by decide +kernel
theorem dX8_readsRow_83 : decode cX8_readsRow 83 = .ok (.iconst 0, 1) := by decide +kernel
theorem dX8_readsRow_84 : decode cX8_readsRow 84 = .ok (.bastore, 1) := by decide +kernel
theorem dX8_readsRow_85 : decode cX8_readsRow 85 = .ok (.iinc 3 1, 3) := by decide +kernel
theorem dX8_readsRow_88 : decode cX8_readsRow 88 = .ok (.aload_n 0, 1) := by decide +kernel
theorem dX8_readsRow_89 : decode cX8_readsRow 89 = .ok (.dup, 1) := by decide +kernel
theorem dX8_readsRow_90 : decode cX8_readsRow 90 = .ok (.getfield 87, 3) := by decide +kernel
theorem dX8_readsRow_93 : decode cX8_readsRow 93 = .ok (.iconst 1, 1) := by decide +kernel
theorem dX8_readsRow_94 : decode cX8_readsRow 94 = .ok (.iadd, 1) := by decide +kernel
theorem dX8_readsRow_95 : decode cX8_readsRow 95 = .ok (.putfield 87, 3) := by decide +kernel
theorem dX8_readsRow_98 : decode cX8_readsRow 98 = .ok (.goto (-96), 3) := by decide +kernel
theorem dX8_readsRow_101 : decode cX8_readsRow 101 = .ok (.iload_n 3, 1) := by decide +kernel
theorem dX8_readsRow_102 : decode cX8_readsRow 102 = .ok (.ifCond .eq 8, 3) := by decide +kernel
theorem dX8_readsRow_105 : decode cX8_readsRow 105 = .ok (.iload_n 3, 1) := by decide +kernel
theorem dX8_readsRow_106 : decode cX8_readsRow 106 = .ok (.iload_n 2, 1) := by decide +kernel
theorem dX8_readsRow_107 : decode cX8_readsRow 107 = .ok (.if_icmp .ge 7, 3) := by decide +kernel
theorem dX8_readsRow_110 : decode cX8_readsRow 110 = .ok (.iconst (-1), 1) := by decide +kernel
theorem dX8_readsRow_111 : decode cX8_readsRow 111 = .ok (.goto 4, 3) := by decide +kernel
theorem dX8_readsRow_114 : decode cX8_readsRow 114 = .ok (.iload_n 3, 1) := by decide +kernel
theorem dX8_readsRow_115 : decode cX8_readsRow 115 = .ok (.ireturn, 1) := by decide +kernel
theorem iw_X8_readsRow_X8 : ∀ w ∈ u_ws RX8 TX8 18, w ∈ wsX8_readsRow := by decide +kernel
theorem lk_X8_readsRow_0 : Cond.fieldLink RX8 87 (TX8 7).1 (TX8 7).2.1 (TX8 7).2.2.1 ∈ wsX8_readsRow := by decide +kernel
theorem lk_X8_readsRow_1 : Cond.fieldLink RX8 25 (TX8 6).1 (TX8 6).2.1 (TX8 6).2.2.1 ∈ wsX8_readsRow := by decide +kernel
theorem lk_X8_readsRow_2 : Cond.fieldLink RX8 31 (TX8 10).1 (TX8 10).2.1 (TX8 10).2.2.1 ∈ wsX8_readsRow := by decide +kernel
set_option maxRecDepth 100000 in
theorem r_X8_readsRow_0 {X : Bn} (C : Cx X cX8_readsRow 5 RX8 wsX8_readsRow 1 21) (ad : Nat → Nat) (S : MS) (x1 : Int32) (x2 : Int32) (h : At X 5 (mW X.E ad S) 2 [(0, .ref (ad 0)), (1, .int x1), (2, .int x2), (3, .int 0)] []) : At X 5 (mW X.E ad S) 0 [(0, .ref (ad 0)), (1, .int x1), (2, .int x2)] [] := by
  refine at_iconst C dX8_readsRow_0 (v := 0) rfl ?_
  refine at_istore_n C dX8_readsRow_1 rfl (by decide) (lv' := [(3, .int 0), (0, .ref (ad 0)), (1, .int x1), (2, .int x2)]) rfl ?_
  refine at_lv [1, 2, 3, 0] rfl ?_
  exact h
set_option maxRecDepth 100000 in
theorem r_X8_readsRow_2 {X : Bn} (C : Cx X cX8_readsRow 5 RX8 wsX8_readsRow 1 21) (ad : Nat → Nat) (S : MS) (x1 : Int32) (x2 : Int32) (x3 : Int32) (h : (vp_in 1 2) ∧ (((S.1 6 ((1 : Int32).toNatClampNeg) ≤ S.1 7 0) → (Ends X (some .int) (some (.int (if x3 = 0 then (-1) else (if x2 ≤ x3 then x3 else (-1))))) (mW X.E ad S))) ∧ (¬ S.1 6 ((1 : Int32).toNatClampNeg) ≤ S.1 7 0 → ((p_X8_here S (1 : Int32)) ∧ (((f_X8_here S (1 : Int32) = 59) → (Ends X (some .int) (some (.int (if x3 = 0 then (-1) else (if x2 ≤ x3 then x3 else (-1))))) (mW X.E ad S))) ∧ (¬ f_X8_here S (1 : Int32) = 59 → ((p_X8_here S (1 : Int32)) ∧ (((x3 = (if x2 = 0 then 8 else x2)) → (Ends X (some .int) (some (.int (-1))) (mW X.E ad S))) ∧ (¬ x3 = (if x2 = 0 then 8 else x2) → (((f_X8_here S (1 : Int32) = 46) → ((vp_in ((8 * x1) + x3) 64) ∧ (At X 5 (mW X.E ad (pg (pg S 10 (((8 * x1) + x3).toNatClampNeg) (b2i (if f_X8_here S (1 : Int32) = 46 then true else false))) 7 0 ((S.1 7 0) + 1))) 2 [(0, .ref (ad 0)), (1, .int x1), (2, .int x2), (3, .int (x3 + 1))] []))) ∧ (¬ f_X8_here S (1 : Int32) = 46 → (((f_X8_here S (1 : Int32) = 35) → ((vp_in ((8 * x1) + x3) 64) ∧ (At X 5 (mW X.E ad (pg (pg S 10 (((8 * x1) + x3).toNatClampNeg) (b2i (if f_X8_here S (1 : Int32) = 46 then true else false))) 7 0 ((S.1 7 0) + 1))) 2 [(0, .ref (ad 0)), (1, .int x1), (2, .int x2), (3, .int (x3 + 1))] []))) ∧ (¬ f_X8_here S (1 : Int32) = 35 → (Ends X (some .int) (some (.int (-1))) (mW X.E ad S))))))))))))))) : At X 5 (mW X.E ad S) 2 [(0, .ref (ad 0)), (1, .int x1), (2, .int x2), (3, .int x3)] [] := by
  refine at_aload_n C dX8_readsRow_2 rfl (j := 0) rfl ?_
  refine at_get C (K := RX8) (T := TX8) (N := 18) (ci := 7) (v := .int (S.1 7 0)) iw_X8_readsRow_X8 0 mW_c0 rfl 7 (by decide) lk_X8_readsRow_0 rfl dX8_readsRow_3 ?_
  refine at_aload_n C dX8_readsRow_6 rfl (j := 0) rfl ?_
  refine at_get C (K := RX8) (T := TX8) (N := 18) (ci := 7) (v := .ref (ad 6)) iw_X8_readsRow_X8 0 mW_c0 rfl 6 (by decide) lk_X8_readsRow_1 rfl dX8_readsRow_7 ?_
  refine at_iconst C dX8_readsRow_10 (v := 1) rfl ?_
  refine at_iald C 6 mW_c6 h.1 dX8_readsRow_11 ?_
  replace h := h.2
  refine at_icmp_ge C dX8_readsRow_12 (tgt := 101) (by decide) (fun hc0 => ?_) (fun hc0 => ?_)
  · replace h := h.1 hc0
    refine at_iload_n C dX8_readsRow_101 rfl (j := 3) rfl ?_
    have K : At X 5 (mW X.E ad S) 115 [] [.int (if x3 = 0 then (-1) else (if x2 ≤ x3 then x3 else (-1)))] := by
      exact at_iret C dX8_readsRow_115 h
    refine at_if_eq C dX8_readsRow_102 (tgt := 110) (by decide) (fun hc1 => ?_) (fun hc1 => ?_)
    · skip
      refine at_iconst C dX8_readsRow_110 (v := (-1)) rfl ?_
      refine at_goto C dX8_readsRow_111 (tgt := 115) (by decide) ?_
      refine at_lv [] rfl ?_
      first | (simp only [if_pos hc1] at K; exact K) | exact K
    · skip
      refine at_iload_n C dX8_readsRow_105 rfl (j := 3) rfl ?_
      refine at_iload_n C dX8_readsRow_106 rfl (j := 2) rfl ?_
      refine at_icmp_ge C dX8_readsRow_107 (tgt := 114) (by decide) (fun hc2 => ?_) (fun hc2 => ?_)
      · skip
        refine at_iload_n C dX8_readsRow_114 rfl (j := 3) rfl ?_
        refine at_lv [] rfl ?_
        first | (simp only [if_neg hc1, if_pos hc2] at K; exact K) | exact K
      · skip
        refine at_iconst C dX8_readsRow_110 (v := (-1)) rfl ?_
        refine at_goto C dX8_readsRow_111 (tgt := 115) (by decide) ?_
        refine at_lv [] rfl ?_
        first | (simp only [if_neg hc1, if_neg hc2] at K; exact K) | exact K
  · replace h := h.2 hc0
    refine at_aload_n C dX8_readsRow_15 rfl (j := 0) rfl ?_
    refine at_iconst C dX8_readsRow_16 (v := 1) rfl ?_
    refine at_cV1 C 1 (c_X8_here X.l X.D X.E X.a1 X.a2 ad S (1 : Int32) h.1) gX8_readsRow_X8_here rfl (by decide +kernel) ⟨rfl, rfl⟩ rfl rfl rfl 0 mW_c0 rfl dX8_readsRow_17 ?_
    replace h := h.2
    refine at_bipush C dX8_readsRow_20 (v := 59) rfl ?_
    refine at_icmp_eq C dX8_readsRow_22 (tgt := 101) (by decide) (fun hc1 => ?_) (fun hc1 => ?_)
    · replace h := h.1 hc1
      refine at_iload_n C dX8_readsRow_101 rfl (j := 3) rfl ?_
      have K : At X 5 (mW X.E ad S) 115 [] [.int (if x3 = 0 then (-1) else (if x2 ≤ x3 then x3 else (-1)))] := by
        exact at_iret C dX8_readsRow_115 h
      refine at_if_eq C dX8_readsRow_102 (tgt := 110) (by decide) (fun hc2 => ?_) (fun hc2 => ?_)
      · skip
        refine at_iconst C dX8_readsRow_110 (v := (-1)) rfl ?_
        refine at_goto C dX8_readsRow_111 (tgt := 115) (by decide) ?_
        refine at_lv [] rfl ?_
        first | (simp only [if_pos hc2] at K; exact K) | exact K
      · skip
        refine at_iload_n C dX8_readsRow_105 rfl (j := 3) rfl ?_
        refine at_iload_n C dX8_readsRow_106 rfl (j := 2) rfl ?_
        refine at_icmp_ge C dX8_readsRow_107 (tgt := 114) (by decide) (fun hc3 => ?_) (fun hc3 => ?_)
        · skip
          refine at_iload_n C dX8_readsRow_114 rfl (j := 3) rfl ?_
          refine at_lv [] rfl ?_
          first | (simp only [if_neg hc2, if_pos hc3] at K; exact K) | exact K
        · skip
          refine at_iconst C dX8_readsRow_110 (v := (-1)) rfl ?_
          refine at_goto C dX8_readsRow_111 (tgt := 115) (by decide) ?_
          refine at_lv [] rfl ?_
          first | (simp only [if_neg hc2, if_neg hc3] at K; exact K) | exact K
    · replace h := h.2 hc1
      refine at_aload_n C dX8_readsRow_25 rfl (j := 0) rfl ?_
      refine at_iconst C dX8_readsRow_26 (v := 1) rfl ?_
      refine at_cV1 C 1 (c_X8_here X.l X.D X.E X.a1 X.a2 ad S (1 : Int32) h.1) gX8_readsRow_X8_here rfl (by decide +kernel) ⟨rfl, rfl⟩ rfl rfl rfl 0 mW_c0 rfl dX8_readsRow_27 ?_
      replace h := h.2
      refine at_istore C dX8_readsRow_30 (by decide) (lv' := [(4, .int (f_X8_here S (1 : Int32))), (0, .ref (ad 0)), (1, .int x1), (2, .int x2), (3, .int x3)]) rfl ?_
      refine at_iload_n C dX8_readsRow_32 rfl (j := 4) rfl ?_
      refine at_iload_n C dX8_readsRow_33 rfl (j := 3) rfl ?_
      have K : At X 5 (mW X.E ad S) 43 [(0, .ref (ad 0)), (1, .int x1), (2, .int x2), (3, .int x3), (4, .int (f_X8_here S (1 : Int32)))] [.int (if x2 = 0 then 8 else x2), .int x3] := by
        refine at_icmp_eq C dX8_readsRow_43 (tgt := 60) (by decide) (fun hc2 => ?_) (fun hc2 => ?_)
        · replace h := h.1 hc2
          refine at_iconst C dX8_readsRow_60 (v := (-1)) rfl ?_
          exact at_iret C dX8_readsRow_61 h
        · replace h := h.2 hc2
          refine at_iload C dX8_readsRow_46 (j := 4) rfl ?_
          refine at_bipush C dX8_readsRow_48 (v := 46) rfl ?_
          refine at_icmp_eq C dX8_readsRow_50 (tgt := 62) (by decide) (fun hc3 => ?_) (fun hc3 => ?_)
          · replace h := h.1 hc3
            refine at_aload_n C dX8_readsRow_62 rfl (j := 0) rfl ?_
            refine at_get C (K := RX8) (T := TX8) (N := 18) (ci := 7) (v := .ref (ad 8)) iw_X8_readsRow_X8 0 mW_c0 rfl 10 (by decide) lk_X8_readsRow_2 rfl dX8_readsRow_63 ?_
            refine at_bipush C dX8_readsRow_66 (v := 8) rfl ?_
            refine at_iload_n C dX8_readsRow_68 rfl (j := 1) rfl ?_
            refine at_imul C dX8_readsRow_69 ?_
            refine at_iload_n C dX8_readsRow_70 rfl (j := 3) rfl ?_
            refine at_iadd C dX8_readsRow_71 ?_
            refine at_iload C dX8_readsRow_72 (j := 4) rfl ?_
            refine at_bipush C dX8_readsRow_74 (v := 46) rfl ?_
            have K : At X 5 (mW X.E ad S) 84 [(0, .ref (ad 0)), (1, .int x1), (2, .int x2), (3, .int x3)] [.int (b2i (if f_X8_here S (1 : Int32) = 46 then true else false)), .int ((8 * x1) + x3), .ref (ad 8)] := by
              refine at_zast C 8 mW_c8 h.1 (vnb_b2i _) mW_s8 dX8_readsRow_84 ?_
              replace h := h.2
              refine at_iinc C dX8_readsRow_85 (j := 3) (v := x3 + 1) rfl rfl (by decide) (lv' := [(3, .int (x3 + 1)), (0, .ref (ad 0)), (1, .int x1), (2, .int x2)]) rfl ?_
              refine at_aload_n C dX8_readsRow_88 rfl (j := 1) rfl ?_
              refine at_dup C dX8_readsRow_89 rfl ?_
              refine at_get C (K := RX8) (T := TX8) (N := 18) (ci := 7) (v := .int ((pg S 10 (((8 * x1) + x3).toNatClampNeg) (b2i (if f_X8_here S (1 : Int32) = 46 then true else false))).1 7 0)) iw_X8_readsRow_X8 0 mW_c0 rfl 7 (by decide) lk_X8_readsRow_0 rfl dX8_readsRow_90 ?_
              refine at_topI (pg_o (by decide)) ?_
              refine at_iconst C dX8_readsRow_93 (v := 1) rfl ?_
              refine at_iadd C dX8_readsRow_94 ?_
              refine at_put C (K := RX8) (T := TX8) (N := 18) (ci := 7) (ty := .int) iw_X8_readsRow_X8 tyX8 tyX8_ok nmX8 0 mW_c0 rfl 7 (by decide) lk_X8_readsRow_0 rfl rfl rfl rfl (Nat.le_of_ble_eq_true rfl) mW_f0_7 dX8_readsRow_95 ?_
              refine at_goto C dX8_readsRow_98 (tgt := 2) (by decide) ?_
              refine at_lv [1, 2, 3, 0] rfl ?_
              exact h
            refine at_icmp_ne C dX8_readsRow_76 (tgt := 83) (by decide) (fun hc4 => ?_) (fun hc4 => ?_)
            · skip
              refine at_iconst C dX8_readsRow_83 (v := 0) rfl ?_
              refine at_lv [0, 1, 2, 3] rfl ?_
              first | (simp only [if_neg hc4] at K; exact K) | exact K
            · skip
              refine at_iconst C dX8_readsRow_79 (v := 1) rfl ?_
              refine at_goto C dX8_readsRow_80 (tgt := 84) (by decide) ?_
              refine at_lv [0, 1, 2, 3] rfl ?_
              first | (simp only [if_pos hc4] at K; exact K) | exact K
          · replace h := h.2 hc3
            refine at_iload C dX8_readsRow_53 (j := 4) rfl ?_
            refine at_bipush C dX8_readsRow_55 (v := 35) rfl ?_
            refine at_icmp_eq C dX8_readsRow_57 (tgt := 62) (by decide) (fun hc4 => ?_) (fun hc4 => ?_)
            · replace h := h.1 hc4
              refine at_aload_n C dX8_readsRow_62 rfl (j := 0) rfl ?_
              refine at_get C (K := RX8) (T := TX8) (N := 18) (ci := 7) (v := .ref (ad 8)) iw_X8_readsRow_X8 0 mW_c0 rfl 10 (by decide) lk_X8_readsRow_2 rfl dX8_readsRow_63 ?_
              refine at_bipush C dX8_readsRow_66 (v := 8) rfl ?_
              refine at_iload_n C dX8_readsRow_68 rfl (j := 1) rfl ?_
              refine at_imul C dX8_readsRow_69 ?_
              refine at_iload_n C dX8_readsRow_70 rfl (j := 3) rfl ?_
              refine at_iadd C dX8_readsRow_71 ?_
              refine at_iload C dX8_readsRow_72 (j := 4) rfl ?_
              refine at_bipush C dX8_readsRow_74 (v := 46) rfl ?_
              have K : At X 5 (mW X.E ad S) 84 [(0, .ref (ad 0)), (1, .int x1), (2, .int x2), (3, .int x3)] [.int (b2i (if f_X8_here S (1 : Int32) = 46 then true else false)), .int ((8 * x1) + x3), .ref (ad 8)] := by
                refine at_zast C 8 mW_c8 h.1 (vnb_b2i _) mW_s8 dX8_readsRow_84 ?_
                replace h := h.2
                refine at_iinc C dX8_readsRow_85 (j := 3) (v := x3 + 1) rfl rfl (by decide) (lv' := [(3, .int (x3 + 1)), (0, .ref (ad 0)), (1, .int x1), (2, .int x2)]) rfl ?_
                refine at_aload_n C dX8_readsRow_88 rfl (j := 1) rfl ?_
                refine at_dup C dX8_readsRow_89 rfl ?_
                refine at_get C (K := RX8) (T := TX8) (N := 18) (ci := 7) (v := .int ((pg S 10 (((8 * x1) + x3).toNatClampNeg) (b2i (if f_X8_here S (1 : Int32) = 46 then true else false))).1 7 0)) iw_X8_readsRow_X8 0 mW_c0 rfl 7 (by decide) lk_X8_readsRow_0 rfl dX8_readsRow_90 ?_
                refine at_topI (pg_o (by decide)) ?_
                refine at_iconst C dX8_readsRow_93 (v := 1) rfl ?_
                refine at_iadd C dX8_readsRow_94 ?_
                refine at_put C (K := RX8) (T := TX8) (N := 18) (ci := 7) (ty := .int) iw_X8_readsRow_X8 tyX8 tyX8_ok nmX8 0 mW_c0 rfl 7 (by decide) lk_X8_readsRow_0 rfl rfl rfl rfl (Nat.le_of_ble_eq_true rfl) mW_f0_7 dX8_readsRow_95 ?_
                refine at_goto C dX8_readsRow_98 (tgt := 2) (by decide) ?_
                refine at_lv [1, 2, 3, 0] rfl ?_
                exact h
              refine at_icmp_ne C dX8_readsRow_76 (tgt := 83) (by decide) (fun hc5 => ?_) (fun hc5 => ?_)
              · skip
                refine at_iconst C dX8_readsRow_83 (v := 0) rfl ?_
                refine at_lv [0, 1, 2, 3] rfl ?_
                first | (simp only [if_neg hc5] at K; exact K) | exact K
              · skip
                refine at_iconst C dX8_readsRow_79 (v := 1) rfl ?_
                refine at_goto C dX8_readsRow_80 (tgt := 84) (by decide) ?_
                refine at_lv [0, 1, 2, 3] rfl ?_
                first | (simp only [if_pos hc5] at K; exact K) | exact K
            · replace h := h.2 hc4
              refine at_iconst C dX8_readsRow_60 (v := (-1)) rfl ?_
              exact at_iret C dX8_readsRow_61 h
      refine at_if_ne C dX8_readsRow_34 (tgt := 42) (by decide) (fun hc2 => ?_) (fun hc2 => ?_)
      · skip
        refine at_iload_n C dX8_readsRow_42 rfl (j := 3) rfl ?_
        refine at_lv [1, 2, 3, 4, 0] rfl ?_
        first | (simp only [if_neg hc2] at K; exact K) | exact K
      · skip
        refine at_bipush C dX8_readsRow_37 (v := 8) rfl ?_
        refine at_goto C dX8_readsRow_39 (tgt := 43) (by decide) ?_
        refine at_lv [1, 2, 3, 4, 0] rfl ?_
        first | (simp only [if_pos hc2] at K; exact K) | exact K
def ground (b : Int32) : Bool := decide (b = 46) || decide (b = 35)
/-- how many bytes of ground there are from a place on, of at most w -/
def lead (hx : Nat → Int32) : Nat → Nat → Nat
  | 0, _ => 0
  | w + 1, p => if ground (hx p) then lead hx w (p + 1) + 1 else 0
theorem lead_le (hx : Nat → Int32) : ∀ (w p : Nat), lead hx w p ≤ w
  | 0, _ => Nat.le_refl _
  | w + 1, p => by
    rw [lead]
    split
    · have := lead_le hx w (p + 1); omega
    · omega
/-- what readsRow answers with so many bytes of ground read, being at q -/
def rowFin (hx : Nat → Int32) (n wide q c : Nat) : Int32 := if n ≤ q ∨ hx q = 59 then (if c = 0 then -1 else (if wide ≤ c then nI c else -1)) else -1
/-- what readsRow answers of a row at p, if the rows are so wide (0: the first) -/
def rowAns (hx : Nat → Int32) (n wide p : Nat) : Int32 := rowFin hx n wide (p + lead hx (if wide = 0 then 8 else wide) p) (lead hx (if wide = 0 then 8 else wide) p)
theorem rowFin_y {hx : Nat → Int32} {n wide q c : Nat} (h : n ≤ q ∨ hx q = 59) : rowFin hx n wide q c = (if c = 0 then -1 else (if wide ≤ c then nI c else -1)) := if_pos h
theorem rowFin_n {hx : Nat → Int32} {n wide q c : Nat} (h : ¬ (n ≤ q ∨ hx q = 59)) : rowFin hx n wide q c = -1 := if_neg h
def rdRow (hx : Nat → Int32) (row lim p : Nat) (S S' : MS) : Prop :=
  S'.1 7 0 = nI (p + lead hx lim p) ∧ (∀ j, j < lead hx lim p → S'.1 10 (8 * row + j) = b2i (decide (hx (p + j) = 46))) ∧ (∀ m, (m < 8 * row ∨ 8 * row + lead hx lim p ≤ m) → S'.1 10 m = S.1 10 m) ∧ (∀ k, k ≠ 7 → k ≠ 10 → S'.1 k = S.1 k) ∧ S'.2 = S.2
theorem hxv_end {g : Nat → Int32} {b n p : Nat} (h : n ≤ p) : hxv g b n p = -1 := by rw [hxv, if_neg (by omega)]
theorem c_X8_readsRow (ad : Nat → Nat) (S : MS) {n p row wide : Nat} (hn : n ≤ 71) (e6 : S.1 6 1 = nI n) (e7 : S.1 7 0 = nI p) (hp : p ≤ n) (hrow : row < 8) (hw : wide ≤ 8) :
    ∃ S', rdRow (hxv (S.1 5) 40 n) row (if wide = 0 then 8 else wide) p S S' ∧ ∀ (l : Launch) (D : va_G) (E : Nat → ClassId) (a1 a2 : Nat), Fn l D E a1 a2 yX8_readsRow wsX8_readsRow 1 21 [.ref (ad 0), .int (nI row), .int (nI wide)] (mW E ad S) (some (.int (rowAns (hxv (S.1 5) 40 n) n wide p))) (mW E ad S') := by
  generalize hhx : hxv (S.1 5) 40 n = hx
  generalize hlim : (if wide = 0 then 8 else wide) = lim
  have hl8 : lim ≤ 8 ∧ 0 < lim := by rw [← hlim]; split <;> omega
  have elim : (if nI wide = 0 then (8 : Int32) else nI wide) = nI lim := by
    rw [← hlim]
    by_cases q : wide = 0
    · rw [if_pos q, q]; rfl
    · rw [if_neg q, if_neg (show ¬ nI wide = 0 from fun z => q ((nI_eq (b := 0) (by omega) (by decide)).mp z))]
  have loop : ∀ (d col : Nat) (T : MS), d + col = lim → p + col ≤ n → T.1 7 0 = nI (p + col) → (∀ k, k ≠ 7 → k ≠ 10 → T.1 k = S.1 k) → T.2 = S.2 →
      ∃ S', (S'.1 7 0 = nI (p + col + lead hx d (p + col)) ∧ (∀ j, j < lead hx d (p + col) → S'.1 10 (8 * row + col + j) = b2i (decide (hx (p + col + j) = 46))) ∧ (∀ m, (m < 8 * row + col ∨ 8 * row + col + lead hx d (p + col) ≤ m) → S'.1 10 m = T.1 10 m) ∧ (∀ k, k ≠ 7 → k ≠ 10 → S'.1 k = S.1 k) ∧ S'.2 = S.2) ∧
        ∀ X : Bn, Cx X cX8_readsRow 5 RX8 wsX8_readsRow 1 21 → Ends X (some .int) (some (.int (rowFin hx n wide (p + col + lead hx d (p + col)) (col + lead hx d (p + col))))) (mW X.E ad S') → At X 5 (mW X.E ad T) 2 [(0, .ref (ad 0)), (1, .int (nI row)), (2, .int (nI wide)), (3, .int (nI col))] [] := by
    intro d
    induction d with
    | zero =>
      intro col T hd hpc t7 to t2
      have t6 : T.1 6 1 = nI n := by rw [to 6 (by decide) (by decide)]; exact e6
      have t5 : T.1 5 = S.1 5 := to 5 (by decide) (by decide)
      refine ⟨T, ⟨by rw [t7]; rfl, fun j hj => absurd hj (Nat.not_lt_zero j), fun m _ => rfl, to, t2⟩, fun X C hE => ?_⟩
      obtain ⟨g1, g2⟩ := here_eq (S := T) (t := 1) (n := n) (p := p + col) (by decide) hn (by omega) t6 t7 (by omega)
      have g3 : f_X8_here T 1 = hx (p + col) := by rw [← hhx, ← t5]; exact g1
      have c1 : (1 : Int32).toNatClampNeg = 1 := rfl
      have fin : (if nI col = 0 then (-1 : Int32) else (if nI wide ≤ nI col then nI col else -1)) = (if col = 0 then -1 else (if wide ≤ col then nI col else -1)) := by
        rw [if_dec_congr (show nI col = 0 ↔ col = 0 from nI_eq (b := 0) (by omega) (by decide)), if_dec_congr (nle (a := wide) (b := col) (by omega) (by omega))]
      rw [show lead hx 0 (p + col) = 0 from rfl, Nat.add_zero, Nat.add_zero] at hE
      refine r_X8_readsRow_2 C ad T (nI row) (nI wide) (nI col) ⟨vp_in_nI (n := 1) (by decide) (by decide), fun q => ?_, fun q => ⟨g2, fun z => ?_, fun z => ⟨g2, fun _ => ?_, fun y => ?_⟩⟩⟩
      · rw [c1, t6, t7] at q
        rw [rowFin_y (Or.inl ((nle (by omega) (by omega)).mp q))] at hE
        rw [fin]; exact hE
      · rw [g3] at z
        rw [rowFin_y (Or.inr z)] at hE
        rw [fin]; exact hE
      · rw [g3] at z
        rw [c1, t6, t7] at q
        rw [rowFin_n (fun o => o.elim (fun o => q ((nle (by omega) (by omega)).mpr o)) z)] at hE
        exact hE
      · refine absurd ?_ y
        rw [elim]; exact congrArg nI (by omega)
    | succ d ih =>
      intro col T hd hpc t7 to t2
      have t6 : T.1 6 1 = nI n := by rw [to 6 (by decide) (by decide)]; exact e6
      have t5 : T.1 5 = S.1 5 := to 5 (by decide) (by decide)
      obtain ⟨g1, g2⟩ := here_eq (S := T) (t := 1) (n := n) (p := p + col) (by decide) hn (by omega) t6 t7 (by omega)
      have g3 : f_X8_here T 1 = hx (p + col) := by rw [← hhx, ← t5]; exact g1
      have c1 : (1 : Int32).toNatClampNeg = 1 := rfl
      have fin : (if nI col = 0 then (-1 : Int32) else (if nI wide ≤ nI col then nI col else -1)) = (if col = 0 then -1 else (if wide ≤ col then nI col else -1)) := by
        rw [if_dec_congr (show nI col = 0 ↔ col = 0 from nI_eq (b := 0) (by omega) (by decide)), if_dec_congr (nle (a := wide) (b := col) (by omega) (by omega))]
      by_cases hg : ground (hx (p + col)) = true
      · -- one more byte of ground
        have hlt : p + col < n := by
          rcases Nat.lt_or_ge (p + col) n with q | q
          · exact q
          · rw [← hhx, hxv_end q] at hg; exact absurd hg (by decide)
        have el : lead hx (d + 1) (p + col) = lead hx d (p + (col + 1)) + 1 := by rw [lead, if_pos hg]; rfl
        have ei : (8 * nI row) + nI col = nI (8 * row + col) := by rw [show (8 : Int32) = nI 8 from rfl, pk_mul, nI_add]
        have eb : (if f_X8_here T 1 = 46 then true else false) = decide (hx (p + col) = 46) := by
          rw [g3]
          by_cases q : hx (p + col) = 46
          · rw [if_pos q, decide_eq_true q]
          · rw [if_neg q, decide_eq_false q]
        obtain ⟨T1, hT1⟩ : ∃ T1, T1 = pg (pg T 10 (8 * row + col) (b2i (decide (hx (p + col) = 46)))) 7 0 (nI (p + (col + 1))) := ⟨_, rfl⟩
        obtain ⟨S', ⟨q1, q2, q3, q4, q5⟩, hgo⟩ := ih (col + 1) T1 (by omega) (by omega) (by rw [hT1, pg_s]) (fun k k7 k10 => by rw [hT1, pg_r k7, pg_r k10]; exact to k k7 k10) (by rw [hT1]; exact t2)
        refine ⟨S', ⟨by rw [q1, el]; exact congrArg nI (by omega), fun j hj => ?_, fun m hm => ?_, q4, q5⟩, fun X C hE => ?_⟩
        · rw [el] at hj
          cases j with
          | zero =>
            rw [Nat.add_zero, Nat.add_zero, q3 _ (Or.inl (by omega)), hT1, pg_o (by decide), pg_s]
          | succ j =>
            have := q2 j (by omega)
            rw [show 8 * row + (col + 1) + j = 8 * row + col + (j + 1) by omega, show p + (col + 1) + j = p + col + (j + 1) by omega] at this
            exact this
        · rw [el] at hm
          rw [q3 m (by omega), hT1, pg_o (by decide), pg_n (by omega)]
        · rw [el] at hE
          rw [show p + col + (lead hx d (p + (col + 1)) + 1) = p + (col + 1) + lead hx d (p + (col + 1)) by omega, show col + (lead hx d (p + (col + 1)) + 1) = col + 1 + lead hx d (p + (col + 1)) by omega] at hE
          have next := hgo X C hE
          have hle : ¬ T.1 6 (1 : Int32).toNatClampNeg ≤ T.1 7 0 := by rw [c1, t6, t7]; exact fun q => absurd ((nle (by omega) (by omega)).mp q) (by omega)
          have h59 : ¬ f_X8_here T 1 = 59 := fun z => by rw [g3] at z; rw [z] at hg; exact absurd hg (by decide)
          have stp : vp_in (8 * nI row + nI col) 64 ∧ At X 5 (mW X.E ad (pg (pg T 10 (8 * nI row + nI col).toNatClampNeg (b2i (if f_X8_here T 1 = 46 then true else false))) 7 0 (T.1 7 0 + 1))) 2 [(0, .ref (ad 0)), (1, .int (nI row)), (2, .int (nI wide)), (3, .int (nI col + 1))] [] := by
            rw [ei, eb, nI_clamp (by omega), t7, nI_1, nI_1]
            refine ⟨vp_in_nI (by omega) (by decide), ?_⟩
            rw [hT1, show p + (col + 1) = p + col + 1 by omega] at next
            exact next
          refine r_X8_readsRow_2 C ad T (nI row) (nI wide) (nI col) ⟨vp_in_nI (n := 1) (by decide) (by decide), fun q => absurd q hle, fun _ => ⟨g2, fun z => absurd z h59, fun _ => ⟨g2, fun y => ?_, fun _ => ⟨fun _ => stp, fun u => ⟨fun _ => stp, fun v => ?_⟩⟩⟩⟩⟩
          · rw [elim] at y
            have := (nI_eq (by omega) (by omega)).mp y
            omega
          · exfalso
            rw [g3] at u v
            rw [ground, decide_eq_false u, decide_eq_false v] at hg
            cases hg
      · -- the row ends, or a byte that is no ground
        have el : lead hx (d + 1) (p + col) = 0 := by rw [lead, if_neg hg]
        refine ⟨T, ⟨by rw [t7, el]; rfl, fun j hj => by rw [el] at hj; exact absurd hj (Nat.not_lt_zero j), fun m _ => rfl, to, t2⟩, fun X C hE => ?_⟩
        rw [el, Nat.add_zero, Nat.add_zero] at hE
        refine r_X8_readsRow_2 C ad T (nI row) (nI wide) (nI col) ⟨vp_in_nI (n := 1) (by decide) (by decide), fun q => ?_, fun q => ⟨g2, fun z => ?_, fun z => ⟨g2, fun y => ?_, fun y => ⟨fun u => ?_, fun u => ⟨fun v => ?_, fun v => ?_⟩⟩⟩⟩⟩
        · rw [c1, t6, t7] at q
          rw [rowFin_y (Or.inl ((nle (by omega) (by omega)).mp q))] at hE
          rw [fin]; exact hE
        · rw [g3] at z
          rw [rowFin_y (Or.inr z)] at hE
          rw [fin]; exact hE
        · rw [elim] at y
          have := (nI_eq (by omega) (by omega)).mp y
          omega
        · exfalso; rw [g3] at u; rw [u] at hg; exact hg (by decide)
        · exfalso; rw [g3] at v; rw [v] at hg; exact hg (by decide)
        · rw [g3] at z
          rw [c1, t6, t7] at q
          rw [rowFin_n (fun o => o.elim (fun o => q ((nle (by omega) (by omega)).mpr o)) z)] at hE
          exact hE
  obtain ⟨S', ⟨q1, q2, q3, q4, q5⟩, hgo⟩ := loop lim 0 S rfl (by omega) (by rw [Nat.add_zero]; exact e7) (fun k _ _ => rfl) rfl
  simp only [Nat.add_zero, Nat.zero_add] at q1 q2 q3 hgo
  refine ⟨S', ⟨q1, q2, q3, q4, q5⟩, fun l D E a1 a2 => ?_⟩
  refine Fn.of (cc := cX8_readsRow) (maxL := 5) (ret := (some .int)) (own := RX8) (by decide) rfl rfl (sameM _ _ _ _) (Nat.le_of_ble_eq_true rfl) (fun X h1 h2 h3 h4 h5 C hE => ?_)
  subst h1 h2 h3 h4 h5
  refine r_X8_readsRow_0 C ad S (nI row) (nI wide) ?_
  refine hgo X C ?_
  rw [rowAns, hlim] at hE
  exact hE
