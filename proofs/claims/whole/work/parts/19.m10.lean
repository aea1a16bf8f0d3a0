set_option maxRecDepth 20000 in
theorem ggX8_isEcho_X8_echo : GoodIn wsX8_isEcho wsX8_echo := goodIn_r _ [5, 6, 7, 8, 4, 9, 10, 11, 12, 13, 14, 15, 16, 17, 18, 19, 20, 21, 22, 23, 24, 25, 26, 27, 28, 29, 30, 31, 32] (by decide +kernel) (by decide +kernel)
set_option maxRecDepth 20000 in
theorem gX8_isEcho_X8_echo : GoodIn wsX8_isEcho (wsV RX8 244 RX8 yX8_echo wsX8_echo) := goodIn_app (goodIn_of _ (by decide +kernel)) ggX8_isEcho_X8_echo
theorem dX8_isEcho_0 : decode cX8_isEcho 0 = .ok (.iload_n 3, 1) := by decide +kernel
theorem dX8_isEcho_1 : decode cX8_isEcho 1 = .ok (.iconst (-1), 1) := by decide +kernel
theorem dX8_isEcho_2 : decode cX8_isEcho 2 = .ok (.if_icmp .eq 13, 3) := by decide +kernel
theorem dX8_isEcho_5 : decode cX8_isEcho 5 = .ok (.aload_n 0, 1) := by decide +kernel
theorem dX8_isEcho_6 : decode cX8_isEcho 6 = .ok (.iload_n 1, 1) := by decide +kernel
theorem dX8_isEcho_7 : decode cX8_isEcho 7 = .ok (.iload_n 2, 1) := by decide +kernel
theorem dX8_isEcho_8 : decode cX8_isEcho 8 = .ok (.invokevirtual 244, 3) := by decide +kernel
theorem dX8_isEcho_11 : decode cX8_isEcho 11 = .ok (.iload_n 3, 1) := by decide +kernel
theorem dX8_isEcho_12 : decode cX8_isEcho 12 = .ok (.if_icmp .ne 7, 3) := by decide +kernel
theorem dX8_isEcho_15 : decode cX8_isEcho 15 = .ok (.iconst 1, 1) := by decide +kernel
theorem dX8_isEcho_16 : decode cX8_isEcho 16 = .ok (.goto 4, 3) := by decide +kernel
theorem dX8_isEcho_19 : decode cX8_isEcho 19 = .ok (.iconst 0, 1) := by decide +kernel
theorem dX8_isEcho_20 : decode cX8_isEcho 20 = .ok (.ireturn, 1) := by decide +kernel
set_option maxRecDepth 100000 in
theorem r_X8_isEcho_0 {X : Bn} (C : Cx X cX8_isEcho 4 RX8 wsX8_isEcho 3 73) (ad : Nat → Nat) (S : MS) (x1 : Int32) (x2 : Int32) (x3 : Int32) (h : (((¬ x3 = (-1)) → (p_X8_echo x1 x2))) ∧ (Ends X (some .boolean) (some (.int (b2i (if x3 = (-1) then true else (if f_X8_echo S x1 x2 = x3 then true else false))))) (mW X.E ad S))) : At X 4 (mW X.E ad S) 0 [(0, .ref (ad 0)), (1, .int x1), (2, .int x2), (3, .int x3)] [] := by
  refine at_iload_n C dX8_isEcho_0 rfl (j := 3) rfl ?_
  refine at_iconst C dX8_isEcho_1 (v := (-1)) rfl ?_
  have hq := h.1
  replace h := h.2
  have K : At X 4 (mW X.E ad S) 20 [] [.int (b2i (if x3 = (-1) then true else (if f_X8_echo S x1 x2 = x3 then true else false)))] := by
    exact at_zret C dX8_isEcho_20 (b2i_nar _) h
  replace h := hq
  refine at_icmp_eq C dX8_isEcho_2 (tgt := 15) (by decide) (fun hc0 => ?_) (fun hc0 => ?_)
  · skip
    refine at_iconst C dX8_isEcho_15 (v := 1) rfl ?_
    refine at_goto C dX8_isEcho_16 (tgt := 20) (by decide) ?_
    refine at_lv [] rfl ?_
    first | (simp only [if_pos hc0] at K; exact K) | exact K
  · replace h := h hc0
    refine at_aload_n C dX8_isEcho_5 rfl (j := 0) rfl ?_
    refine at_iload_n C dX8_isEcho_6 rfl (j := 1) rfl ?_
    refine at_iload_n C dX8_isEcho_7 rfl (j := 2) rfl ?_
    refine at_cV1 C 2 (c_X8_echo X.l X.D X.E X.a1 X.a2 ad S x1 x2 h) gX8_isEcho_X8_echo rfl (by decide +kernel) ⟨rfl, rfl⟩ rfl rfl rfl 0 mW_c0 rfl dX8_isEcho_8 ?_
    refine at_iload_n C dX8_isEcho_11 rfl (j := 3) rfl ?_
    refine at_icmp_ne C dX8_isEcho_12 (tgt := 19) (by decide) (fun hc1 => ?_) (fun hc1 => ?_)
    · skip
      refine at_iconst C dX8_isEcho_19 (v := 0) rfl ?_
      refine at_lv [] rfl ?_
      first | (simp only [if_neg hc0, if_neg hc1] at K; exact K) | exact K
    · skip
      refine at_iconst C dX8_isEcho_15 (v := 1) rfl ?_
      refine at_goto C dX8_isEcho_16 (tgt := 20) (by decide) ?_
      refine at_lv [] rfl ?_
      first | (simp only [if_neg hc0, if_pos hc1] at K; exact K) | exact K
def f_X8_isEcho (S : MS) (x1 : Int32) (x2 : Int32) (x3 : Int32) : Bool := (if x3 = (-1) then true else (if f_X8_echo S x1 x2 = x3 then true else false))
def p_X8_isEcho (S : MS) (x1 : Int32) (x2 : Int32) (x3 : Int32) : Prop := (((¬ x3 = (-1)) → (p_X8_echo x1 x2)))
set_option maxRecDepth 100000 in
theorem c_X8_isEcho (l : Launch) (D : va_G) (E : Nat → ClassId) (a1 a2 : Nat) (ad : Nat → Nat) (S : MS) (x1 : Int32) (x2 : Int32) (x3 : Int32) (hp : p_X8_isEcho S x1 x2 x3) : Fn l D E a1 a2 yX8_isEcho wsX8_isEcho 3 73 [.ref (ad 0), .int x1, .int x2, .int x3] (mW E ad S) (some (.int (b2i (f_X8_isEcho S x1 x2 x3)))) (mW E ad S) := by
  refine Fn.of (cc := cX8_isEcho) (maxL := 4) (ret := (some .boolean)) (own := RX8) (by decide) rfl rfl rfl (Nat.le_of_ble_eq_true rfl) (fun X h1 h2 h3 h4 h5 C hE => ?_)
  subst h1 h2 h3 h4 h5
  refine r_X8_isEcho_0 C ad S x1 x2 x3 ?_
  refine ⟨hp, ?_⟩
  simp only [f_X8_isEcho, b2i_t, b2i_f] at hE
  exact hE
set_option maxRecDepth 20000 in
theorem ggX8_echoesOf_X8_isEcho : GoodIn wsX8_echoesOf wsX8_isEcho := goodIn_r _ [6, 7, 8, 9, 5, 10, 11, 12, 13, 14, 15, 1, 16, 17, 18, 19, 20, 21, 22, 23, 24, 25, 26, 27, 28, 29, 30, 31, 32, 33, 34, 35, 36] (by decide +kernel) (by decide +kernel)
set_option maxRecDepth 20000 in
theorem gX8_echoesOf_X8_isEcho : GoodIn wsX8_echoesOf (wsV RX8 261 RX8 yX8_isEcho wsX8_isEcho) := goodIn_app (goodIn_of _ (by decide +kernel)) ggX8_echoesOf_X8_isEcho
theorem dX8_echoesOf_0 : decode cX8_echoesOf 0 = .ok (.iconst 0, 1) := by decide +kernel
theorem dX8_echoesOf_1 : decode cX8_echoesOf 1 = .ok (.istore 6, 2) := by decide +kernel
theorem dX8_echoesOf_3 : decode cX8_echoesOf 3 = .ok (.iconst (-1), 1) := by decide +kernel
theorem dX8_echoesOf_4 : decode cX8_echoesOf 4 = .ok (.istore 7, 2) := by decide +kernel
theorem dX8_echoesOf_6 : decode cX8_echoesOf 6 = .ok (.bipush 63, 2) := by decide +kernel
theorem dX8_echoesOf_8 : decode cX8_echoesOf 8 = .ok (.istore 8, 2) := by decide +kernel
theorem dX8_echoesOf_10 : decode cX8_echoesOf 10 = .ok (.iload 8, 2) := by decide +kernel
theorem dX8_echoesOf_12 : decode cX8_echoesOf 12 = .ok (.ifCond .lt 71, 3) := by decide +kernel
theorem dX8_echoesOf_15 : decode cX8_echoesOf 15 = .ok (.aload_n 0, 1) := by decide +kernel
theorem dX8_echoesOf_16 : decode cX8_echoesOf 16 = .ok (.getfield 31, 3) := by decide +kernel
theorem dX8_echoesOf_19 : decode cX8_echoesOf 19 = .ok (.iload 8, 2) := by decide +kernel
theorem dX8_echoesOf_21 : decode cX8_echoesOf 21 = .ok (.baload, 1) := by decide +kernel
theorem dX8_echoesOf_22 : decode cX8_echoesOf 22 = .ok (.ifCond .eq 55, 3) := by decide +kernel
theorem dX8_echoesOf_25 : decode cX8_echoesOf 25 = .ok (.aload_n 0, 1) := by decide +kernel
theorem dX8_echoesOf_26 : decode cX8_echoesOf 26 = .ok (.iload 8, 2) := by decide +kernel
theorem dX8_echoesOf_28 : decode cX8_echoesOf 28 = .ok (.iconst 0, 1) := by decide +kernel
theorem dX8_echoesOf_29 : decode cX8_echoesOf 29 = .ok (.iload_n 1, 1) := by decide +kernel
theorem dX8_echoesOf_30 : decode cX8_echoesOf 30 = .ok (.invokevirtual 261, 3) := by decide +kernel
theorem dX8_echoesOf_33 : decode cX8_echoesOf 33 = .ok (.ifCond .eq 44, 3) := by decide +kernel
theorem dX8_echoesOf_36 : decode cX8_echoesOf 36 = .ok (.aload_n 0, 1) := by decide +kernel
theorem dX8_echoesOf_37 : decode cX8_echoesOf 37 = .ok (.iload 8, 2) := by decide +kernel
theorem dX8_echoesOf_39 : decode cX8_echoesOf 39 = .ok (.iconst 1, 1) := by decide +kernel
theorem dX8_echoesOf_40 : decode cX8_echoesOf 40 = .ok (.iload_n 2, 1) := by decide +kernel
theorem dX8_echoesOf_41 : decode cX8_echoesOf 41 = .ok (.invokevirtual 261, 3) := by decide +kernel
theorem dX8_echoesOf_44 : decode cX8_echoesOf 44 = .ok (.ifCond .eq 33, 3) := by decide +kernel
theorem dX8_echoesOf_47 : decode cX8_echoesOf 47 = .ok (.aload_n 0, 1) := by decide +kernel
theorem dX8_echoesOf_48 : decode cX8_echoesOf 48 = .ok (.iload 8, 2) := by decide +kernel
theorem dX8_echoesOf_50 : decode cX8_echoesOf 50 = .ok (.iconst 2, 1) := by decide +kernel
theorem dX8_echoesOf_51 : decode cX8_echoesOf 51 = .ok (.iload_n 3, 1) := by decide +kernel
theorem dX8_echoesOf_52 : decode cX8_echoesOf 52 = .ok (.invokevirtual 261, 3) := by decide +kernel
theorem dX8_echoesOf_55 : decode cX8_echoesOf 55 = .ok (.ifCond .eq 22, 3) := by decide +kernel
theorem dX8_echoesOf_58 : decode cX8_echoesOf 58 = .ok (.aload_n 0, 1) := by decide +kernel
theorem dX8_echoesOf_59 : decode cX8_echoesOf 59 = .ok (.iload 8, 2) := by decide +kernel
theorem dX8_echoesOf_61 : decode cX8_echoesOf 61 = .ok (.iconst 3, 1) := by decide +kernel
theorem dX8_echoesOf_62 : decode cX8_echoesOf 62 = .ok (.iload 4, 2) := by decide +kernel
theorem dX8_echoesOf_64 : decode cX8_echoesOf 64 = .ok (.invokevirtual 261, 3) := by decide +kernel
theorem dX8_echoesOf_67 : decode cX8_echoesOf 67 = .ok (.ifCond .eq 10, 3) := by decide +kernel
theorem dX8_echoesOf_70 : decode cX8_echoesOf 70 = .ok (.iinc 6 1, 3) := by decide +kernel
theorem dX8_echoesOf_73 : decode cX8_echoesOf 73 = .ok (.iload 8, 2) := by decide +kernel
theorem dX8_echoesOf_75 : decode cX8_echoesOf 75 = .ok (.istore 7, 2) := by decide +kernel
theorem dX8_echoesOf_77 : decode cX8_echoesOf 77 = .ok (.iinc 8 (-1), 3) := by decide +kernel
theorem dX8_echoesOf_80 : decode cX8_echoesOf 80 = .ok (.goto (-70), 3) := by decide +kernel
theorem dX8_echoesOf_83 : decode cX8_echoesOf 83 = .ok (.iload 5, 2) := by decide +kernel
theorem dX8_echoesOf_85 : decode cX8_echoesOf 85 = .ok (.ifCond .ne 8, 3) := by decide +kernel
theorem dX8_echoesOf_88 : decode cX8_echoesOf 88 = .ok (.iload 6, 2) := by decide +kernel
theorem dX8_echoesOf_90 : decode cX8_echoesOf 90 = .ok (.goto 5, 3) := by decide +kernel
theorem dX8_echoesOf_93 : decode cX8_echoesOf 93 = .ok (.iload 7, 2) := by decide +kernel
theorem dX8_echoesOf_95 : decode cX8_echoesOf 95 = .ok (.ireturn, 1) := by decide +kernel
theorem iw_X8_echoesOf_X8 : ∀ w ∈ u_ws RX8 TX8 18, w ∈ wsX8_echoesOf := by decide +kernel
theorem lk_X8_echoesOf_0 : Cond.fieldLink RX8 31 (TX8 10).1 (TX8 10).2.1 (TX8 10).2.2.1 ∈ wsX8_echoesOf := by decide +kernel
set_option maxRecDepth 100000 in
theorem r_X8_echoesOf_0 {X : Bn} (C : Cx X cX8_echoesOf 9 RX8 wsX8_echoesOf 4 96) (ad : Nat → Nat) (S : MS) (x1 : Int32) (x2 : Int32) (x3 : Int32) (x4 : Int32) (x5 : Int32) (h : At X 9 (mW X.E ad S) 10 [(0, .ref (ad 0)), (1, .int x1), (2, .int x2), (3, .int x3), (4, .int x4), (5, .int x5), (6, .int 0), (7, .int (-1)), (8, .int 63)] []) : At X 9 (mW X.E ad S) 0 [(0, .ref (ad 0)), (1, .int x1), (2, .int x2), (3, .int x3), (4, .int x4), (5, .int x5)] [] := by
  refine at_iconst C dX8_echoesOf_0 (v := 0) rfl ?_
  refine at_istore C dX8_echoesOf_1 (by decide) (lv' := [(6, .int 0), (0, .ref (ad 0)), (1, .int x1), (2, .int x2), (3, .int x3), (4, .int x4), (5, .int x5)]) rfl ?_
  refine at_iconst C dX8_echoesOf_3 (v := (-1)) rfl ?_
  refine at_istore C dX8_echoesOf_4 (by decide) (lv' := [(7, .int (-1)), (6, .int 0), (0, .ref (ad 0)), (1, .int x1), (2, .int x2), (3, .int x3), (4, .int x4), (5, .int x5)]) rfl ?_
  refine at_bipush C dX8_echoesOf_6 (v := 63) rfl ?_
  refine at_istore C dX8_echoesOf_8 (by decide) (lv' := [(8, .int 63), (7, .int (-1)), (6, .int 0), (0, .ref (ad 0)), (1, .int x1), (2, .int x2), (3, .int x3), (4, .int x4), (5, .int x5)]) rfl ?_
  refine at_lv [3, 4, 5, 6, 7, 8, 2, 1, 0] rfl ?_
  exact h
set_option maxRecDepth 100000 in
theorem r_X8_echoesOf_10 {X : Bn} (C : Cx X cX8_echoesOf 9 RX8 wsX8_echoesOf 4 96) (ad : Nat → Nat) (S : MS) (x1 : Int32) (x2 : Int32) (x3 : Int32) (x4 : Int32) (x5 : Int32) (x6 : Int32) (x7 : Int32) (x8 : Int32) (h : ((x8 < 0) → (Ends X (some .int) (some (.int (if x5 = 0 then x6 else x7))) (mW X.E ad S))) ∧ (¬ x8 < 0 → ((vp_in x8 64) ∧ ((((¬ S.1 10 x8.toNatClampNeg = 0) → (p_X8_isEcho S x8 (0 : Int32) x1) ∧ (((f_X8_isEcho S x8 (0 : Int32) x1) = true) → (p_X8_isEcho S x8 (1 : Int32) x2) ∧ (((f_X8_isEcho S x8 (1 : Int32) x2) = true) → (p_X8_isEcho S x8 (2 : Int32) x3) ∧ (((f_X8_isEcho S x8 (2 : Int32) x3) = true) → (p_X8_isEcho S x8 (3 : Int32) x4)))))) ∧ (At X 9 (mW X.E ad S) 10 [(0, .ref (ad 0)), (1, .int x1), (2, .int x2), (3, .int x3), (4, .int x4), (5, .int x5), (6, .int (if S.1 10 x8.toNatClampNeg = 0 then x6 else (if (f_X8_isEcho S x8 (0 : Int32) x1) then (if (f_X8_isEcho S x8 (1 : Int32) x2) then (if (f_X8_isEcho S x8 (2 : Int32) x3) then (if (f_X8_isEcho S x8 (3 : Int32) x4) then x6 + 1 else x6) else x6) else x6) else x6))), (7, .int (if S.1 10 x8.toNatClampNeg = 0 then x7 else (if (f_X8_isEcho S x8 (0 : Int32) x1) then (if (f_X8_isEcho S x8 (1 : Int32) x2) then (if (f_X8_isEcho S x8 (2 : Int32) x3) then (if (f_X8_isEcho S x8 (3 : Int32) x4) then x8 else x7) else x7) else x7) else x7))), (8, .int (x8 + (-1)))] []))))) : At X 9 (mW X.E ad S) 10 [(0, .ref (ad 0)), (1, .int x1), (2, .int x2), (3, .int x3), (4, .int x4), (5, .int x5), (6, .int x6), (7, .int x7), (8, .int x8)] [] := by
  refine at_iload C dX8_echoesOf_10 (j := 8) rfl ?_
  refine at_if_lt C dX8_echoesOf_12 (tgt := 83) (by decide) (fun hc0 => ?_) (fun hc0 => ?_)
  · replace h := h.1 hc0
    refine at_iload C dX8_echoesOf_83 (j := 5) rfl ?_
    have K : At X 9 (mW X.E ad S) 95 [] [.int (if x5 = 0 then x6 else x7)] := by
      exact at_iret C dX8_echoesOf_95 h
    refine at_if_ne C dX8_echoesOf_85 (tgt := 93) (by decide) (fun hc1 => ?_) (fun hc1 => ?_)
    · skip
      refine at_iload C dX8_echoesOf_93 (j := 7) rfl ?_
      refine at_lv [] rfl ?_
      first | (simp only [if_neg hc1] at K; exact K) | exact K
    · skip
      refine at_iload C dX8_echoesOf_88 (j := 6) rfl ?_
      refine at_goto C dX8_echoesOf_90 (tgt := 95) (by decide) ?_
      refine at_lv [] rfl ?_
      first | (simp only [if_pos hc1] at K; exact K) | exact K
  · replace h := h.2 hc0
    refine at_aload_n C dX8_echoesOf_15 rfl (j := 0) rfl ?_
    refine at_get C (K := RX8) (T := TX8) (N := 18) (ci := 7) (v := .ref (ad 8)) iw_X8_echoesOf_X8 0 mW_c0 rfl 10 (by decide) lk_X8_echoesOf_0 rfl dX8_echoesOf_16 ?_
    refine at_iload C dX8_echoesOf_19 (j := 8) rfl ?_
    refine at_zald C 8 mW_c8 h.1 dX8_echoesOf_21 ?_
    replace h := h.2
    have hq := h.1
    replace h := h.2
    have K : At X 9 (mW X.E ad S) 77 [(0, .ref (ad 0)), (1, .int x1), (2, .int x2), (3, .int x3), (4, .int x4), (5, .int x5), (6, .int (if S.1 10 x8.toNatClampNeg = 0 then x6 else (if (f_X8_isEcho S x8 (0 : Int32) x1) then (if (f_X8_isEcho S x8 (1 : Int32) x2) then (if (f_X8_isEcho S x8 (2 : Int32) x3) then (if (f_X8_isEcho S x8 (3 : Int32) x4) then x6 + 1 else x6) else x6) else x6) else x6))), (7, .int (if S.1 10 x8.toNatClampNeg = 0 then x7 else (if (f_X8_isEcho S x8 (0 : Int32) x1) then (if (f_X8_isEcho S x8 (1 : Int32) x2) then (if (f_X8_isEcho S x8 (2 : Int32) x3) then (if (f_X8_isEcho S x8 (3 : Int32) x4) then x8 else x7) else x7) else x7) else x7))), (8, .int x8)] [] := by
      refine at_iinc C dX8_echoesOf_77 (j := 8) (v := x8 + (-1)) rfl rfl (by decide) (lv' := [(8, .int (x8 + (-1))), (0, .ref (ad 0)), (1, .int x1), (2, .int x2), (3, .int x3), (4, .int x4), (5, .int x5), (6, .int (if S.1 10 x8.toNatClampNeg = 0 then x6 else (if (f_X8_isEcho S x8 (0 : Int32) x1) then (if (f_X8_isEcho S x8 (1 : Int32) x2) then (if (f_X8_isEcho S x8 (2 : Int32) x3) then (if (f_X8_isEcho S x8 (3 : Int32) x4) then x6 + 1 else x6) else x6) else x6) else x6))), (7, .int (if S.1 10 x8.toNatClampNeg = 0 then x7 else (if (f_X8_isEcho S x8 (0 : Int32) x1) then (if (f_X8_isEcho S x8 (1 : Int32) x2) then (if (f_X8_isEcho S x8 (2 : Int32) x3) then (if (f_X8_isEcho S x8 (3 : Int32) x4) then x8 else x7) else x7) else x7) else x7)))]) rfl ?_
      refine at_goto C dX8_echoesOf_80 (tgt := 10) (by decide) ?_
      refine at_lv [1, 2, 3, 4, 5, 6, 7, 8, 0] rfl ?_
      exact h
    replace h := hq
    refine at_if_eq C dX8_echoesOf_22 (tgt := 77) (by decide) (fun hc1 => ?_) (fun hc1 => ?_)
    · skip
      first | (simp only [if_pos hc1] at K; exact K) | exact K
    · replace h := h hc1
      refine at_aload_n C dX8_echoesOf_25 rfl (j := 0) rfl ?_
      refine at_iload C dX8_echoesOf_26 (j := 8) rfl ?_
      refine at_iconst C dX8_echoesOf_28 (v := 0) rfl ?_
      refine at_iload_n C dX8_echoesOf_29 rfl (j := 1) rfl ?_
      refine at_cV1 C 3 (c_X8_isEcho X.l X.D X.E X.a1 X.a2 ad S x8 (0 : Int32) x1 h.1) gX8_echoesOf_X8_isEcho rfl (by decide +kernel) ⟨rfl, rfl⟩ rfl rfl rfl 0 mW_c0 rfl dX8_echoesOf_30 ?_
      replace h := h.2
      refine at_ifB_eq C dX8_echoesOf_33 (tgt := 77) (by decide) (fun hc2 => ?_) (fun hc2 => ?_)
      · skip
        first | (simp only [if_neg hc1, if_neg (show ¬ (f_X8_isEcho S x8 (0 : Int32) x1) = true by rw [hc2]; decide)] at K; exact K) | exact K
      · replace h := h hc2
        refine at_aload_n C dX8_echoesOf_36 rfl (j := 0) rfl ?_
        refine at_iload C dX8_echoesOf_37 (j := 8) rfl ?_
        refine at_iconst C dX8_echoesOf_39 (v := 1) rfl ?_
        refine at_iload_n C dX8_echoesOf_40 rfl (j := 2) rfl ?_
        refine at_cV1 C 3 (c_X8_isEcho X.l X.D X.E X.a1 X.a2 ad S x8 (1 : Int32) x2 h.1) gX8_echoesOf_X8_isEcho rfl (by decide +kernel) ⟨rfl, rfl⟩ rfl rfl rfl 0 mW_c0 rfl dX8_echoesOf_41 ?_
        replace h := h.2
        refine at_ifB_eq C dX8_echoesOf_44 (tgt := 77) (by decide) (fun hc3 => ?_) (fun hc3 => ?_)
        · skip
          first | (simp only [if_neg hc1, if_pos hc2, if_neg (show ¬ (f_X8_isEcho S x8 (1 : Int32) x2) = true by rw [hc3]; decide)] at K; exact K) | exact K
        · replace h := h hc3
          refine at_aload_n C dX8_echoesOf_47 rfl (j := 0) rfl ?_
          refine at_iload C dX8_echoesOf_48 (j := 8) rfl ?_
          refine at_iconst C dX8_echoesOf_50 (v := 2) rfl ?_
          refine at_iload_n C dX8_echoesOf_51 rfl (j := 3) rfl ?_
          refine at_cV1 C 3 (c_X8_isEcho X.l X.D X.E X.a1 X.a2 ad S x8 (2 : Int32) x3 h.1) gX8_echoesOf_X8_isEcho rfl (by decide +kernel) ⟨rfl, rfl⟩ rfl rfl rfl 0 mW_c0 rfl dX8_echoesOf_52 ?_
          replace h := h.2
          refine at_ifB_eq C dX8_echoesOf_55 (tgt := 77) (by decide) (fun hc4 => ?_) (fun hc4 => ?_)
          · skip
            first | (simp only [if_neg hc1, if_pos hc2, if_pos hc3, if_neg (show ¬ (f_X8_isEcho S x8 (2 : Int32) x3) = true by rw [hc4]; decide)] at K; exact K) | exact K
          · replace h := h hc4
            refine at_aload_n C dX8_echoesOf_58 rfl (j := 0) rfl ?_
            refine at_iload C dX8_echoesOf_59 (j := 8) rfl ?_
            refine at_iconst C dX8_echoesOf_61 (v := 3) rfl ?_
            refine at_iload C dX8_echoesOf_62 (j := 4) rfl ?_
            refine at_cV1 C 3 (c_X8_isEcho X.l X.D X.E X.a1 X.a2 ad S x8 (3 : Int32) x4 h) gX8_echoesOf_X8_isEcho rfl (by decide +kernel) ⟨rfl, rfl⟩ rfl rfl rfl 0 mW_c0 rfl dX8_echoesOf_64 ?_
            refine at_ifB_eq C dX8_echoesOf_67 (tgt := 77) (by decide) (fun hc5 => ?_) (fun hc5 => ?_)
            · skip
              first | (simp only [if_neg hc1, if_pos hc2, if_pos hc3, if_pos hc4, if_neg (show ¬ (f_X8_isEcho S x8 (3 : Int32) x4) = true by rw [hc5]; decide)] at K; exact K) | exact K
            · skip
              refine at_iinc C dX8_echoesOf_70 (j := 6) (v := x6 + 1) rfl rfl (by decide) (lv' := [(6, .int (x6 + 1)), (0, .ref (ad 0)), (1, .int x1), (2, .int x2), (3, .int x3), (4, .int x4), (5, .int x5), (7, .int x7), (8, .int x8)]) rfl ?_
              refine at_iload C dX8_echoesOf_73 (j := 8) rfl ?_
              refine at_istore C dX8_echoesOf_75 (by decide) (lv' := [(7, .int x8), (6, .int (x6 + 1)), (0, .ref (ad 0)), (1, .int x1), (2, .int x2), (3, .int x3), (4, .int x4), (5, .int x5), (8, .int x8)]) rfl ?_
              refine at_lv [2, 3, 4, 5, 6, 7, 1, 0, 8] rfl ?_
              first | (simp only [if_neg hc1, if_pos hc2, if_pos hc3, if_pos hc4, if_pos hc5] at K; exact K) | exact K
def hitE (S : MS) (u r d l : Int32) (c : Nat) : Bool := decide (¬ S.1 10 c = 0) && (f_X8_isEcho S (nI c) 0 u && (f_X8_isEcho S (nI c) 1 r && (f_X8_isEcho S (nI c) 2 d && f_X8_isEcho S (nI c) 3 l)))
def ecStep (S : MS) (u r d l : Int32) (c : Nat) (p : Int32 × Int32) : Int32 × Int32 := if hitE S u r d l c then (p.1 + 1, nI c) else p
def ecP (S : MS) (u r d l : Int32) : Int32 × Int32 := itF (fun i p => ecStep S u r d l (63 - i) p) 0 64 (0, -1)
def f_X8_echoesOf (S : MS) (u r d l w : Int32) : Int32 := if w = 0 then (ecP S u r d l).1 else (ecP S u r d l).2
def dn (i : Nat) : Int32 := if i < 64 then nI (63 - i) else -1
theorem dn_s {i : Nat} (h : i < 64) : nI (63 - i) + (-1) = dn (i + 1) := by
  by_cases q : i = 63
  · subst q; rfl
  · rw [dn, if_pos (by omega), show 63 - i = (63 - (i + 1)) + 1 by omega, pk_m1]
set_option maxRecDepth 100000 in
theorem c_X8_echoesOf (l : Launch) (D : va_G) (E : Nat → ClassId) (a1 a2 : Nat) (ad : Nat → Nat) (S : MS) (x1 x2 x3 x4 x5 : Int32) : Fn l D E a1 a2 yX8_echoesOf wsX8_echoesOf 4 96 [.ref (ad 0), .int x1, .int x2, .int x3, .int x4, .int x5] (mW E ad S) (some (.int (f_X8_echoesOf S x1 x2 x3 x4 x5))) (mW E ad S) := by
  refine Fn.of (cc := cX8_echoesOf) (maxL := 9) (ret := (some .int)) (own := RX8) (by decide) rfl rfl (sameM _ _ _ _) (Nat.le_of_ble_eq_true rfl) (fun X h1 h2 h3 h4 h5 C hE => ?_)
  subst h1 h2 h3 h4 h5
  refine r_X8_echoesOf_0 C ad S x1 x2 x3 x4 x5 ?_
  refine for_go (P := fun i (p : Int32 × Int32) => At X 9 (mW X.E ad S) 10 [(0, .ref (ad 0)), (1, .int x1), (2, .int x2), (3, .int x3), (4, .int x4), (5, .int x5), (6, .int p.1), (7, .int p.2), (8, .int (dn i))] []) (N := 64) (fun i p => ecStep S x1 x2 x3 x4 (63 - i) p) (fun i p hi h => ?_) 64 0 (0, -1) rfl ?_
  · have pe : ∀ (way : Nat) (x : Int32), way < 4 → p_X8_isEcho S (nI (63 - i)) (nI way) x := fun way x hw => by
      unfold p_X8_isEcho
      intro _
      exact ⟨63 - i, way, by omega, hw, rfl, rfl⟩
    rw [dn, if_pos hi]
    refine r_X8_echoesOf_10 C ad S x1 x2 x3 x4 x5 p.1 p.2 (nI (63 - i)) ⟨fun q => absurd q (nI_pos (by omega)), fun _ => ⟨vp_in_nI (by omega) (by decide), ?_⟩⟩
    rw [nI_clamp (show 63 - i < 2 ^ 31 by omega), dn_s hi]
    refine ⟨fun _ => ⟨pe 0 x1 (by decide), fun _ => ⟨pe 1 x2 (by decide), fun _ => ⟨pe 2 x3 (by decide), fun _ => pe 3 x4 (by decide)⟩⟩⟩, ?_⟩
    have e1 : ∀ {α : Type} (a b : α), (if S.1 10 (63 - i) = 0 then b else (if f_X8_isEcho S (nI (63 - i)) 0 x1 = true then (if f_X8_isEcho S (nI (63 - i)) 1 x2 = true then (if f_X8_isEcho S (nI (63 - i)) 2 x3 = true then (if f_X8_isEcho S (nI (63 - i)) 3 x4 = true then a else b) else b) else b) else b)) = (if hitE S x1 x2 x3 x4 (63 - i) = true then a else b) := by
      intro α a b
      unfold hitE
      by_cases q : S.1 10 (63 - i) = 0
      · rw [if_pos q, decide_eq_false (fun z => z q)]; rfl
      · rw [if_neg q, decide_eq_true q]
        cases f_X8_isEcho S (nI (63 - i)) 0 x1 <;> cases f_X8_isEcho S (nI (63 - i)) 1 x2 <;> cases f_X8_isEcho S (nI (63 - i)) 2 x3 <;> cases f_X8_isEcho S (nI (63 - i)) 3 x4 <;> rfl
    rw [e1, e1]
    unfold ecStep at h
    cases q : hitE S x1 x2 x3 x4 (63 - i)
    · rw [q] at h; exact h
    · rw [q] at h; exact h
  · exact r_X8_echoesOf_10 C ad S x1 x2 x3 x4 x5 _ _ (-1) ⟨fun _ => hE, fun q => absurd (by decide) q⟩
theorem dX8_part_0 : decode cX8_part 0 = .ok (.lload_n 0, 1) := by decide +kernel
theorem dX8_part_1 : decode cX8_part 1 = .ok (.lstore 5, 2) := by decide +kernel
theorem dX8_part_3 : decode cX8_part 3 = .ok (.lload_n 2, 1) := by decide +kernel
theorem dX8_part_4 : decode cX8_part 4 = .ok (.lstore 7, 2) := by decide +kernel
theorem dX8_part_6 : decode cX8_part 6 = .ok (.lload 7, 2) := by decide +kernel
theorem dX8_part_8 : decode cX8_part 8 = .ok (.lconst 0, 1) := by decide +kernel
theorem dX8_part_9 : decode cX8_part 9 = .ok (.lcmp, 1) := by decide +kernel
theorem dX8_part_10 : decode cX8_part 10 = .ok (.ifCond .eq 21, 3) := by decide +kernel
theorem dX8_part_13 : decode cX8_part 13 = .ok (.lload 5, 2) := by decide +kernel
theorem dX8_part_15 : decode cX8_part 15 = .ok (.lload 7, 2) := by decide +kernel
theorem dX8_part_17 : decode cX8_part 17 = .ok (.lrem, 1) := by decide +kernel
theorem dX8_part_18 : decode cX8_part 18 = .ok (.lstore 9, 2) := by decide +kernel
theorem dX8_part_20 : decode cX8_part 20 = .ok (.lload 7, 2) := by decide +kernel
theorem dX8_part_22 : decode cX8_part 22 = .ok (.lstore 5, 2) := by decide +kernel
theorem dX8_part_24 : decode cX8_part 24 = .ok (.lload 9, 2) := by decide +kernel
theorem dX8_part_26 : decode cX8_part 26 = .ok (.lstore 7, 2) := by decide +kernel
theorem dX8_part_28 : decode cX8_part 28 = .ok (.goto (-22), 3) := by decide +kernel
theorem dX8_part_31 : decode cX8_part 31 = .ok (.iload 4, 2) := by decide +kernel
theorem dX8_part_33 : decode cX8_part 33 = .ok (.ifCond .ne 7, 3) := by decide +kernel
theorem dX8_part_36 : decode cX8_part 36 = .ok (.lload_n 0, 1) := by decide +kernel
theorem dX8_part_37 : decode cX8_part 37 = .ok (.goto 4, 3) := by decide +kernel
theorem dX8_part_40 : decode cX8_part 40 = .ok (.lload_n 2, 1) := by decide +kernel
theorem dX8_part_41 : decode cX8_part 41 = .ok (.lload 5, 2) := by decide +kernel
theorem dX8_part_43 : decode cX8_part 43 = .ok (.ldiv, 1) := by decide +kernel
theorem dX8_part_44 : decode cX8_part 44 = .ok (.lreturn, 1) := by decide +kernel
set_option maxRecDepth 100000 in
theorem r_X8_part_0 {X : Bn} (C : Cx X cX8_part 11 RX8 wsX8_part 0 0) {ws : va_W} (x0 : Int64) (x2 : Int64) (x4 : Int32) (h : At X 11 (ws) 6 [(0, .long x0), (2, .long x2), (4, .int x4), (5, .long x0), (7, .long x2)] []) : At X 11 (ws) 0 [(0, .long x0), (2, .long x2), (4, .int x4)] [] := by
  refine at_lload_n C dX8_part_0 rfl (j := 0) rfl ?_
  refine at_lstore C dX8_part_1 (by decide) (lv' := [(5, .long x0), (0, .long x0), (2, .long x2), (4, .int x4)]) rfl ?_
  refine at_lload_n C dX8_part_3 rfl (j := 2) rfl ?_
  refine at_lstore C dX8_part_4 (by decide) (lv' := [(7, .long x2), (5, .long x0), (0, .long x0), (2, .long x2), (4, .int x4)]) rfl ?_
  refine at_lv [2, 3, 4, 1, 0] rfl ?_
  exact h
set_option maxRecDepth 100000 in
theorem r_X8_part_6 {X : Bn} (C : Cx X cX8_part 11 RX8 wsX8_part 0 0) {ws : va_W} (x0 : Int64) (x2 : Int64) (x4 : Int32) (x5 : Int64) (x7 : Int64) (h : ((x7 = 0) → ((¬ x5 = 0) ∧ (Ends X (some .long) (some (.long ((if x4 = 0 then x0 else x2) / x5))) (ws)))) ∧ (¬ x7 = 0 → ((¬ x7 = 0) ∧ (At X 11 (ws) 6 [(0, .long x0), (2, .long x2), (4, .int x4), (5, .long x7), (7, .long (lrm x5 x7))] [])))) : At X 11 (ws) 6 [(0, .long x0), (2, .long x2), (4, .int x4), (5, .long x5), (7, .long x7)] [] := by
  refine at_lload C dX8_part_6 (j := 4) rfl ?_
  refine at_lconst C dX8_part_8 (v := 0) rfl ?_
  refine at_lif_eq C dX8_part_9 dX8_part_10 (tgt := 31) (by decide) (fun hc0 => ?_) (fun hc0 => ?_)
  · replace h := h.1 hc0
    refine at_iload C dX8_part_31 (j := 2) rfl ?_
    have K : At X 11 (ws) 41 [(5, .long x5)] [.long (if x4 = 0 then x0 else x2)] := by
      refine at_lload C dX8_part_41 (j := 0) rfl ?_
      refine at_ldiv C dX8_part_43 h.1 ?_
      replace h := h.2
      exact at_lret C dX8_part_44 h
    refine at_if_ne C dX8_part_33 (tgt := 40) (by decide) (fun hc1 => ?_) (fun hc1 => ?_)
    · skip
      refine at_lload_n C dX8_part_40 rfl (j := 1) rfl ?_
      refine at_lv [3] rfl ?_
      first | (simp only [if_neg hc1] at K; exact K) | exact K
    · skip
      refine at_lload_n C dX8_part_36 rfl (j := 0) rfl ?_
      refine at_goto C dX8_part_37 (tgt := 41) (by decide) ?_
      refine at_lv [3] rfl ?_
      first | (simp only [if_pos hc1] at K; exact K) | exact K
  · replace h := h.2 hc0
    refine at_lload C dX8_part_13 (j := 3) rfl ?_
    refine at_lload C dX8_part_15 (j := 4) rfl ?_
    refine at_lrem C dX8_part_17 h.1 ?_
    replace h := h.2
    refine at_lstore C dX8_part_18 (by decide) (lv' := [(9, .long (lrm x5 x7)), (0, .long x0), (2, .long x2), (4, .int x4), (5, .long x5), (7, .long x7)]) rfl ?_
    refine at_lload C dX8_part_20 (j := 5) rfl ?_
    refine at_lstore C dX8_part_22 (by decide) (lv' := [(5, .long x7), (9, .long (lrm x5 x7)), (0, .long x0), (2, .long x2), (4, .int x4), (7, .long x7)]) rfl ?_
    refine at_lload C dX8_part_24 (j := 1) rfl ?_
    refine at_lstore C dX8_part_26 (by decide) (lv' := [(7, .long (lrm x5 x7)), (5, .long x7), (9, .long (lrm x5 x7)), (0, .long x0), (2, .long x2), (4, .int x4)]) rfl ?_
    refine at_goto C dX8_part_28 (tgt := 6) (by decide) ?_
    refine at_lv [3, 4, 5, 1, 0] rfl ?_
    exact h
def uL (x : Int64) : Nat := x.toBitVec.toNat
theorem uL_lN {n : Nat} (h : n < 2 ^ 64) : uL (lN n) = n := by
  show (BitVec.ofNat 64 n).toNat = n
  rw [BitVec.toNat_ofNat]; exact Nat.mod_eq_of_lt h
def f_X8_part (x0 x2 : Int64) (x4 : Int32) : Int64 := (if x4 = 0 then x0 else x2) / lN (Nat.gcd (uL x0) (uL x2))
def p_X8_part (x0 x2 : Int64) : Prop := ∃ m n, 0 < n ∧ m < 2 ^ 62 ∧ n < 2 ^ 62 ∧ x0 = lN m ∧ x2 = lN n
theorem lrm_lN {a b : Nat} (ha : a < 2 ^ 63) (h0 : 0 < b) (hb : b < 2 ^ 63) : lrm (lN a) (lN b) = lN (a % b) := pk_lRem ha h0 hb
theorem lN_0 {a : Nat} (ha : a < 2 ^ 63) : lN a = 0 ↔ a = 0 := pk_lEQ (b := 0) ha (by decide)
set_option maxRecDepth 100000 in
theorem c_X8_part (l : Launch) (D : va_G) (E : Nat → ClassId) (a1 a2 : Nat)  (x0 x2 : Int64) (x4 : Int32) (hp : p_X8_part x0 x2) : Fn l D E a1 a2 yX8_part wsX8_part 0 0 [.long x0, .long x2, .int x4] [] (some (.long (f_X8_part x0 x2 x4))) [] := by
  refine Fn.of (cc := cX8_part) (maxL := 11) (ret := (some .long)) (own := RX8) (by decide) rfl rfl rfl (Nat.le_of_ble_eq_true rfl) (fun X h1 h2 h3 h4 h5 C hE => ?_)
  subst h1 h2 h3 h4 h5
  obtain ⟨m, n, h0, hm, hn, rfl, rfl⟩ := hp
  rw [f_X8_part, uL_lN (by omega), uL_lN (by omega)] at hE
  refine r_X8_part_0 C (lN m) (lN n) x4 ?_
  have key : ∀ (k a b : Nat), b < k → a < 2 ^ 62 → b < 2 ^ 62 → (0 < a ∨ 0 < b) → Nat.gcd a b = Nat.gcd m n → At X 11 [] 6 [(0, .long (lN m)), (2, .long (lN n)), (4, .int x4), (5, .long (lN a)), (7, .long (lN b))] [] := by
    intro k
    induction k with
    | zero => intro a b h; exact absurd h (Nat.not_lt_zero _)
    | succ k ih =>
      intro a b hk ha hb hab e
      refine r_X8_part_6 C (lN m) (lN n) x4 (lN a) (lN b) ⟨fun q => ?_, fun q => ?_⟩
      · have hb0 : b = 0 := (lN_0 (by omega)).mp q
        rw [hb0, Nat.gcd_zero_right] at e
        refine ⟨fun z => ?_, ?_⟩
        · have := (lN_0 (by omega)).mp z
          omega
        · rw [e]; exact hE
      · have hb0 : ¬ b = 0 := fun z => q ((lN_0 (by omega)).mpr z)
        have hlt : a % b < b := Nat.mod_lt _ (by omega)
        refine ⟨q, ?_⟩
        rw [lrm_lN (by omega) (by omega) (by omega)]
        refine ih b (a % b) (by omega) hb (by omega) (Or.inl (by omega)) ?_
        rw [← e, Nat.gcd_comm b, ← Nat.gcd_rec, Nat.gcd_comm]
  exact key (n + 1) m n (by omega) hm hn (Or.inr h0) rfl
set_option maxRecDepth 20000 in
theorem ggX8_fogOf_X8_stepsTo : GoodIn wsX8_fogOf wsX8_stepsTo := goodIn_r _ [6, 7, 8, 9, 5, 10, 11, 12, 13, 14, 15, 19, 20, 21, 22, 23, 24, 25, 26, 27, 28, 29, 30, 31, 32, 33, 34, 35, 36] (by decide +kernel) (by decide +kernel)
set_option maxRecDepth 20000 in
theorem gX8_fogOf_X8_stepsTo : GoodIn wsX8_fogOf (wsV RX8 253 RX8 yX8_stepsTo wsX8_stepsTo) := goodIn_app (goodIn_of _ (by decide +kernel)) ggX8_fogOf_X8_stepsTo
set_option maxRecDepth 20000 in
theorem ggX8_fogOf_X8_part : GoodIn wsX8_fogOf wsX8_part := goodIn_r _ [18] (by decide +kernel) (by decide +kernel)
set_option maxRecDepth 20000 in
theorem gX8_fogOf_X8_part : GoodIn wsX8_fogOf (va_wsS RX8 272 yX8_part wsX8_part) := goodIn_app (goodIn_of _ (by decide +kernel)) ggX8_fogOf_X8_part
theorem dX8_fogOf_0 : decode cX8_fogOf 0 = .ok (.aload_n 0, 1) := by decide +kernel
theorem dX8_fogOf_1 : decode cX8_fogOf 1 = .ok (.iload_n 1, 1) := by decide +kernel
theorem dX8_fogOf_2 : decode cX8_fogOf 2 = .ok (.iload_n 2, 1) := by decide +kernel
theorem dX8_fogOf_3 : decode cX8_fogOf 3 = .ok (.invokevirtual 253, 3) := by decide +kernel
theorem dX8_fogOf_6 : decode cX8_fogOf 6 = .ok (.istore 5, 2) := by decide +kernel
theorem dX8_fogOf_8 : decode cX8_fogOf 8 = .ok (.iload 5, 2) := by decide +kernel
theorem dX8_fogOf_10 : decode cX8_fogOf 10 = .ok (.iconst (-1), 1) := by decide +kernel
theorem dX8_fogOf_11 : decode cX8_fogOf 11 = .ok (.if_icmp .ne 7, 3) := by decide +kernel
theorem dX8_fogOf_14 : decode cX8_fogOf 14 = .ok (.lconst 0, 1) := by decide +kernel
theorem dX8_fogOf_15 : decode cX8_fogOf 15 = .ok (.goto 4, 3) := by decide +kernel
theorem dX8_fogOf_18 : decode cX8_fogOf 18 = .ok (.lconst 1, 1) := by decide +kernel
theorem dX8_fogOf_19 : decode cX8_fogOf 19 = .ok (.lstore 6, 2) := by decide +kernel
theorem dX8_fogOf_21 : decode cX8_fogOf 21 = .ok (.lconst 1, 1) := by decide +kernel
theorem dX8_fogOf_22 : decode cX8_fogOf 22 = .ok (.lstore 8, 2) := by decide +kernel
theorem dX8_fogOf_24 : decode cX8_fogOf 24 = .ok (.iconst 0, 1) := by decide +kernel
theorem dX8_fogOf_25 : decode cX8_fogOf 25 = .ok (.istore 10, 2) := by decide +kernel
theorem dX8_fogOf_27 : decode cX8_fogOf 27 = .ok (.iload 10, 2) := by decide +kernel
theorem dX8_fogOf_29 : decode cX8_fogOf 29 = .ok (.iload 5, 2) := by decide +kernel
theorem dX8_fogOf_31 : decode cX8_fogOf 31 = .ok (.if_icmp .ge 27, 3) := by decide +kernel
theorem dX8_fogOf_34 : decode cX8_fogOf 34 = .ok (.lload 6, 2) := by decide +kernel
theorem dX8_fogOf_36 : decode cX8_fogOf 36 = .ok (.bipush 16, 2) := by decide +kernel
theorem dX8_fogOf_38 : decode cX8_fogOf 38 = .ok (.iload_n 3, 1) := by decide +kernel
theorem dX8_fogOf_39 : decode cX8_fogOf 39 = .ok (.isub, 1) := by decide +kernel
theorem dX8_fogOf_40 : decode cX8_fogOf 40 = .ok (.i2l, 1) := by decide +kernel
theorem dX8_fogOf_41 : decode cX8_fogOf 41 = .ok (.lmul, 1) := by decide +kernel
theorem dX8_fogOf_42 : decode cX8_fogOf 42 = .ok (.lstore 6, 2) := by decide +kernel
theorem dX8_fogOf_44 : decode cX8_fogOf 44 = .ok (.lload 8, 2) := by decide +kernel
theorem dX8_fogOf_46 : decode cX8_fogOf 46 = .ok (.ldc2_w 270, 3) := by decide +kernel
theorem dX8_fogOf_49 : decode cX8_fogOf 49 = .ok (.lmul, 1) := by decide +kernel
theorem dX8_fogOf_50 : decode cX8_fogOf 50 = .ok (.lstore 8, 2) := by decide +kernel
theorem dX8_fogOf_52 : decode cX8_fogOf 52 = .ok (.iinc 10 1, 3) := by decide +kernel
theorem dX8_fogOf_55 : decode cX8_fogOf 55 = .ok (.goto (-28), 3) := by decide +kernel
theorem dX8_fogOf_58 : decode cX8_fogOf 58 = .ok (.lload 6, 2) := by decide +kernel
theorem dX8_fogOf_60 : decode cX8_fogOf 60 = .ok (.lload 8, 2) := by decide +kernel
theorem dX8_fogOf_62 : decode cX8_fogOf 62 = .ok (.iload 4, 2) := by decide +kernel
theorem dX8_fogOf_64 : decode cX8_fogOf 64 = .ok (.invokestatic 272, 3) := by decide +kernel
theorem dX8_fogOf_67 : decode cX8_fogOf 67 = .ok (.lreturn, 1) := by decide +kernel
theorem lk_X8_fogOf_0 : Cond.constantLong RX8 270 16 ∈ wsX8_fogOf := by decide +kernel
set_option maxRecDepth 100000 in
theorem r_X8_fogOf_0 {X : Bn} (C : Cx X cX8_fogOf 11 RX8 wsX8_fogOf 3 75) (ad : Nat → Nat) (S : MS) (x1 : Int32) (x2 : Int32) (x3 : Int32) (x4 : Int32) (h : (p_X8_stepsTo x1 x2) ∧ (At X 11 (mW X.E ad S) 27 [(3, .int x3), (4, .int x4), (5, .int (f_X8_stepsTo S x1 x2)), (6, .long (if f_X8_stepsTo S x1 x2 = (-1) then 0 else 1)), (8, .long 1), (10, .int 0)] [])) : At X 11 (mW X.E ad S) 0 [(0, .ref (ad 0)), (1, .int x1), (2, .int x2), (3, .int x3), (4, .int x4)] [] := by
  refine at_aload_n C dX8_fogOf_0 rfl (j := 0) rfl ?_
  refine at_iload_n C dX8_fogOf_1 rfl (j := 1) rfl ?_
  refine at_iload_n C dX8_fogOf_2 rfl (j := 2) rfl ?_
  refine at_cV1 C 2 (c_X8_stepsTo X.l X.D X.E X.a1 X.a2 ad S x1 x2 h.1) gX8_fogOf_X8_stepsTo rfl (by decide +kernel) ⟨rfl, rfl⟩ rfl rfl rfl 0 mW_c0 rfl dX8_fogOf_3 ?_
  replace h := h.2
  refine at_istore C dX8_fogOf_6 (by decide) (lv' := [(5, .int (f_X8_stepsTo S x1 x2)), (0, .ref (ad 0)), (1, .int x1), (2, .int x2), (3, .int x3), (4, .int x4)]) rfl ?_
  refine at_iload C dX8_fogOf_8 (j := 0) rfl ?_
  refine at_iconst C dX8_fogOf_10 (v := (-1)) rfl ?_
  have K : At X 11 (mW X.E ad S) 19 [(3, .int x3), (4, .int x4), (5, .int (f_X8_stepsTo S x1 x2))] [.long (if f_X8_stepsTo S x1 x2 = (-1) then 0 else 1)] := by
    refine at_lstore C dX8_fogOf_19 (by decide) (lv' := [(6, .long (if f_X8_stepsTo S x1 x2 = (-1) then 0 else 1)), (3, .int x3), (4, .int x4), (5, .int (f_X8_stepsTo S x1 x2))]) rfl ?_
    refine at_lconst C dX8_fogOf_21 (v := 1) rfl ?_
    refine at_lstore C dX8_fogOf_22 (by decide) (lv' := [(8, .long 1), (6, .long (if f_X8_stepsTo S x1 x2 = (-1) then 0 else 1)), (3, .int x3), (4, .int x4), (5, .int (f_X8_stepsTo S x1 x2))]) rfl ?_
    refine at_iconst C dX8_fogOf_24 (v := 0) rfl ?_
    refine at_istore C dX8_fogOf_25 (by decide) (lv' := [(10, .int 0), (8, .long 1), (6, .long (if f_X8_stepsTo S x1 x2 = (-1) then 0 else 1)), (3, .int x3), (4, .int x4), (5, .int (f_X8_stepsTo S x1 x2))]) rfl ?_
    refine at_lv [3, 4, 5, 2, 1, 0] rfl ?_
    exact h
  refine at_icmp_ne C dX8_fogOf_11 (tgt := 18) (by decide) (fun hc0 => ?_) (fun hc0 => ?_)
  · skip
    refine at_lconst C dX8_fogOf_18 (v := 1) rfl ?_
    refine at_lv [4, 5, 0] rfl ?_
    first | (simp only [if_neg hc0] at K; exact K) | exact K
  · skip
    refine at_lconst C dX8_fogOf_14 (v := 0) rfl ?_
    refine at_goto C dX8_fogOf_15 (tgt := 19) (by decide) ?_
    refine at_lv [4, 5, 0] rfl ?_
    first | (simp only [if_pos hc0] at K; exact K) | exact K
set_option maxRecDepth 100000 in
theorem r_X8_fogOf_27 {X : Bn} (C : Cx X cX8_fogOf 11 RX8 wsX8_fogOf 3 75) (ad : Nat → Nat) (S : MS) (x3 : Int32) (x4 : Int32) (x5 : Int32) (x6 : Int64) (x8 : Int64) (x10 : Int32) (h : ((x5 ≤ x10) → ((p_X8_part x6 x8) ∧ (Ends X (some .long) (some (.long (f_X8_part x6 x8 x4))) (mW X.E ad S)))) ∧ (¬ x5 ≤ x10 → (At X 11 (mW X.E ad S) 27 [(3, .int x3), (4, .int x4), (5, .int x5), (6, .long (x6 * ((16 - x3).toInt64))), (8, .long (x8 * 16)), (10, .int (x10 + 1))] []))) : At X 11 (mW X.E ad S) 27 [(3, .int x3), (4, .int x4), (5, .int x5), (6, .long x6), (8, .long x8), (10, .int x10)] [] := by
  refine at_iload C dX8_fogOf_27 (j := 5) rfl ?_
  refine at_iload C dX8_fogOf_29 (j := 2) rfl ?_
  refine at_icmp_ge C dX8_fogOf_31 (tgt := 58) (by decide) (fun hc0 => ?_) (fun hc0 => ?_)
  · replace h := h.1 hc0
    refine at_lload C dX8_fogOf_58 (j := 3) rfl ?_
    refine at_lload C dX8_fogOf_60 (j := 4) rfl ?_
    refine at_iload C dX8_fogOf_62 (j := 1) rfl ?_
    refine at_cS0 C 3 (c_X8_part X.l X.D X.E X.a1 X.a2 x6 x8 x4 h.1) gX8_fogOf_X8_part rfl (by decide +kernel) ⟨rfl, rfl⟩ rfl rfl rfl dX8_fogOf_64 ?_
    replace h := h.2
    exact at_lret C dX8_fogOf_67 h
  · replace h := h.2 hc0
    refine at_lload C dX8_fogOf_34 (j := 3) rfl ?_
    refine at_bipush C dX8_fogOf_36 (v := 16) rfl ?_
    refine at_iload_n C dX8_fogOf_38 rfl (j := 0) rfl ?_
    refine at_isub C dX8_fogOf_39 ?_
    refine at_i2l C dX8_fogOf_40 ?_
    refine at_lmul C dX8_fogOf_41 ?_
    refine at_lstore C dX8_fogOf_42 (by decide) (lv' := [(6, .long (x6 * ((16 - x3).toInt64))), (3, .int x3), (4, .int x4), (5, .int x5), (8, .long x8), (10, .int x10)]) rfl ?_
    refine at_lload C dX8_fogOf_44 (j := 4) rfl ?_
    refine at_ldc2 C lk_X8_fogOf_0 dX8_fogOf_46 ?_
    refine at_lmul C dX8_fogOf_49 ?_
    refine at_lstore C dX8_fogOf_50 (by decide) (lv' := [(8, .long (x8 * 16)), (6, .long (x6 * ((16 - x3).toInt64))), (3, .int x3), (4, .int x4), (5, .int x5), (10, .int x10)]) rfl ?_
    refine at_iinc C dX8_fogOf_52 (j := 5) (v := x10 + 1) rfl rfl (by decide) (lv' := [(10, .int (x10 + 1)), (8, .long (x8 * 16)), (6, .long (x6 * ((16 - x3).toInt64))), (3, .int x3), (4, .int x4), (5, .int x5)]) rfl ?_
    refine at_goto C dX8_fogOf_55 (tgt := 27) (by decide) ?_
    refine at_lv [3, 4, 5, 2, 1, 0] rfl ?_
    exact h
def fogA (st x3 : Int32) : Int64 := itF (fun _ a => a * (16 - x3).toInt64) 0 st.toNatClampNeg (if st = -1 then 0 else 1)
def fogB (st : Int32) : Int64 := itF (fun _ b => b * 16) 0 st.toNatClampNeg 1
def f_X8_fogOf (S : MS) (x1 x2 x3 x4 : Int32) : Int64 := f_X8_part (fogA (f_X8_stepsTo S x1 x2) x3) (fogB (f_X8_stepsTo S x1 x2)) x4
def p_X8_fogOf (x1 x2 x3 : Int32) : Prop := p_X8_stepsTo x1 x2 ∧ ∃ z, z ≤ 16 ∧ x3 = nI z
theorem stF_cases (fr : Nat → Bool) (way d : Nat) (Q : Int32 → Prop) : ∀ (k : Nat) (o : Option Nat) (n : Nat) (b : Int32), Q b → (∀ m, n ≤ m → m < n + k → Q (nI m)) → Q (stF fr way d k o n b)
  | 0, _, _, _, h, _ => h
  | _ + 1, none, _, _, h, _ => h
  | k + 1, some c, n, b, h, hm => by
    refine stF_cases fr way d Q k _ (n + 1) _ ?_ (fun m h1 h2 => hm m (by omega) (by omega))
    split
    · exact hm n (Nat.le_refl _) (by omega)
    · exact h
theorem stepsN_cases (fr : Nat → Bool) (c d : Nat) : stepsN fr c d = -1 ∨ ∃ s, s ≤ 8 ∧ stepsN fr c d = nI s := by
  refine itF_inv (N := 4) (fun _ b => b = -1 ∨ ∃ s, s ≤ 8 ∧ b = nI s) _ (fun way b _ hb => stF_cases fr way d (fun b => b = -1 ∨ ∃ s, s ≤ 8 ∧ b = nI s) 9 _ 0 b hb (fun m _ h2 => Or.inr ⟨m, by omega, rfl⟩)) 4 0 _ rfl ?_
  split
  · exact Or.inr ⟨0, by decide, rfl⟩
  · exact Or.inl rfl
theorem itF_lN (b : Nat) : ∀ (k i a : Nat), itF (fun _ (x : Int64) => x * lN b) i k (lN a) = lN (a * b ^ k)
  | 0, i, a => by rw [Nat.pow_zero, Nat.mul_one]; rfl
  | k + 1, i, a => by
    show itF (fun _ (x : Int64) => x * lN b) (i + 1) k (lN a * lN b) = _
    rw [lN_mul, itF_lN b k (i + 1) (a * b), Nat.mul_assoc, Nat.pow_succ, Nat.mul_comm b]
theorem sub16 {z : Nat} (hz : z ≤ 16) : (16 - nI z).toInt64 = lN (16 - z) := by
  rw [show (16 : Int32) = nI 16 from rfl, pk_sub hz, nI_l (by omega)]
theorem fog_nums {st : Int32} {z : Nat} (hz : z ≤ 16) (hst : st = -1 ∨ ∃ s, s ≤ 8 ∧ st = nI s) : (st = -1 ∧ fogA st (nI z) = lN 0 ∧ fogB st = lN 1) ∨ ∃ s, s ≤ 8 ∧ st = nI s ∧ fogA st (nI z) = lN ((16 - z) ^ s) ∧ fogB st = lN (16 ^ s) := by
  rcases hst with rfl | ⟨s, hs, rfl⟩
  · exact Or.inl ⟨rfl, rfl, rfl⟩
  · refine Or.inr ⟨s, hs, rfl, ?_, ?_⟩
    · rw [fogA, nI_clamp (by omega), if_neg (nm1 (by omega)), sub16 hz]
      have := itF_lN (16 - z) s 0 1
      rw [Nat.one_mul] at this
      exact this
    · rw [fogB, nI_clamp (by omega)]
      have := itF_lN 16 s 0 1
      rw [Nat.one_mul] at this
      exact this
theorem pow8 {b s : Nat} (hb : b ≤ 16) (hs : s ≤ 8) : b ^ s < 2 ^ 62 := by
  have h1 : b ^ s ≤ 16 ^ s := Nat.pow_le_pow_left hb s
  have h2 : 16 ^ s ≤ 16 ^ 8 := Nat.pow_le_pow_right (by decide) hs
  have h3 : (16 : Nat) ^ 8 < 2 ^ 62 := by decide
  omega
theorem fog_p {st : Int32} {z : Nat} (hz : z ≤ 16) (hst : st = -1 ∨ ∃ s, s ≤ 8 ∧ st = nI s) : p_X8_part (fogA st (nI z)) (fogB st) := by
  rcases fog_nums hz hst with ⟨_, h1, h2⟩ | ⟨s, hs, _, h1, h2⟩
  · exact ⟨0, 1, by decide, by decide, by decide, h1, h2⟩
  · exact ⟨_, _, Nat.pow_pos (by decide), pow8 (by omega) hs, pow8 (Nat.le_refl _) hs, h1, h2⟩
set_option maxRecDepth 100000 in
theorem c_X8_fogOf (l : Launch) (D : va_G) (E : Nat → ClassId) (a1 a2 : Nat) (ad : Nat → Nat) (S : MS) (x1 x2 x3 x4 : Int32) (hp : p_X8_fogOf x1 x2 x3) : Fn l D E a1 a2 yX8_fogOf wsX8_fogOf 3 75 [.ref (ad 0), .int x1, .int x2, .int x3, .int x4] (mW E ad S) (some (.long (f_X8_fogOf S x1 x2 x3 x4))) (mW E ad S) := by
  refine Fn.of (cc := cX8_fogOf) (maxL := 11) (ret := (some .long)) (own := RX8) (by decide) rfl rfl (sameM _ _ _ _) (Nat.le_of_ble_eq_true rfl) (fun X h1 h2 h3 h4 h5 C hE => ?_)
  subst h1 h2 h3 h4 h5
  obtain ⟨h1, z, hz, rfl⟩ := hp
  refine r_X8_fogOf_0 C ad S x1 x2 (nI z) x4 ⟨h1, ?_⟩
  have hst : f_X8_stepsTo S x1 x2 = -1 ∨ ∃ s, s ≤ 8 ∧ f_X8_stepsTo S x1 x2 = nI s := stepsN_cases _ _ _
  rw [f_X8_fogOf] at hE
  generalize f_X8_stepsTo S x1 x2 = st at hE hst ⊢
  have hpp := fog_p hz hst
  have go : ∀ N : Nat, N ≤ 8 → st.toNatClampNeg = N → (∀ i, i < N → ¬ st ≤ nI i) → st ≤ nI N → At X 11 (mW X.E ad S) 27 [(3, .int (nI z)), (4, .int x4), (5, .int st), (6, .long (if st = -1 then 0 else 1)), (8, .long 1), (10, .int 0)] [] := by
    intro N hN e hlt hle
    refine for_go (P := fun i (p : Int64 × Int64) => At X 11 (mW X.E ad S) 27 [(3, .int (nI z)), (4, .int x4), (5, .int st), (6, .long p.1), (8, .long p.2), (10, .int (nI i))] []) (N := N) (fun _ p => (p.1 * (16 - nI z).toInt64, p.2 * 16)) (fun i p hi h => ?_) N 0 (if st = -1 then 0 else 1, 1) (Nat.zero_add N) ?_
    · exact r_X8_fogOf_27 C ad S (nI z) x4 st p.1 p.2 (nI i) ⟨fun q => absurd q (hlt i hi), fun _ => by rw [nI_1]; exact h⟩
    · refine r_X8_fogOf_27 C ad S (nI z) x4 st _ _ (nI N) ⟨fun _ => ?_, fun q => absurd hle q⟩
      have ep : ∀ (k i : Nat) (a b : Int64), itF (fun _ (p : Int64 × Int64) => (p.1 * (16 - nI z).toInt64, p.2 * 16)) i k (a, b) = (itF (fun _ a => a * (16 - nI z).toInt64) i k a, itF (fun _ b => b * 16) i k b) := by
        intro k
        induction k with
        | zero => intro i a b; rfl
        | succ k ih => intro i a b; exact ih (i + 1) _ _
      rw [ep]
      have ea : itF (fun _ a => a * (16 - nI z).toInt64) 0 N (if st = -1 then 0 else 1) = fogA st (nI z) := by rw [fogA, e]
      have eb : itF (fun _ (b : Int64) => b * 16) 0 N 1 = fogB st := by rw [fogB, e]
      show p_X8_part (itF _ 0 N _) (itF _ 0 N _) ∧ _
      rw [ea, eb]
      exact ⟨hpp, hE⟩
  rcases hst with rfl | ⟨s, hs, rfl⟩
  · exact go 0 (by decide) rfl (fun i hi => absurd hi (Nat.not_lt_zero i)) (by decide)
  · exact go s hs (nI_clamp (by omega)) (fun i hi => nI_ge hi (by omega)) (Int32.le_refl _)
