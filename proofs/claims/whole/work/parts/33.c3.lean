set_option maxRecDepth 20000 in
theorem ggX3_thoseOneWith_X3_rowsOf : GoodIn wsX3_thoseOneWith wsX3_rowsOf := goodIn_r _ [6, 7, 24, 25, 26, 27] (by decide +kernel) (by decide +kernel)
set_option maxRecDepth 20000 in
theorem gX3_thoseOneWith_X3_rowsOf : GoodIn wsX3_thoseOneWith (wsV RX3 45 RX3 yX3_rowsOf wsX3_rowsOf) := goodIn_app (goodIn_of _ (by decide +kernel)) ggX3_thoseOneWith_X3_rowsOf
set_option maxRecDepth 20000 in
theorem ggX3_thoseOneWith_X2_areOne : GoodIn wsX3_thoseOneWith wsX2_areOne := goodIn_r _ [11, 12, 13, 10, 14, 15, 16, 17, 18, 19, 20, 21, 22, 23] (by decide +kernel) (by decide +kernel)
set_option maxRecDepth 20000 in
theorem gX3_thoseOneWith_X2_areOne : GoodIn wsX3_thoseOneWith (va_wsS RX3 49 yX2_areOne wsX2_areOne) := goodIn_app (goodIn_of _ (by decide +kernel)) ggX3_thoseOneWith_X2_areOne
theorem dX3_thoseOneWith_0 : decode cX3_thoseOneWith 0 = .ok (.iconst 0, 1) := by decide +kernel
theorem dX3_thoseOneWith_1 : decode cX3_thoseOneWith 1 = .ok (.istore_n 2, 1) := by decide +kernel
theorem dX3_thoseOneWith_2 : decode cX3_thoseOneWith 2 = .ok (.iconst 0, 1) := by decide +kernel
theorem dX3_thoseOneWith_3 : decode cX3_thoseOneWith 3 = .ok (.istore_n 3, 1) := by decide +kernel
theorem dX3_thoseOneWith_4 : decode cX3_thoseOneWith 4 = .ok (.iload_n 3, 1) := by decide +kernel
theorem dX3_thoseOneWith_5 : decode cX3_thoseOneWith 5 = .ok (.aload_n 0, 1) := by decide +kernel
theorem dX3_thoseOneWith_6 : decode cX3_thoseOneWith 6 = .ok (.getfield 31, 3) := by decide +kernel
theorem dX3_thoseOneWith_9 : decode cX3_thoseOneWith 9 = .ok (.if_icmp .ge 28, 3) := by decide +kernel
theorem dX3_thoseOneWith_12 : decode cX3_thoseOneWith 12 = .ok (.iload_n 1, 1) := by decide +kernel
theorem dX3_thoseOneWith_13 : decode cX3_thoseOneWith 13 = .ok (.aload_n 0, 1) := by decide +kernel
theorem dX3_thoseOneWith_14 : decode cX3_thoseOneWith 14 = .ok (.iload_n 3, 1) := by decide +kernel
theorem dX3_thoseOneWith_15 : decode cX3_thoseOneWith 15 = .ok (.iconst 0, 1) := by decide +kernel
theorem dX3_thoseOneWith_16 : decode cX3_thoseOneWith 16 = .ok (.invokevirtual 45, 3) := by decide +kernel
theorem dX3_thoseOneWith_19 : decode cX3_thoseOneWith 19 = .ok (.invokestatic 49, 3) := by decide +kernel
theorem dX3_thoseOneWith_22 : decode cX3_thoseOneWith 22 = .ok (.ifCond .eq 9, 3) := by decide +kernel
theorem dX3_thoseOneWith_25 : decode cX3_thoseOneWith 25 = .ok (.iload_n 2, 1) := by decide +kernel
theorem dX3_thoseOneWith_26 : decode cX3_thoseOneWith 26 = .ok (.iconst 1, 1) := by decide +kernel
theorem dX3_thoseOneWith_27 : decode cX3_thoseOneWith 27 = .ok (.iload_n 3, 1) := by decide +kernel
theorem dX3_thoseOneWith_28 : decode cX3_thoseOneWith 28 = .ok (.ishl, 1) := by decide +kernel
theorem dX3_thoseOneWith_29 : decode cX3_thoseOneWith 29 = .ok (.ior, 1) := by decide +kernel
theorem dX3_thoseOneWith_30 : decode cX3_thoseOneWith 30 = .ok (.istore_n 2, 1) := by decide +kernel
theorem dX3_thoseOneWith_31 : decode cX3_thoseOneWith 31 = .ok (.iinc 3 1, 3) := by decide +kernel
theorem dX3_thoseOneWith_34 : decode cX3_thoseOneWith 34 = .ok (.goto (-30), 3) := by decide +kernel
theorem dX3_thoseOneWith_37 : decode cX3_thoseOneWith 37 = .ok (.iload_n 2, 1) := by decide +kernel
theorem dX3_thoseOneWith_38 : decode cX3_thoseOneWith 38 = .ok (.ireturn, 1) := by decide +kernel
theorem iw_X3_thoseOneWith_X3 : ∀ w ∈ u_ws RX3 TX3 4, w ∈ wsX3_thoseOneWith := by decide +kernel
theorem lk_X3_thoseOneWith_0 : Cond.fieldLink RX3 31 (TX3 2).1 (TX3 2).2.1 (TX3 2).2.2.1 ∈ wsX3_thoseOneWith := by decide +kernel
set_option maxRecDepth 100000 in
theorem r_X3_thoseOneWith_0 {X : Bn} (C : Cx X cX3_thoseOneWith 4 RX3 wsX3_thoseOneWith 3 68) (ad : Nat → Nat) (S : MS) (x1 : Int32) (h : At X 4 (cW X.E ad S) 4 [(0, .ref (ad 5)), (1, .int x1), (2, .int 0), (3, .int 0)] []) : At X 4 (cW X.E ad S) 0 [(0, .ref (ad 5)), (1, .int x1)] [] := by
  refine at_iconst C dX3_thoseOneWith_0 (v := 0) rfl ?_
  refine at_istore_n C dX3_thoseOneWith_1 rfl (by decide) (lv' := [(2, .int 0), (0, .ref (ad 5)), (1, .int x1)]) rfl ?_
  refine at_iconst C dX3_thoseOneWith_2 (v := 0) rfl ?_
  refine at_istore_n C dX3_thoseOneWith_3 rfl (by decide) (lv' := [(3, .int 0), (2, .int 0), (0, .ref (ad 5)), (1, .int x1)]) rfl ?_
  refine at_lv [2, 3, 1, 0] rfl ?_
  exact h
set_option maxRecDepth 100000 in
theorem r_X3_thoseOneWith_4 {X : Bn} (C : Cx X cX3_thoseOneWith 4 RX3 wsX3_thoseOneWith 3 68) (ad : Nat → Nat) (S : MS) (x1 : Int32) (x2 : Int32) (x3 : Int32) (h : ((S.1 6 0 ≤ x3) → (Ends X (some .int) (some (.int x2)) (cW X.E ad S))) ∧ (¬ S.1 6 0 ≤ x3 → (At X 4 (cW X.E ad S) 4 [(0, .ref (ad 5)), (1, .int x1), (2, .int (if (f_X2_areOne x1 (f_X3_rowsOf S x3 (0 : Int32))) then x2 ||| (ishl 1 x3) else x2)), (3, .int (x3 + 1))] []))) : At X 4 (cW X.E ad S) 4 [(0, .ref (ad 5)), (1, .int x1), (2, .int x2), (3, .int x3)] [] := by
  refine at_iload_n C dX3_thoseOneWith_4 rfl (j := 3) rfl ?_
  refine at_aload_n C dX3_thoseOneWith_5 rfl (j := 0) rfl ?_
  refine at_get C (K := RX3) (T := TX3) (N := 4) (ci := 2) (v := .int (S.1 6 0)) iw_X3_thoseOneWith_X3 5 cW_c5 rfl 2 (by decide) lk_X3_thoseOneWith_0 rfl dX3_thoseOneWith_6 ?_
  refine at_icmp_ge C dX3_thoseOneWith_9 (tgt := 37) (by decide) (fun hc0 => ?_) (fun hc0 => ?_)
  · replace h := h.1 hc0
    refine at_iload_n C dX3_thoseOneWith_37 rfl (j := 2) rfl ?_
    exact at_iret C dX3_thoseOneWith_38 h
  · replace h := h.2 hc0
    refine at_iload_n C dX3_thoseOneWith_12 rfl (j := 1) rfl ?_
    refine at_aload_n C dX3_thoseOneWith_13 rfl (j := 0) rfl ?_
    refine at_iload_n C dX3_thoseOneWith_14 rfl (j := 3) rfl ?_
    refine at_iconst C dX3_thoseOneWith_15 (v := 0) rfl ?_
    refine at_cV1 C 2 (e_X3_rowsOf X.l X.D X.E X.a1 X.a2 ad S x3 (0 : Int32)) gX3_thoseOneWith_X3_rowsOf rfl (by decide +kernel) ⟨rfl, rfl⟩ rfl rfl rfl 5 cW_c5 rfl dX3_thoseOneWith_16 ?_
    refine at_cS0 C 2 (c_X2_areOne X.l X.D X.E X.a1 X.a2 x1 (f_X3_rowsOf S x3 (0 : Int32))) gX3_thoseOneWith_X2_areOne rfl (by decide +kernel) ⟨rfl, rfl⟩ rfl rfl rfl dX3_thoseOneWith_19 ?_
    have K : At X 4 (cW X.E ad S) 31 [(0, .ref (ad 5)), (1, .int x1), (2, .int (if (f_X2_areOne x1 (f_X3_rowsOf S x3 (0 : Int32))) then x2 ||| (ishl 1 x3) else x2)), (3, .int x3)] [] := by
      refine at_iinc C dX3_thoseOneWith_31 (j := 3) (v := x3 + 1) rfl rfl (by decide) (lv' := [(3, .int (x3 + 1)), (0, .ref (ad 5)), (1, .int x1), (2, .int (if (f_X2_areOne x1 (f_X3_rowsOf S x3 (0 : Int32))) then x2 ||| (ishl 1 x3) else x2))]) rfl ?_
      refine at_goto C dX3_thoseOneWith_34 (tgt := 4) (by decide) ?_
      refine at_lv [1, 2, 3, 0] rfl ?_
      exact h
    refine at_ifB_eq C dX3_thoseOneWith_22 (tgt := 31) (by decide) (fun hc1 => ?_) (fun hc1 => ?_)
    · skip
      first | (simp only [if_neg (show ¬ (f_X2_areOne x1 (f_X3_rowsOf S x3 (0 : Int32))) = true by rw [hc1]; decide)] at K; exact K) | exact K
    · skip
      refine at_iload_n C dX3_thoseOneWith_25 rfl (j := 2) rfl ?_
      refine at_iconst C dX3_thoseOneWith_26 (v := 1) rfl ?_
      refine at_iload_n C dX3_thoseOneWith_27 rfl (j := 3) rfl ?_
      refine at_ishl C dX3_thoseOneWith_28 ?_
      refine at_ior C dX3_thoseOneWith_29 ?_
      refine at_istore_n C dX3_thoseOneWith_30 rfl (by decide) (lv' := [(2, .int (x2 ||| (ishl 1 x3))), (0, .ref (ad 5)), (1, .int x1), (3, .int x3)]) rfl ?_
      refine at_lv [1, 2, 0, 3] rfl ?_
      first | (simp only [if_pos hc1] at K; exact K) | exact K
def okC (S : MS) : Prop := ∃ cnt, cnt ≤ 8 ∧ S.1 6 0 = nI cnt
def f_X3_thoseOneWith (S : MS) (x : Int32) : Int32 := itF (fun i a => if f_X2_areOne x (f_X3_rowsOf S (nI i) 0) then a ||| ishl 1 (nI i) else a) 0 (S.1 6 0).toNatClampNeg 0
set_option maxRecDepth 100000 in
theorem c_X3_thoseOneWith (l : Launch) (D : va_G) (E : Nat → ClassId) (a1 a2 : Nat) (ad : Nat → Nat) (S : MS) (x1 : Int32) (hp : okC S) : Fn l D E a1 a2 yX3_thoseOneWith wsX3_thoseOneWith 3 68 [.ref (ad 5), .int x1] (cW E ad S) (some (.int (f_X3_thoseOneWith S x1))) (cW E ad S) := by
  refine Fn.of (cc := cX3_thoseOneWith) (maxL := 4) (ret := (some .int)) (own := RX3) (by decide) rfl rfl (sameC _ _ _ _) (Nat.le_of_ble_eq_true rfl) (fun X h1 h2 h3 h4 h5 C hE => ?_)
  subst h1 h2 h3 h4 h5
  obtain ⟨cnt, hc, e6⟩ := hp
  rw [f_X3_thoseOneWith, e6, nI_clamp (show cnt < 2 ^ 31 by omega)] at hE
  refine r_X3_thoseOneWith_0 C ad S x1 ?_
  refine for_go (P := fun i a => At X 4 (cW X.E ad S) 4 [(0, .ref (ad 5)), (1, .int x1), (2, .int a), (3, .int (nI i))] []) (N := cnt) (fun i a => if f_X2_areOne x1 (f_X3_rowsOf S (nI i) 0) then a ||| ishl 1 (nI i) else a) (fun i a hi h => ?_) cnt 0 0 (Nat.zero_add _) ?_
  · refine r_X3_thoseOneWith_4 C ad S x1 a (nI i) ⟨fun q => nlt_no (b := cnt) (by omega) hi (by rw [← e6]; exact q), fun _ => ?_⟩
    rw [nI_1]; exact h
  · exact r_X3_thoseOneWith_4 C ad S x1 _ (nI cnt) ⟨fun _ => hE, fun q => absurd (by rw [e6]; exact Int32.le_refl _) q⟩
set_option maxRecDepth 20000 in
theorem ggX3_cellsOfAll_X3_rowsOf : GoodIn wsX3_cellsOfAll wsX3_rowsOf := goodIn_r _ [6, 7, 15, 16, 17, 18] (by decide +kernel) (by decide +kernel)
set_option maxRecDepth 20000 in
theorem gX3_cellsOfAll_X3_rowsOf : GoodIn wsX3_cellsOfAll (wsV RX3 45 RX3 yX3_rowsOf wsX3_rowsOf) := goodIn_app (goodIn_of _ (by decide +kernel)) ggX3_cellsOfAll_X3_rowsOf
set_option maxRecDepth 20000 in
theorem ggX3_cellsOfAll_J6_bitCount_0f7a4 : GoodIn wsX3_cellsOfAll wsJ6_bitCount_0f7a4 := goodIn_r _ [11, 12, 13, 14] (by decide +kernel) (by decide +kernel)
set_option maxRecDepth 20000 in
theorem gX3_cellsOfAll_J6_bitCount_0f7a4 : GoodIn wsX3_cellsOfAll (va_wsS RX3 55 yJ6_bitCount_0f7a4 wsJ6_bitCount_0f7a4) := goodIn_app (goodIn_of _ (by decide +kernel)) ggX3_cellsOfAll_J6_bitCount_0f7a4
theorem dX3_cellsOfAll_0 : decode cX3_cellsOfAll 0 = .ok (.iconst 0, 1) := by decide +kernel
theorem dX3_cellsOfAll_1 : decode cX3_cellsOfAll 1 = .ok (.istore_n 1, 1) := by decide +kernel
theorem dX3_cellsOfAll_2 : decode cX3_cellsOfAll 2 = .ok (.iconst 0, 1) := by decide +kernel
theorem dX3_cellsOfAll_3 : decode cX3_cellsOfAll 3 = .ok (.istore_n 2, 1) := by decide +kernel
theorem dX3_cellsOfAll_4 : decode cX3_cellsOfAll 4 = .ok (.iload_n 2, 1) := by decide +kernel
theorem dX3_cellsOfAll_5 : decode cX3_cellsOfAll 5 = .ok (.aload_n 0, 1) := by decide +kernel
theorem dX3_cellsOfAll_6 : decode cX3_cellsOfAll 6 = .ok (.getfield 31, 3) := by decide +kernel
theorem dX3_cellsOfAll_9 : decode cX3_cellsOfAll 9 = .ok (.if_icmp .ge 21, 3) := by decide +kernel
theorem dX3_cellsOfAll_12 : decode cX3_cellsOfAll 12 = .ok (.iload_n 1, 1) := by decide +kernel
theorem dX3_cellsOfAll_13 : decode cX3_cellsOfAll 13 = .ok (.aload_n 0, 1) := by decide +kernel
theorem dX3_cellsOfAll_14 : decode cX3_cellsOfAll 14 = .ok (.iload_n 2, 1) := by decide +kernel
theorem dX3_cellsOfAll_15 : decode cX3_cellsOfAll 15 = .ok (.iconst 0, 1) := by decide +kernel
theorem dX3_cellsOfAll_16 : decode cX3_cellsOfAll 16 = .ok (.invokevirtual 45, 3) := by decide +kernel
theorem dX3_cellsOfAll_19 : decode cX3_cellsOfAll 19 = .ok (.invokestatic 55, 3) := by decide +kernel
theorem dX3_cellsOfAll_22 : decode cX3_cellsOfAll 22 = .ok (.iadd, 1) := by decide +kernel
theorem dX3_cellsOfAll_23 : decode cX3_cellsOfAll 23 = .ok (.istore_n 1, 1) := by decide +kernel
theorem dX3_cellsOfAll_24 : decode cX3_cellsOfAll 24 = .ok (.iinc 2 1, 3) := by decide +kernel
theorem dX3_cellsOfAll_27 : decode cX3_cellsOfAll 27 = .ok (.goto (-23), 3) := by decide +kernel
theorem dX3_cellsOfAll_30 : decode cX3_cellsOfAll 30 = .ok (.iload_n 1, 1) := by decide +kernel
theorem dX3_cellsOfAll_31 : decode cX3_cellsOfAll 31 = .ok (.ireturn, 1) := by decide +kernel
theorem iw_X3_cellsOfAll_X3 : ∀ w ∈ u_ws RX3 TX3 4, w ∈ wsX3_cellsOfAll := by decide +kernel
theorem lk_X3_cellsOfAll_0 : Cond.fieldLink RX3 31 (TX3 2).1 (TX3 2).2.1 (TX3 2).2.2.1 ∈ wsX3_cellsOfAll := by decide +kernel
set_option maxRecDepth 100000 in
theorem r_X3_cellsOfAll_0 {X : Bn} (C : Cx X cX3_cellsOfAll 3 RX3 wsX3_cellsOfAll 1 23) (ad : Nat → Nat) (S : MS) (h : At X 3 (cW X.E ad S) 4 [(0, .ref (ad 5)), (1, .int 0), (2, .int 0)] []) : At X 3 (cW X.E ad S) 0 [(0, .ref (ad 5))] [] := by
  refine at_iconst C dX3_cellsOfAll_0 (v := 0) rfl ?_
  refine at_istore_n C dX3_cellsOfAll_1 rfl (by decide) (lv' := [(1, .int 0), (0, .ref (ad 5))]) rfl ?_
  refine at_iconst C dX3_cellsOfAll_2 (v := 0) rfl ?_
  refine at_istore_n C dX3_cellsOfAll_3 rfl (by decide) (lv' := [(2, .int 0), (1, .int 0), (0, .ref (ad 5))]) rfl ?_
  refine at_lv [2, 1, 0] rfl ?_
  exact h
set_option maxRecDepth 100000 in
theorem r_X3_cellsOfAll_4 {X : Bn} (C : Cx X cX3_cellsOfAll 3 RX3 wsX3_cellsOfAll 1 23) (ad : Nat → Nat) (S : MS) (x1 : Int32) (x2 : Int32) (h : ((S.1 6 0 ≤ x2) → (Ends X (some .int) (some (.int x1)) (cW X.E ad S))) ∧ (¬ S.1 6 0 ≤ x2 → (At X 3 (cW X.E ad S) 4 [(0, .ref (ad 5)), (1, .int (x1 + (f_J6_bitCount_0f7a4 (f_X3_rowsOf S x2 (0 : Int32))))), (2, .int (x2 + 1))] []))) : At X 3 (cW X.E ad S) 4 [(0, .ref (ad 5)), (1, .int x1), (2, .int x2)] [] := by
  refine at_iload_n C dX3_cellsOfAll_4 rfl (j := 2) rfl ?_
  refine at_aload_n C dX3_cellsOfAll_5 rfl (j := 0) rfl ?_
  refine at_get C (K := RX3) (T := TX3) (N := 4) (ci := 2) (v := .int (S.1 6 0)) iw_X3_cellsOfAll_X3 5 cW_c5 rfl 2 (by decide) lk_X3_cellsOfAll_0 rfl dX3_cellsOfAll_6 ?_
  refine at_icmp_ge C dX3_cellsOfAll_9 (tgt := 30) (by decide) (fun hc0 => ?_) (fun hc0 => ?_)
  · replace h := h.1 hc0
    refine at_iload_n C dX3_cellsOfAll_30 rfl (j := 1) rfl ?_
    exact at_iret C dX3_cellsOfAll_31 h
  · replace h := h.2 hc0
    refine at_iload_n C dX3_cellsOfAll_12 rfl (j := 1) rfl ?_
    refine at_aload_n C dX3_cellsOfAll_13 rfl (j := 0) rfl ?_
    refine at_iload_n C dX3_cellsOfAll_14 rfl (j := 2) rfl ?_
    refine at_iconst C dX3_cellsOfAll_15 (v := 0) rfl ?_
    refine at_cV1 C 2 (e_X3_rowsOf X.l X.D X.E X.a1 X.a2 ad S x2 (0 : Int32)) gX3_cellsOfAll_X3_rowsOf rfl (by decide +kernel) ⟨rfl, rfl⟩ rfl rfl rfl 5 cW_c5 rfl dX3_cellsOfAll_16 ?_
    refine at_cS0 C 1 (c_J6_bitCount_0f7a4 X.l X.D X.E X.a1 X.a2 (f_X3_rowsOf S x2 (0 : Int32))) gX3_cellsOfAll_J6_bitCount_0f7a4 rfl (by decide +kernel) ⟨rfl, rfl⟩ rfl rfl rfl dX3_cellsOfAll_19 ?_
    refine at_iadd C dX3_cellsOfAll_22 ?_
    refine at_istore_n C dX3_cellsOfAll_23 rfl (by decide) (lv' := [(1, .int (x1 + (f_J6_bitCount_0f7a4 (f_X3_rowsOf S x2 (0 : Int32))))), (0, .ref (ad 5)), (2, .int x2)]) rfl ?_
    refine at_iinc C dX3_cellsOfAll_24 (j := 2) (v := x2 + 1) rfl rfl (by decide) (lv' := [(2, .int (x2 + 1)), (1, .int (x1 + (f_J6_bitCount_0f7a4 (f_X3_rowsOf S x2 (0 : Int32))))), (0, .ref (ad 5))]) rfl ?_
    refine at_goto C dX3_cellsOfAll_27 (tgt := 4) (by decide) ?_
    refine at_lv [2, 1, 0] rfl ?_
    exact h
def f_X3_cellsOfAll (S : MS) : Int32 := itF (fun i a => a + f_J6_bitCount_0f7a4 (f_X3_rowsOf S (nI i) 0)) 0 (S.1 6 0).toNatClampNeg 0
set_option maxRecDepth 100000 in
theorem c_X3_cellsOfAll (l : Launch) (D : va_G) (E : Nat → ClassId) (a1 a2 : Nat) (ad : Nat → Nat) (S : MS) (hp : okC S) : Fn l D E a1 a2 yX3_cellsOfAll wsX3_cellsOfAll 1 23 [.ref (ad 5)] (cW E ad S) (some (.int (f_X3_cellsOfAll S))) (cW E ad S) := by
  refine Fn.of (cc := cX3_cellsOfAll) (maxL := 3) (ret := (some .int)) (own := RX3) (by decide) rfl rfl (sameC _ _ _ _) (Nat.le_of_ble_eq_true rfl) (fun X h1 h2 h3 h4 h5 C hE => ?_)
  subst h1 h2 h3 h4 h5
  obtain ⟨cnt, hc, e6⟩ := hp
  rw [f_X3_cellsOfAll, e6, nI_clamp (show cnt < 2 ^ 31 by omega)] at hE
  refine r_X3_cellsOfAll_0 C ad S ?_
  refine for_go (P := fun i a => At X 3 (cW X.E ad S) 4 [(0, .ref (ad 5)), (1, .int a), (2, .int (nI i))] []) (N := cnt) (fun i a => a + f_J6_bitCount_0f7a4 (f_X3_rowsOf S (nI i) 0)) (fun i a hi h => ?_) cnt 0 0 (Nat.zero_add _) ?_
  · refine r_X3_cellsOfAll_4 C ad S a (nI i) ⟨fun q => nlt_no (b := cnt) (by omega) hi (by rw [← e6]; exact q), fun _ => ?_⟩
    rw [nI_1]; exact h
  · exact r_X3_cellsOfAll_4 C ad S _ (nI cnt) ⟨fun _ => hE, fun q => absurd (by rw [e6]; exact Int32.le_refl _) q⟩
set_option maxRecDepth 20000 in
theorem ggX3_wholeOnes_X3_rowsOf : GoodIn wsX3_wholeOnes wsX3_rowsOf := goodIn_r _ [6, 7, 14, 15, 16, 17] (by decide +kernel) (by decide +kernel)
set_option maxRecDepth 20000 in
theorem gX3_wholeOnes_X3_rowsOf : GoodIn wsX3_wholeOnes (wsV RX3 45 RX3 yX3_rowsOf wsX3_rowsOf) := goodIn_app (goodIn_of _ (by decide +kernel)) ggX3_wholeOnes_X3_rowsOf
set_option maxRecDepth 20000 in
theorem ggX3_wholeOnes_X2_isWhole : GoodIn wsX3_wholeOnes wsX2_isWhole := goodIn_r _ [11, 12, 13] (by decide +kernel) (by decide +kernel)
set_option maxRecDepth 20000 in
theorem gX3_wholeOnes_X2_isWhole : GoodIn wsX3_wholeOnes (va_wsS RX3 60 yX2_isWhole wsX2_isWhole) := goodIn_app (goodIn_of _ (by decide +kernel)) ggX3_wholeOnes_X2_isWhole
theorem dX3_wholeOnes_0 : decode cX3_wholeOnes 0 = .ok (.iconst 0, 1) := by decide +kernel
theorem dX3_wholeOnes_1 : decode cX3_wholeOnes 1 = .ok (.istore_n 1, 1) := by decide +kernel
theorem dX3_wholeOnes_2 : decode cX3_wholeOnes 2 = .ok (.iconst 0, 1) := by decide +kernel
theorem dX3_wholeOnes_3 : decode cX3_wholeOnes 3 = .ok (.istore_n 2, 1) := by decide +kernel
theorem dX3_wholeOnes_4 : decode cX3_wholeOnes 4 = .ok (.iload_n 2, 1) := by decide +kernel
theorem dX3_wholeOnes_5 : decode cX3_wholeOnes 5 = .ok (.aload_n 0, 1) := by decide +kernel
theorem dX3_wholeOnes_6 : decode cX3_wholeOnes 6 = .ok (.getfield 31, 3) := by decide +kernel
theorem dX3_wholeOnes_9 : decode cX3_wholeOnes 9 = .ok (.if_icmp .ge 29, 3) := by decide +kernel
theorem dX3_wholeOnes_12 : decode cX3_wholeOnes 12 = .ok (.iload_n 1, 1) := by decide +kernel
theorem dX3_wholeOnes_13 : decode cX3_wholeOnes 13 = .ok (.aload_n 0, 1) := by decide +kernel
theorem dX3_wholeOnes_14 : decode cX3_wholeOnes 14 = .ok (.iload_n 2, 1) := by decide +kernel
theorem dX3_wholeOnes_15 : decode cX3_wholeOnes 15 = .ok (.iconst 0, 1) := by decide +kernel
theorem dX3_wholeOnes_16 : decode cX3_wholeOnes 16 = .ok (.invokevirtual 45, 3) := by decide +kernel
theorem dX3_wholeOnes_19 : decode cX3_wholeOnes 19 = .ok (.invokestatic 60, 3) := by decide +kernel
theorem dX3_wholeOnes_22 : decode cX3_wholeOnes 22 = .ok (.ifCond .eq 7, 3) := by decide +kernel
theorem dX3_wholeOnes_25 : decode cX3_wholeOnes 25 = .ok (.iconst 1, 1) := by decide +kernel
theorem dX3_wholeOnes_26 : decode cX3_wholeOnes 26 = .ok (.goto 4, 3) := by decide +kernel
theorem dX3_wholeOnes_29 : decode cX3_wholeOnes 29 = .ok (.iconst 0, 1) := by decide +kernel
theorem dX3_wholeOnes_30 : decode cX3_wholeOnes 30 = .ok (.iadd, 1) := by decide +kernel
theorem dX3_wholeOnes_31 : decode cX3_wholeOnes 31 = .ok (.istore_n 1, 1) := by decide +kernel
theorem dX3_wholeOnes_32 : decode cX3_wholeOnes 32 = .ok (.iinc 2 1, 3) := by decide +kernel
theorem dX3_wholeOnes_35 : decode cX3_wholeOnes 35 = .ok (.goto (-31), 3) := by decide +kernel
theorem dX3_wholeOnes_38 : decode cX3_wholeOnes 38 = .ok (.iload_n 1, 1) := by decide +kernel
theorem dX3_wholeOnes_39 : decode cX3_wholeOnes 39 = .ok (.ireturn, 1) := by decide +kernel
theorem iw_X3_wholeOnes_X3 : ∀ w ∈ u_ws RX3 TX3 4, w ∈ wsX3_wholeOnes := by decide +kernel
theorem lk_X3_wholeOnes_0 : Cond.fieldLink RX3 31 (TX3 2).1 (TX3 2).2.1 (TX3 2).2.2.1 ∈ wsX3_wholeOnes := by decide +kernel
set_option maxRecDepth 100000 in
theorem r_X3_wholeOnes_0 {X : Bn} (C : Cx X cX3_wholeOnes 3 RX3 wsX3_wholeOnes 1 23) (ad : Nat → Nat) (S : MS) (h : At X 3 (cW X.E ad S) 4 [(0, .ref (ad 5)), (1, .int 0), (2, .int 0)] []) : At X 3 (cW X.E ad S) 0 [(0, .ref (ad 5))] [] := by
  refine at_iconst C dX3_wholeOnes_0 (v := 0) rfl ?_
  refine at_istore_n C dX3_wholeOnes_1 rfl (by decide) (lv' := [(1, .int 0), (0, .ref (ad 5))]) rfl ?_
  refine at_iconst C dX3_wholeOnes_2 (v := 0) rfl ?_
  refine at_istore_n C dX3_wholeOnes_3 rfl (by decide) (lv' := [(2, .int 0), (1, .int 0), (0, .ref (ad 5))]) rfl ?_
  refine at_lv [2, 1, 0] rfl ?_
  exact h
set_option maxRecDepth 100000 in
theorem r_X3_wholeOnes_4 {X : Bn} (C : Cx X cX3_wholeOnes 3 RX3 wsX3_wholeOnes 1 23) (ad : Nat → Nat) (S : MS) (x1 : Int32) (x2 : Int32) (h : ((S.1 6 0 ≤ x2) → (Ends X (some .int) (some (.int x1)) (cW X.E ad S))) ∧ (¬ S.1 6 0 ≤ x2 → (At X 3 (cW X.E ad S) 4 [(0, .ref (ad 5)), (1, .int (x1 + (b2i (if (f_X2_isWhole (f_X3_rowsOf S x2 (0 : Int32))) then true else false)))), (2, .int (x2 + 1))] []))) : At X 3 (cW X.E ad S) 4 [(0, .ref (ad 5)), (1, .int x1), (2, .int x2)] [] := by
  refine at_iload_n C dX3_wholeOnes_4 rfl (j := 2) rfl ?_
  refine at_aload_n C dX3_wholeOnes_5 rfl (j := 0) rfl ?_
  refine at_get C (K := RX3) (T := TX3) (N := 4) (ci := 2) (v := .int (S.1 6 0)) iw_X3_wholeOnes_X3 5 cW_c5 rfl 2 (by decide) lk_X3_wholeOnes_0 rfl dX3_wholeOnes_6 ?_
  refine at_icmp_ge C dX3_wholeOnes_9 (tgt := 38) (by decide) (fun hc0 => ?_) (fun hc0 => ?_)
  · replace h := h.1 hc0
    refine at_iload_n C dX3_wholeOnes_38 rfl (j := 1) rfl ?_
    exact at_iret C dX3_wholeOnes_39 h
  · replace h := h.2 hc0
    refine at_iload_n C dX3_wholeOnes_12 rfl (j := 1) rfl ?_
    refine at_aload_n C dX3_wholeOnes_13 rfl (j := 0) rfl ?_
    refine at_iload_n C dX3_wholeOnes_14 rfl (j := 2) rfl ?_
    refine at_iconst C dX3_wholeOnes_15 (v := 0) rfl ?_
    refine at_cV1 C 2 (e_X3_rowsOf X.l X.D X.E X.a1 X.a2 ad S x2 (0 : Int32)) gX3_wholeOnes_X3_rowsOf rfl (by decide +kernel) ⟨rfl, rfl⟩ rfl rfl rfl 5 cW_c5 rfl dX3_wholeOnes_16 ?_
    refine at_cS0 C 1 (c_X2_isWhole X.l X.D X.E X.a1 X.a2 (f_X3_rowsOf S x2 (0 : Int32))) gX3_wholeOnes_X2_isWhole rfl (by decide +kernel) ⟨rfl, rfl⟩ rfl rfl rfl dX3_wholeOnes_19 ?_
    have K : At X 3 (cW X.E ad S) 30 [(0, .ref (ad 5)), (2, .int x2)] [.int (b2i (if (f_X2_isWhole (f_X3_rowsOf S x2 (0 : Int32))) then true else false)), .int x1] := by
      refine at_iadd C dX3_wholeOnes_30 ?_
      refine at_istore_n C dX3_wholeOnes_31 rfl (by decide) (lv' := [(1, .int (x1 + (b2i (if (f_X2_isWhole (f_X3_rowsOf S x2 (0 : Int32))) then true else false)))), (0, .ref (ad 5)), (2, .int x2)]) rfl ?_
      refine at_iinc C dX3_wholeOnes_32 (j := 2) (v := x2 + 1) rfl rfl (by decide) (lv' := [(2, .int (x2 + 1)), (1, .int (x1 + (b2i (if (f_X2_isWhole (f_X3_rowsOf S x2 (0 : Int32))) then true else false)))), (0, .ref (ad 5))]) rfl ?_
      refine at_goto C dX3_wholeOnes_35 (tgt := 4) (by decide) ?_
      refine at_lv [2, 1, 0] rfl ?_
      exact h
    refine at_ifB_eq C dX3_wholeOnes_22 (tgt := 29) (by decide) (fun hc1 => ?_) (fun hc1 => ?_)
    · skip
      refine at_iconst C dX3_wholeOnes_29 (v := 0) rfl ?_
      refine at_lv [0, 2] rfl ?_
      first | (simp only [if_neg (show ¬ (f_X2_isWhole (f_X3_rowsOf S x2 (0 : Int32))) = true by rw [hc1]; decide)] at K; exact K) | exact K
    · skip
      refine at_iconst C dX3_wholeOnes_25 (v := 1) rfl ?_
      refine at_goto C dX3_wholeOnes_26 (tgt := 30) (by decide) ?_
      refine at_lv [0, 2] rfl ?_
      first | (simp only [if_pos hc1] at K; exact K) | exact K
def f_X3_wholeOnes (S : MS) : Int32 := itF (fun i a => a + b2i (if f_X2_isWhole (f_X3_rowsOf S (nI i) 0) then true else false)) 0 (S.1 6 0).toNatClampNeg 0
set_option maxRecDepth 100000 in
theorem c_X3_wholeOnes (l : Launch) (D : va_G) (E : Nat → ClassId) (a1 a2 : Nat) (ad : Nat → Nat) (S : MS) (hp : okC S) : Fn l D E a1 a2 yX3_wholeOnes wsX3_wholeOnes 1 23 [.ref (ad 5)] (cW E ad S) (some (.int (f_X3_wholeOnes S))) (cW E ad S) := by
  refine Fn.of (cc := cX3_wholeOnes) (maxL := 3) (ret := (some .int)) (own := RX3) (by decide) rfl rfl (sameC _ _ _ _) (Nat.le_of_ble_eq_true rfl) (fun X h1 h2 h3 h4 h5 C hE => ?_)
  subst h1 h2 h3 h4 h5
  obtain ⟨cnt, hc, e6⟩ := hp
  rw [f_X3_wholeOnes, e6, nI_clamp (show cnt < 2 ^ 31 by omega)] at hE
  refine r_X3_wholeOnes_0 C ad S ?_
  refine for_go (P := fun i a => At X 3 (cW X.E ad S) 4 [(0, .ref (ad 5)), (1, .int a), (2, .int (nI i))] []) (N := cnt) (fun i a => a + b2i (if f_X2_isWhole (f_X3_rowsOf S (nI i) 0) then true else false)) (fun i a hi h => ?_) cnt 0 0 (Nat.zero_add _) ?_
  · refine r_X3_wholeOnes_4 C ad S a (nI i) ⟨fun q => nlt_no (b := cnt) (by omega) hi (by rw [← e6]; exact q), fun _ => ?_⟩
    rw [nI_1]; exact h
  · exact r_X3_wholeOnes_4 C ad S _ (nI cnt) ⟨fun _ => hE, fun q => absurd (by rw [e6]; exact Int32.le_refl _) q⟩
set_option maxRecDepth 20000 in
theorem ggX3_unlikeTheirMirror_X3_rowsOf : GoodIn wsX3_unlikeTheirMirror wsX3_rowsOf := goodIn_r _ [6, 7, 27, 28, 29, 30] (by decide +kernel) (by decide +kernel)
set_option maxRecDepth 20000 in
theorem gX3_unlikeTheirMirror_X3_rowsOf : GoodIn wsX3_unlikeTheirMirror (wsV RX3 45 RX3 yX3_rowsOf wsX3_rowsOf) := goodIn_app (goodIn_of _ (by decide +kernel)) ggX3_unlikeTheirMirror_X3_rowsOf
set_option maxRecDepth 20000 in
theorem ggX3_unlikeTheirMirror_X2_mirrored : GoodIn wsX3_unlikeTheirMirror wsX2_mirrored := goodIn_r _ [11, 12, 13, 10, 14, 15] (by decide +kernel) (by decide +kernel)
set_option maxRecDepth 20000 in
theorem gX3_unlikeTheirMirror_X2_mirrored : GoodIn wsX3_unlikeTheirMirror (va_wsS RX3 64 yX2_mirrored wsX2_mirrored) := goodIn_app (goodIn_of _ (by decide +kernel)) ggX3_unlikeTheirMirror_X2_mirrored
set_option maxRecDepth 20000 in
theorem ggX3_unlikeTheirMirror_X2_areOne : GoodIn wsX3_unlikeTheirMirror wsX2_areOne := goodIn_r _ [18, 19, 20, 10, 21, 22, 23, 24, 25, 26, 12, 13, 14, 15] (by decide +kernel) (by decide +kernel)
set_option maxRecDepth 20000 in
theorem gX3_unlikeTheirMirror_X2_areOne : GoodIn wsX3_unlikeTheirMirror (va_wsS RX3 49 yX2_areOne wsX2_areOne) := goodIn_app (goodIn_of _ (by decide +kernel)) ggX3_unlikeTheirMirror_X2_areOne
theorem dX3_unlikeTheirMirror_0 : decode cX3_unlikeTheirMirror 0 = .ok (.iconst 0, 1) := by decide +kernel
theorem dX3_unlikeTheirMirror_1 : decode cX3_unlikeTheirMirror 1 = .ok (.istore_n 1, 1) := by decide +kernel
theorem dX3_unlikeTheirMirror_2 : decode cX3_unlikeTheirMirror 2 = .ok (.iconst 0, 1) := by decide +kernel
theorem dX3_unlikeTheirMirror_3 : decode cX3_unlikeTheirMirror 3 = .ok (.istore_n 2, 1) := by decide +kernel
theorem dX3_unlikeTheirMirror_4 : decode cX3_unlikeTheirMirror 4 = .ok (.iload_n 2, 1) := by decide +kernel
theorem dX3_unlikeTheirMirror_5 : decode cX3_unlikeTheirMirror 5 = .ok (.aload_n 0, 1) := by decide +kernel
theorem dX3_unlikeTheirMirror_6 : decode cX3_unlikeTheirMirror 6 = .ok (.getfield 31, 3) := by decide +kernel
theorem dX3_unlikeTheirMirror_9 : decode cX3_unlikeTheirMirror 9 = .ok (.if_icmp .ge 35, 3) := by decide +kernel
theorem dX3_unlikeTheirMirror_12 : decode cX3_unlikeTheirMirror 12 = .ok (.aload_n 0, 1) := by decide +kernel
theorem dX3_unlikeTheirMirror_13 : decode cX3_unlikeTheirMirror 13 = .ok (.iload_n 2, 1) := by decide +kernel
theorem dX3_unlikeTheirMirror_14 : decode cX3_unlikeTheirMirror 14 = .ok (.iconst 0, 1) := by decide +kernel
theorem dX3_unlikeTheirMirror_15 : decode cX3_unlikeTheirMirror 15 = .ok (.invokevirtual 45, 3) := by decide +kernel
theorem dX3_unlikeTheirMirror_18 : decode cX3_unlikeTheirMirror 18 = .ok (.istore_n 3, 1) := by decide +kernel
theorem dX3_unlikeTheirMirror_19 : decode cX3_unlikeTheirMirror 19 = .ok (.iload_n 1, 1) := by decide +kernel
theorem dX3_unlikeTheirMirror_20 : decode cX3_unlikeTheirMirror 20 = .ok (.iload_n 3, 1) := by decide +kernel
theorem dX3_unlikeTheirMirror_21 : decode cX3_unlikeTheirMirror 21 = .ok (.iload_n 3, 1) := by decide +kernel
theorem dX3_unlikeTheirMirror_22 : decode cX3_unlikeTheirMirror 22 = .ok (.invokestatic 64, 3) := by decide +kernel
theorem dX3_unlikeTheirMirror_25 : decode cX3_unlikeTheirMirror 25 = .ok (.invokestatic 49, 3) := by decide +kernel
theorem dX3_unlikeTheirMirror_28 : decode cX3_unlikeTheirMirror 28 = .ok (.ifCond .eq 7, 3) := by decide +kernel
theorem dX3_unlikeTheirMirror_31 : decode cX3_unlikeTheirMirror 31 = .ok (.iconst 0, 1) := by decide +kernel
theorem dX3_unlikeTheirMirror_32 : decode cX3_unlikeTheirMirror 32 = .ok (.goto 4, 3) := by decide +kernel
theorem dX3_unlikeTheirMirror_35 : decode cX3_unlikeTheirMirror 35 = .ok (.iconst 1, 1) := by decide +kernel
theorem dX3_unlikeTheirMirror_36 : decode cX3_unlikeTheirMirror 36 = .ok (.iadd, 1) := by decide +kernel
theorem dX3_unlikeTheirMirror_37 : decode cX3_unlikeTheirMirror 37 = .ok (.istore_n 1, 1) := by decide +kernel
theorem dX3_unlikeTheirMirror_38 : decode cX3_unlikeTheirMirror 38 = .ok (.iinc 2 1, 3) := by decide +kernel
theorem dX3_unlikeTheirMirror_41 : decode cX3_unlikeTheirMirror 41 = .ok (.goto (-37), 3) := by decide +kernel
theorem dX3_unlikeTheirMirror_44 : decode cX3_unlikeTheirMirror 44 = .ok (.iload_n 1, 1) := by decide +kernel
theorem dX3_unlikeTheirMirror_45 : decode cX3_unlikeTheirMirror 45 = .ok (.ireturn, 1) := by decide +kernel
theorem iw_X3_unlikeTheirMirror_X3 : ∀ w ∈ u_ws RX3 TX3 4, w ∈ wsX3_unlikeTheirMirror := by decide +kernel
theorem lk_X3_unlikeTheirMirror_0 : Cond.fieldLink RX3 31 (TX3 2).1 (TX3 2).2.1 (TX3 2).2.2.1 ∈ wsX3_unlikeTheirMirror := by decide +kernel
set_option maxRecDepth 100000 in
theorem r_X3_unlikeTheirMirror_0 {X : Bn} (C : Cx X cX3_unlikeTheirMirror 4 RX3 wsX3_unlikeTheirMirror 3 68) (ad : Nat → Nat) (S : MS) (h : At X 4 (cW X.E ad S) 4 [(0, .ref (ad 5)), (1, .int 0), (2, .int 0)] []) : At X 4 (cW X.E ad S) 0 [(0, .ref (ad 5))] [] := by
  refine at_iconst C dX3_unlikeTheirMirror_0 (v := 0) rfl ?_
  refine at_istore_n C dX3_unlikeTheirMirror_1 rfl (by decide) (lv' := [(1, .int 0), (0, .ref (ad 5))]) rfl ?_
  refine at_iconst C dX3_unlikeTheirMirror_2 (v := 0) rfl ?_
  refine at_istore_n C dX3_unlikeTheirMirror_3 rfl (by decide) (lv' := [(2, .int 0), (1, .int 0), (0, .ref (ad 5))]) rfl ?_
  refine at_lv [2, 1, 0] rfl ?_
  exact h
set_option maxRecDepth 100000 in
theorem r_X3_unlikeTheirMirror_4 {X : Bn} (C : Cx X cX3_unlikeTheirMirror 4 RX3 wsX3_unlikeTheirMirror 3 68) (ad : Nat → Nat) (S : MS) (x1 : Int32) (x2 : Int32) (h : ((S.1 6 0 ≤ x2) → (Ends X (some .int) (some (.int x1)) (cW X.E ad S))) ∧ (¬ S.1 6 0 ≤ x2 → (At X 4 (cW X.E ad S) 4 [(0, .ref (ad 5)), (1, .int (x1 + (b2i (if (f_X2_areOne (f_X3_rowsOf S x2 (0 : Int32)) (f_X2_mirrored (f_X3_rowsOf S x2 (0 : Int32)))) then false else true)))), (2, .int (x2 + 1))] []))) : At X 4 (cW X.E ad S) 4 [(0, .ref (ad 5)), (1, .int x1), (2, .int x2)] [] := by
  refine at_iload_n C dX3_unlikeTheirMirror_4 rfl (j := 2) rfl ?_
  refine at_aload_n C dX3_unlikeTheirMirror_5 rfl (j := 0) rfl ?_
  refine at_get C (K := RX3) (T := TX3) (N := 4) (ci := 2) (v := .int (S.1 6 0)) iw_X3_unlikeTheirMirror_X3 5 cW_c5 rfl 2 (by decide) lk_X3_unlikeTheirMirror_0 rfl dX3_unlikeTheirMirror_6 ?_
  refine at_icmp_ge C dX3_unlikeTheirMirror_9 (tgt := 44) (by decide) (fun hc0 => ?_) (fun hc0 => ?_)
  · replace h := h.1 hc0
    refine at_iload_n C dX3_unlikeTheirMirror_44 rfl (j := 1) rfl ?_
    exact at_iret C dX3_unlikeTheirMirror_45 h
  · replace h := h.2 hc0
    refine at_aload_n C dX3_unlikeTheirMirror_12 rfl (j := 0) rfl ?_
    refine at_iload_n C dX3_unlikeTheirMirror_13 rfl (j := 2) rfl ?_
    refine at_iconst C dX3_unlikeTheirMirror_14 (v := 0) rfl ?_
    refine at_cV1 C 2 (e_X3_rowsOf X.l X.D X.E X.a1 X.a2 ad S x2 (0 : Int32)) gX3_unlikeTheirMirror_X3_rowsOf rfl (by decide +kernel) ⟨rfl, rfl⟩ rfl rfl rfl 5 cW_c5 rfl dX3_unlikeTheirMirror_15 ?_
    refine at_istore_n C dX3_unlikeTheirMirror_18 rfl (by decide) (lv' := [(3, .int (f_X3_rowsOf S x2 (0 : Int32))), (0, .ref (ad 5)), (1, .int x1), (2, .int x2)]) rfl ?_
    refine at_iload_n C dX3_unlikeTheirMirror_19 rfl (j := 2) rfl ?_
    refine at_iload_n C dX3_unlikeTheirMirror_20 rfl (j := 0) rfl ?_
    refine at_iload_n C dX3_unlikeTheirMirror_21 rfl (j := 0) rfl ?_
    refine at_cS0 C 1 (c_X2_mirrored X.l X.D X.E X.a1 X.a2 (f_X3_rowsOf S x2 (0 : Int32))) gX3_unlikeTheirMirror_X2_mirrored rfl (by decide +kernel) ⟨rfl, rfl⟩ rfl rfl rfl dX3_unlikeTheirMirror_22 ?_
    refine at_cS0 C 2 (c_X2_areOne X.l X.D X.E X.a1 X.a2 (f_X3_rowsOf S x2 (0 : Int32)) (f_X2_mirrored (f_X3_rowsOf S x2 (0 : Int32)))) gX3_unlikeTheirMirror_X2_areOne rfl (by decide +kernel) ⟨rfl, rfl⟩ rfl rfl rfl dX3_unlikeTheirMirror_25 ?_
    have K : At X 4 (cW X.E ad S) 36 [(0, .ref (ad 5)), (2, .int x2)] [.int (b2i (if (f_X2_areOne (f_X3_rowsOf S x2 (0 : Int32)) (f_X2_mirrored (f_X3_rowsOf S x2 (0 : Int32)))) then false else true)), .int x1] := by
      refine at_iadd C dX3_unlikeTheirMirror_36 ?_
      refine at_istore_n C dX3_unlikeTheirMirror_37 rfl (by decide) (lv' := [(1, .int (x1 + (b2i (if (f_X2_areOne (f_X3_rowsOf S x2 (0 : Int32)) (f_X2_mirrored (f_X3_rowsOf S x2 (0 : Int32)))) then false else true)))), (0, .ref (ad 5)), (2, .int x2)]) rfl ?_
      refine at_iinc C dX3_unlikeTheirMirror_38 (j := 2) (v := x2 + 1) rfl rfl (by decide) (lv' := [(2, .int (x2 + 1)), (1, .int (x1 + (b2i (if (f_X2_areOne (f_X3_rowsOf S x2 (0 : Int32)) (f_X2_mirrored (f_X3_rowsOf S x2 (0 : Int32)))) then false else true)))), (0, .ref (ad 5))]) rfl ?_
      refine at_goto C dX3_unlikeTheirMirror_41 (tgt := 4) (by decide) ?_
      refine at_lv [2, 1, 0] rfl ?_
      exact h
    refine at_ifB_eq C dX3_unlikeTheirMirror_28 (tgt := 35) (by decide) (fun hc1 => ?_) (fun hc1 => ?_)
    · skip
      refine at_iconst C dX3_unlikeTheirMirror_35 (v := 1) rfl ?_
      refine at_lv [1, 3] rfl ?_
      first | (simp only [if_neg (show ¬ (f_X2_areOne (f_X3_rowsOf S x2 (0 : Int32)) (f_X2_mirrored (f_X3_rowsOf S x2 (0 : Int32)))) = true by rw [hc1]; decide)] at K; exact K) | exact K
    · skip
      refine at_iconst C dX3_unlikeTheirMirror_31 (v := 0) rfl ?_
      refine at_goto C dX3_unlikeTheirMirror_32 (tgt := 36) (by decide) ?_
      refine at_lv [1, 3] rfl ?_
      first | (simp only [if_pos hc1] at K; exact K) | exact K
def f_X3_unlikeTheirMirror (S : MS) : Int32 := itF (fun i a => a + b2i (if f_X2_areOne (f_X3_rowsOf S (nI i) 0) (f_X2_mirrored (f_X3_rowsOf S (nI i) 0)) then false else true)) 0 (S.1 6 0).toNatClampNeg 0
set_option maxRecDepth 100000 in
theorem c_X3_unlikeTheirMirror (l : Launch) (D : va_G) (E : Nat → ClassId) (a1 a2 : Nat) (ad : Nat → Nat) (S : MS) (hp : okC S) : Fn l D E a1 a2 yX3_unlikeTheirMirror wsX3_unlikeTheirMirror 3 68 [.ref (ad 5)] (cW E ad S) (some (.int (f_X3_unlikeTheirMirror S))) (cW E ad S) := by
  refine Fn.of (cc := cX3_unlikeTheirMirror) (maxL := 4) (ret := (some .int)) (own := RX3) (by decide) rfl rfl (sameC _ _ _ _) (Nat.le_of_ble_eq_true rfl) (fun X h1 h2 h3 h4 h5 C hE => ?_)
  subst h1 h2 h3 h4 h5
  obtain ⟨cnt, hc, e6⟩ := hp
  rw [f_X3_unlikeTheirMirror, e6, nI_clamp (show cnt < 2 ^ 31 by omega)] at hE
  refine r_X3_unlikeTheirMirror_0 C ad S ?_
  refine for_go (P := fun i a => At X 4 (cW X.E ad S) 4 [(0, .ref (ad 5)), (1, .int a), (2, .int (nI i))] []) (N := cnt) (fun i a => a + b2i (if f_X2_areOne (f_X3_rowsOf S (nI i) 0) (f_X2_mirrored (f_X3_rowsOf S (nI i) 0)) then false else true)) (fun i a hi h => ?_) cnt 0 0 (Nat.zero_add _) ?_
  · refine r_X3_unlikeTheirMirror_4 C ad S a (nI i) ⟨fun q => nlt_no (b := cnt) (by omega) hi (by rw [← e6]; exact q), fun _ => ?_⟩
    rw [nI_1]; exact h
  · exact r_X3_unlikeTheirMirror_4 C ad S _ (nI cnt) ⟨fun _ => hE, fun q => absurd (by rw [e6]; exact Int32.le_refl _) q⟩
set_option maxRecDepth 20000 in
theorem ggX3_keep_X2_sightFrom : GoodIn wsX3_keep wsX2_sightFrom := goodIn_r _ [6, 7, 8, 5, 9, 10, 11, 12, 13] (by decide +kernel) (by decide +kernel)
set_option maxRecDepth 20000 in
theorem gX3_keep_X2_sightFrom : GoodIn wsX3_keep (va_wsS RX3 67 yX2_sightFrom wsX2_sightFrom) := goodIn_app (goodIn_of _ (by decide +kernel)) ggX3_keep_X2_sightFrom
set_option maxRecDepth 20000 in
theorem ggX3_keep_X2_turned : GoodIn wsX3_keep wsX2_turned := goodIn_r _ [16, 10, 11, 5, 12, 13] (by decide +kernel) (by decide +kernel)
set_option maxRecDepth 20000 in
theorem gX3_keep_X2_turned : GoodIn wsX3_keep (va_wsS RX3 70 yX2_turned wsX2_turned) := goodIn_app (goodIn_of _ (by decide +kernel)) ggX3_keep_X2_turned
theorem dX3_keep_0 : decode cX3_keep 0 = .ok (.iload_n 2, 1) := by decide +kernel
theorem dX3_keep_1 : decode cX3_keep 1 = .ok (.istore_n 3, 1) := by decide +kernel
theorem dX3_keep_2 : decode cX3_keep 2 = .ok (.iconst 0, 1) := by decide +kernel
theorem dX3_keep_3 : decode cX3_keep 3 = .ok (.istore 4, 2) := by decide +kernel
theorem dX3_keep_5 : decode cX3_keep 5 = .ok (.iload 4, 2) := by decide +kernel
theorem dX3_keep_7 : decode cX3_keep 7 = .ok (.iconst 4, 1) := by decide +kernel
theorem dX3_keep_8 : decode cX3_keep 8 = .ok (.if_icmp .ge 79, 3) := by decide +kernel
theorem dX3_keep_11 : decode cX3_keep 11 = .ok (.iload_n 1, 1) := by decide +kernel
theorem dX3_keep_12 : decode cX3_keep 12 = .ok (.iconst 4, 1) := by decide +kernel
theorem dX3_keep_13 : decode cX3_keep 13 = .ok (.imul, 1) := by decide +kernel
theorem dX3_keep_14 : decode cX3_keep 14 = .ok (.iload 4, 2) := by decide +kernel
theorem dX3_keep_16 : decode cX3_keep 16 = .ok (.iadd, 1) := by decide +kernel
theorem dX3_keep_17 : decode cX3_keep 17 = .ok (.istore 5, 2) := by decide +kernel
theorem dX3_keep_19 : decode cX3_keep 19 = .ok (.iload 5, 2) := by decide +kernel
theorem dX3_keep_21 : decode cX3_keep 21 = .ok (.ifCond .lt 13, 3) := by decide +kernel
theorem dX3_keep_24 : decode cX3_keep 24 = .ok (.iload 5, 2) := by decide +kernel
theorem dX3_keep_26 : decode cX3_keep 26 = .ok (.aload_n 0, 1) := by decide +kernel
theorem dX3_keep_27 : decode cX3_keep 27 = .ok (.getfield 11, 3) := by decide +kernel
theorem dX3_keep_30 : decode cX3_keep 30 = .ok (.arraylength, 1) := by decide +kernel
theorem dX3_keep_31 : decode cX3_keep 31 = .ok (.if_icmp .lt 4, 3) := by decide +kernel
theorem dX3_keep_34 : decode cX3_keep 34 = .ok (.return_, 1) := by decide +kernel
theorem dX3_keep_35 : decode cX3_keep 35 = .ok (.aload_n 0, 1) := by decide +kernel
theorem dX3_keep_36 : decode cX3_keep 36 = .ok (.getfield 11, 3) := by decide +kernel
theorem dX3_keep_39 : decode cX3_keep 39 = .ok (.iload 5, 2) := by decide +kernel
theorem dX3_keep_41 : decode cX3_keep 41 = .ok (.iload_n 3, 1) := by decide +kernel
theorem dX3_keep_42 : decode cX3_keep 42 = .ok (.iastore, 1) := by decide +kernel
theorem dX3_keep_43 : decode cX3_keep 43 = .ok (.iconst 0, 1) := by decide +kernel
theorem dX3_keep_44 : decode cX3_keep 44 = .ok (.istore 6, 2) := by decide +kernel
theorem dX3_keep_46 : decode cX3_keep 46 = .ok (.iload 6, 2) := by decide +kernel
theorem dX3_keep_48 : decode cX3_keep 48 = .ok (.iconst 4, 1) := by decide +kernel
theorem dX3_keep_49 : decode cX3_keep 49 = .ok (.if_icmp .ge 27, 3) := by decide +kernel
theorem dX3_keep_52 : decode cX3_keep 52 = .ok (.aload_n 0, 1) := by decide +kernel
theorem dX3_keep_53 : decode cX3_keep 53 = .ok (.getfield 15, 3) := by decide +kernel
theorem dX3_keep_56 : decode cX3_keep 56 = .ok (.iload 5, 2) := by decide +kernel
theorem dX3_keep_58 : decode cX3_keep 58 = .ok (.iconst 4, 1) := by decide +kernel
theorem dX3_keep_59 : decode cX3_keep 59 = .ok (.imul, 1) := by decide +kernel
theorem dX3_keep_60 : decode cX3_keep 60 = .ok (.iload 6, 2) := by decide +kernel
theorem dX3_keep_62 : decode cX3_keep 62 = .ok (.iadd, 1) := by decide +kernel
theorem dX3_keep_63 : decode cX3_keep 63 = .ok (.iload_n 3, 1) := by decide +kernel
theorem dX3_keep_64 : decode cX3_keep 64 = .ok (.iload 6, 2) := by decide +kernel
theorem dX3_keep_66 : decode cX3_keep 66 = .ok (.invokestatic 67, 3) := by decide +kernel
theorem dX3_keep_69 : decode cX3_keep 69 = .ok (.iastore, 1) := by decide +kernel
theorem dX3_keep_70 : decode cX3_keep 70 = .ok (.iinc 6 1, 3) := by decide +kernel
theorem dX3_keep_73 : decode cX3_keep 73 = .ok (.goto (-27), 3) := by decide +kernel
theorem dX3_keep_76 : decode cX3_keep 76 = .ok (.iload_n 3, 1) := by decide +kernel
theorem dX3_keep_77 : decode cX3_keep 77 = .ok (.invokestatic 70, 3) := by decide +kernel
theorem dX3_keep_80 : decode cX3_keep 80 = .ok (.istore_n 3, 1) := by decide +kernel
theorem dX3_keep_81 : decode cX3_keep 81 = .ok (.iinc 4 1, 3) := by decide +kernel
theorem dX3_keep_84 : decode cX3_keep 84 = .ok (.goto (-79), 3) := by decide +kernel
theorem dX3_keep_87 : decode cX3_keep 87 = .ok (.return_, 1) := by decide +kernel
theorem iw_X3_keep_X3 : ∀ w ∈ u_ws RX3 TX3 4, w ∈ wsX3_keep := by decide +kernel
theorem lk_X3_keep_0 : Cond.fieldLink RX3 11 (TX3 0).1 (TX3 0).2.1 (TX3 0).2.2.1 ∈ wsX3_keep := by decide +kernel
theorem lk_X3_keep_1 : Cond.fieldLink RX3 15 (TX3 1).1 (TX3 1).2.1 (TX3 1).2.2.1 ∈ wsX3_keep := by decide +kernel
set_option maxRecDepth 100000 in
theorem r_X3_keep_0 {X : Bn} (C : Cx X cX3_keep 7 RX3 wsX3_keep 3 70) (ad : Nat → Nat) (S : MS) (x1 : Int32) (x2 : Int32) (h : At X 7 (cW X.E ad S) 5 [(0, .ref (ad 5)), (1, .int x1), (3, .int x2), (4, .int 0)] []) : At X 7 (cW X.E ad S) 0 [(0, .ref (ad 5)), (1, .int x1), (2, .int x2)] [] := by
  refine at_iload_n C dX3_keep_0 rfl (j := 2) rfl ?_
  refine at_istore_n C dX3_keep_1 rfl (by decide) (lv' := [(3, .int x2), (0, .ref (ad 5)), (1, .int x1), (2, .int x2)]) rfl ?_
  refine at_iconst C dX3_keep_2 (v := 0) rfl ?_
  refine at_istore C dX3_keep_3 (by decide) (lv' := [(4, .int 0), (3, .int x2), (0, .ref (ad 5)), (1, .int x1), (2, .int x2)]) rfl ?_
  refine at_lv [2, 3, 1, 0] rfl ?_
  exact h
set_option maxRecDepth 100000 in
theorem r_X3_keep_5 {X : Bn} (C : Cx X cX3_keep 7 RX3 wsX3_keep 3 70) (ad : Nat → Nat) (S : MS) (x1 : Int32) (x3 : Int32) (x4 : Int32) (h : ((4 ≤ x4) → (Ends X (none) none (cW X.E ad S))) ∧ (¬ 4 ≤ x4 → ((((x1 * 4) + x4 < 0) → (Ends X (none) none (cW X.E ad S))) ∧ (¬ (x1 * 4) + x4 < 0 → ((((x1 * 4) + x4 < 32) → ((vp_in ((x1 * 4) + x4) 32) ∧ (At X 7 (cW X.E ad (pg S 4 (((x1 * 4) + x4).toNatClampNeg) x3)) 46 [(0, .ref (ad 5)), (1, .int x1), (3, .int x3), (4, .int x4), (5, .int ((x1 * 4) + x4)), (6, .int 0)] []))) ∧ (¬ (x1 * 4) + x4 < 32 → (Ends X (none) none (cW X.E ad S)))))))) : At X 7 (cW X.E ad S) 5 [(0, .ref (ad 5)), (1, .int x1), (3, .int x3), (4, .int x4)] [] := by
  refine at_iload C dX3_keep_5 (j := 3) rfl ?_
  refine at_iconst C dX3_keep_7 (v := 4) rfl ?_
  refine at_icmp_ge C dX3_keep_8 (tgt := 87) (by decide) (fun hc0 => ?_) (fun hc0 => ?_)
  · replace h := h.1 hc0
    exact at_vret C dX3_keep_87 h
  · replace h := h.2 hc0
    refine at_iload_n C dX3_keep_11 rfl (j := 1) rfl ?_
    refine at_iconst C dX3_keep_12 (v := 4) rfl ?_
    refine at_imul C dX3_keep_13 ?_
    refine at_iload C dX3_keep_14 (j := 3) rfl ?_
    refine at_iadd C dX3_keep_16 ?_
    refine at_istore C dX3_keep_17 (by decide) (lv' := [(5, .int ((x1 * 4) + x4)), (0, .ref (ad 5)), (1, .int x1), (3, .int x3), (4, .int x4)]) rfl ?_
    refine at_iload C dX3_keep_19 (j := 0) rfl ?_
    refine at_if_lt C dX3_keep_21 (tgt := 34) (by decide) (fun hc1 => ?_) (fun hc1 => ?_)
    · replace h := h.1 hc1
      exact at_vret C dX3_keep_34 h
    · replace h := h.2 hc1
      refine at_iload C dX3_keep_24 (j := 0) rfl ?_
      refine at_aload_n C dX3_keep_26 rfl (j := 1) rfl ?_
      refine at_get C (K := RX3) (T := TX3) (N := 4) (ci := 2) (v := .ref (ad 6)) iw_X3_keep_X3 5 cW_c5 rfl 0 (by decide) lk_X3_keep_0 rfl dX3_keep_27 ?_
      refine at_alen C 6 0 cW_c6 rfl (v := 32) rfl dX3_keep_30 ?_
      refine at_icmp_lt C dX3_keep_31 (tgt := 35) (by decide) (fun hc2 => ?_) (fun hc2 => ?_)
      · replace h := h.1 hc2
        refine at_aload_n C dX3_keep_35 rfl (j := 1) rfl ?_
        refine at_get C (K := RX3) (T := TX3) (N := 4) (ci := 2) (v := .ref (ad 6)) iw_X3_keep_X3 5 cW_c5 rfl 0 (by decide) lk_X3_keep_0 rfl dX3_keep_36 ?_
        refine at_iload C dX3_keep_39 (j := 0) rfl ?_
        refine at_iload_n C dX3_keep_41 rfl (j := 3) rfl ?_
        refine at_iast C 6 cW_c6 h.1 cW_s6 dX3_keep_42 ?_
        replace h := h.2
        refine at_iconst C dX3_keep_43 (v := 0) rfl ?_
        refine at_istore C dX3_keep_44 (by decide) (lv' := [(6, .int 0), (5, .int ((x1 * 4) + x4)), (0, .ref (ad 5)), (1, .int x1), (3, .int x3), (4, .int x4)]) rfl ?_
        refine at_lv [2, 3, 4, 5, 1, 0] rfl ?_
        exact h
      · replace h := h.2 hc2
        exact at_vret C dX3_keep_34 h
set_option maxRecDepth 100000 in
theorem r_X3_keep_46 {X : Bn} (C : Cx X cX3_keep 7 RX3 wsX3_keep 3 70) (ad : Nat → Nat) (S : MS) (x1 : Int32) (x3 : Int32) (x4 : Int32) (x5 : Int32) (x6 : Int32) (h : ((4 ≤ x6) → (At X 7 (cW X.E ad S) 5 [(0, .ref (ad 5)), (1, .int x1), (3, .int (f_X2_turned x3)), (4, .int (x4 + 1))] [])) ∧ (¬ 4 ≤ x6 → ((vp_in ((x5 * 4) + x6) 128) ∧ (At X 7 (cW X.E ad (pg S 5 (((x5 * 4) + x6).toNatClampNeg) (f_X2_sightFrom x3 x6))) 46 [(0, .ref (ad 5)), (1, .int x1), (3, .int x3), (4, .int x4), (5, .int x5), (6, .int (x6 + 1))] [])))) : At X 7 (cW X.E ad S) 46 [(0, .ref (ad 5)), (1, .int x1), (3, .int x3), (4, .int x4), (5, .int x5), (6, .int x6)] [] := by
  refine at_iload C dX3_keep_46 (j := 5) rfl ?_
  refine at_iconst C dX3_keep_48 (v := 4) rfl ?_
  refine at_icmp_ge C dX3_keep_49 (tgt := 76) (by decide) (fun hc3 => ?_) (fun hc3 => ?_)
  · replace h := h.1 hc3
    refine at_iload_n C dX3_keep_76 rfl (j := 2) rfl ?_
    refine at_cS0 C 1 (c_X2_turned X.l X.D X.E X.a1 X.a2 x3) gX3_keep_X2_turned rfl (by decide +kernel) ⟨rfl, rfl⟩ rfl rfl rfl dX3_keep_77 ?_
    refine at_istore_n C dX3_keep_80 rfl (by decide) (lv' := [(3, .int (f_X2_turned x3)), (0, .ref (ad 5)), (1, .int x1), (4, .int x4), (5, .int x5), (6, .int x6)]) rfl ?_
    refine at_iinc C dX3_keep_81 (j := 3) (v := x4 + 1) rfl rfl (by decide) (lv' := [(4, .int (x4 + 1)), (3, .int (f_X2_turned x3)), (0, .ref (ad 5)), (1, .int x1), (5, .int x5), (6, .int x6)]) rfl ?_
    refine at_goto C dX3_keep_84 (tgt := 5) (by decide) ?_
    refine at_lv [2, 3, 1, 0] rfl ?_
    exact h
  · replace h := h.2 hc3
    refine at_aload_n C dX3_keep_52 rfl (j := 0) rfl ?_
    refine at_get C (K := RX3) (T := TX3) (N := 4) (ci := 2) (v := .ref (ad 7)) iw_X3_keep_X3 5 cW_c5 rfl 1 (by decide) lk_X3_keep_1 rfl dX3_keep_53 ?_
    refine at_iload C dX3_keep_56 (j := 4) rfl ?_
    refine at_iconst C dX3_keep_58 (v := 4) rfl ?_
    refine at_imul C dX3_keep_59 ?_
    refine at_iload C dX3_keep_60 (j := 5) rfl ?_
    refine at_iadd C dX3_keep_62 ?_
    refine at_iload_n C dX3_keep_63 rfl (j := 2) rfl ?_
    refine at_iload C dX3_keep_64 (j := 5) rfl ?_
    refine at_cS0 C 2 (c_X2_sightFrom X.l X.D X.E X.a1 X.a2 x3 x6) gX3_keep_X2_sightFrom rfl (by decide +kernel) ⟨rfl, rfl⟩ rfl rfl rfl dX3_keep_66 ?_
    refine at_iast C 7 cW_c7 h.1 cW_s7 dX3_keep_69 ?_
    replace h := h.2
    refine at_iinc C dX3_keep_70 (j := 5) (v := x6 + 1) rfl rfl (by decide) (lv' := [(6, .int (x6 + 1)), (0, .ref (ad 5)), (1, .int x1), (3, .int x3), (4, .int x4), (5, .int x5)]) rfl ?_
    refine at_goto C dX3_keep_73 (tgt := 46) (by decide) ?_
    refine at_lv [1, 2, 3, 4, 5, 0] rfl ?_
    exact h
def trn (t : Nat) (x : Int32) : Int32 := itF (fun _ a => f_X2_turned a) 0 t x
theorem trn_s (t : Nat) (x : Int32) : trn (t + 1) x = f_X2_turned (trn t x) := itF_succ _ t 0 x
def kpR (f : Nat → Int32) (j : Nat) (x : Int32) (m : Nat) : Nat → Int32 := fun p => if 4 * j ≤ p ∧ p < 4 * j + m then trn (p - 4 * j) x else f p
def kpS (f : Nat → Int32) (j : Nat) (x : Int32) (m : Nat) : Nat → Int32 := fun p => if 16 * j ≤ p ∧ p < 16 * j + m then f_X2_sightFrom (trn ((p - 16 * j) / 4) x) (nI ((p - 16 * j) % 4)) else f p
theorem kpR_0 (f : Nat → Int32) (j : Nat) (x : Int32) : kpR f j x 0 = f := by
  funext p; unfold kpR; rw [if_neg (by omega)]
theorem kpS_0 (f : Nat → Int32) (j : Nat) (x : Int32) : kpS f j x 0 = f := by
  funext p; unfold kpS; rw [if_neg (by omega)]
theorem kpR_s (f : Nat → Int32) (j : Nat) (x : Int32) (t : Nat) : upd (kpR f j x t) (4 * j + t) (trn t x) = kpR f j x (t + 1) := by
  funext p
  unfold upd kpR
  by_cases h : p = 4 * j + t
  · rw [if_pos h, if_pos (by omega)]; congr 1; omega
  · rw [if_neg h]
    by_cases h2 : 4 * j ≤ p ∧ p < 4 * j + t
    · rw [if_pos h2, if_pos (by omega)]
    · rw [if_neg h2, if_neg (by omega)]
theorem kpS_s (f : Nat → Int32) (j : Nat) (x : Int32) (t s : Nat) (hs : s < 4) : upd (kpS f j x (4 * t + s)) (16 * j + (4 * t + s)) (f_X2_sightFrom (trn t x) (nI s)) = kpS f j x (4 * t + (s + 1)) := by
  funext p
  unfold upd kpS
  by_cases h : p = 16 * j + (4 * t + s)
  · rw [if_pos h, if_pos (by omega), show (p - 16 * j) / 4 = t by omega, show (p - 16 * j) % 4 = s by omega]
  · rw [if_neg h]
    by_cases h2 : 16 * j ≤ p ∧ p < 16 * j + (4 * t + s)
    · rw [if_pos h2, if_pos (by omega)]
    · rw [if_neg h2, if_neg (by omega)]
def kpW (S : MS) (j : Nat) (x : Int32) (a b : Nat) : MS := setF (setF S 4 (kpR (S.1 4) j x a)) 5 (kpS (S.1 5) j x b)
theorem setF_pg2 {S : MS} {k j i : Nat} {f : Nat → Int32} {x : Int32} (h : j ≠ k) : pg (setF S k f) j i x = setF (pg S j i x) k f := by
  refine Prod.ext ?_ rfl
  funext a b
  show up (setF S k f).1 j i x a b = (if a = k then f else up S.1 j i x a) b
  unfold up setF
  by_cases h1 : a = j
  · subst h1
    rw [if_pos rfl, if_neg h, if_pos rfl]
    show upd ((if a = k then f else S.1 a)) i x b = _
    rw [if_neg h]
  · rw [if_neg h1, if_neg h1]
theorem kpW_r {S : MS} {j : Nat} {x : Int32} {a b : Nat} : pg (kpW S j x a b) 4 (4 * j + a) (trn a x) = kpW S j x (a + 1) b := by
  unfold kpW
  rw [setF_pg2 (by decide), setF_pg, kpR_s]
theorem kpW_s {S : MS} {j : Nat} {x : Int32} {a t s : Nat} (hs : s < 4) : pg (kpW S j x a (4 * t + s)) 5 (16 * j + (4 * t + s)) (f_X2_sightFrom (trn t x) (nI s)) = kpW S j x a (4 * t + (s + 1)) := by
  unfold kpW
  rw [setF_pg, kpS_s _ _ _ _ _ hs]
theorem kpW_0 (S : MS) (j : Nat) (x : Int32) : kpW S j x 0 0 = S := by
  unfold kpW
  rw [kpR_0, kpS_0, setF_self, setF_self]
theorem c_X3_keep (ad : Nat → Nat) (S : MS) {j : Nat} (hj : j < 8) (x : Int32) (l : Launch) (D : va_G) (E : Nat → ClassId) (a1 a2 : Nat) : Fn l D E a1 a2 yX3_keep wsX3_keep 3 70 [.ref (ad 5), .int (nI j), .int x] (cW E ad S) none (cW E ad (kpW S j x 4 16)) := by
  refine Fn.of (cc := cX3_keep) (maxL := 7) (ret := none) (own := RX3) (by decide) rfl rfl (sameC _ _ _ _) (Nat.le_of_ble_eq_true rfl) (fun X q1 q2 q3 q4 q5 C hE => ?_)
  subst q1 q2 q3 q4 q5
  refine r_X3_keep_0 C ad S (nI j) x ?_
  have e4 : ∀ t, nI j * 4 + nI t = nI (4 * j + t) := fun t => by rw [show (4 : Int32) = nI 4 from rfl, pk_mul, nI_add, Nat.mul_comm]
  have outer : ∀ (k t : Nat), t + k = 4 → At X 7 (cW X.E ad (kpW S j x t (4 * t))) 5 [(0, .ref (ad 5)), (1, .int (nI j)), (3, .int (trn t x)), (4, .int (nI t))] [] := by
    intro k
    induction k with
    | zero =>
      intro t ht
      have : t = 4 := by omega
      subst this
      exact r_X3_keep_5 C ad _ _ _ (nI 4) ⟨fun _ => hE, fun q => nle_no q⟩
    | succ k ih =>
      intro t ht
      have ht4 : t < 4 := by omega
      refine r_X3_keep_5 C ad _ (nI j) _ (nI t) ⟨fun q => nlt_no (by decide) ht4 q, fun _ => ?_⟩
      rw [e4 t]
      refine ⟨fun q => absurd q (Int32.not_lt.mpr ((nle (a := 0) (by decide) (by omega)).mpr (Nat.zero_le _))), fun _ => ⟨fun _ => ⟨vp_in_nI (by omega) (by decide), ?_⟩, fun q => absurd ((nlt (b := 32) (by omega) (by decide)).mpr (by omega)) q⟩⟩
      rw [nI_clamp (show 4 * j + t < 2 ^ 31 by omega), kpW_r]
      have inner : ∀ (k2 s : Nat), s + k2 = 4 → At X 7 (cW X.E ad (kpW S j x (t + 1) (4 * t + s))) 46 [(0, .ref (ad 5)), (1, .int (nI j)), (3, .int (trn t x)), (4, .int (nI t)), (5, .int (nI (4 * j + t))), (6, .int (nI s))] [] := by
        intro k2
        induction k2 with
        | zero =>
          intro s hs
          have : s = 4 := by omega
          subst this
          refine r_X3_keep_46 C ad _ (nI j) (trn t x) (nI t) _ (nI 4) ⟨fun _ => ?_, fun q => nle_no q⟩
          rw [nI_1, ← trn_s]
          exact ih (t + 1) (by omega)
        | succ k2 ih2 =>
          intro s hs
          have es : nI (4 * j + t) * 4 + nI s = nI (16 * j + (4 * t + s)) := by rw [show (4 : Int32) = nI 4 from rfl, pk_mul, nI_add]; congr 1; omega
          refine r_X3_keep_46 C ad _ (nI j) (trn t x) (nI t) _ (nI s) ⟨fun q => nlt_no (by decide) (show s < 4 by omega) q, fun _ => ?_⟩
          rw [es, nI_clamp (show 16 * j + (4 * t + s) < 2 ^ 31 by omega), nI_1, kpW_s (by omega)]
          exact ⟨vp_in_nI (by omega) (by decide), ih2 (s + 1) (by omega)⟩
      exact inner 4 0 rfl
  have := outer 4 0 rfl
  rw [show kpW S j x 0 (4 * 0) = S from kpW_0 S j x] at this
  exact this
set_option maxRecDepth 20000 in
theorem ggX3_findFault_X5_at : GoodIn wsX3_findFault wsX5_at := goodIn_r _ [6, 7, 8, 13, 14] (by decide +kernel) (by decide +kernel)
set_option maxRecDepth 20000 in
theorem gX3_findFault_X5_at : GoodIn wsX3_findFault (wsV RX3 34 RX5 yX5_at wsX5_at) := goodIn_app (goodIn_of _ (by decide +kernel)) ggX3_findFault_X5_at
set_option maxRecDepth 20000 in
theorem ggX3_findFault_X3_figure : GoodIn wsX3_findFault wsX3_figure := goodIn_r _ [12] (by decide +kernel) (by decide +kernel)
set_option maxRecDepth 20000 in
theorem gX3_findFault_X3_figure : GoodIn wsX3_findFault (va_wsS RX3 38 yX3_figure wsX3_figure) := goodIn_app (goodIn_of _ (by decide +kernel)) ggX3_findFault_X3_figure
theorem dX3_findFault_0 : decode cX3_findFault 0 = .ok (.aload_n 0, 1) := by decide +kernel
theorem dX3_findFault_1 : decode cX3_findFault 1 = .ok (.getfield 26, 3) := by decide +kernel
theorem dX3_findFault_4 : decode cX3_findFault 4 = .ok (.ifCond .ne 5, 3) := by decide +kernel
theorem dX3_findFault_7 : decode cX3_findFault 7 = .ok (.iconst (-1), 1) := by decide +kernel
theorem dX3_findFault_8 : decode cX3_findFault 8 = .ok (.ireturn, 1) := by decide +kernel
theorem dX3_findFault_9 : decode cX3_findFault 9 = .ok (.iconst 0, 1) := by decide +kernel
theorem dX3_findFault_10 : decode cX3_findFault 10 = .ok (.istore_n 1, 1) := by decide +kernel
theorem dX3_findFault_11 : decode cX3_findFault 11 = .ok (.iconst 0, 1) := by decide +kernel
theorem dX3_findFault_12 : decode cX3_findFault 12 = .ok (.istore_n 2, 1) := by decide +kernel
theorem dX3_findFault_13 : decode cX3_findFault 13 = .ok (.iload_n 2, 1) := by decide +kernel
theorem dX3_findFault_14 : decode cX3_findFault 14 = .ok (.bipush 8, 2) := by decide +kernel
theorem dX3_findFault_16 : decode cX3_findFault 16 = .ok (.if_icmp .ge 85, 3) := by decide +kernel
theorem dX3_findFault_19 : decode cX3_findFault 19 = .ok (.iconst 0, 1) := by decide +kernel
theorem dX3_findFault_20 : decode cX3_findFault 20 = .ok (.istore_n 3, 1) := by decide +kernel
theorem dX3_findFault_21 : decode cX3_findFault 21 = .ok (.iconst 0, 1) := by decide +kernel
theorem dX3_findFault_22 : decode cX3_findFault 22 = .ok (.istore 4, 2) := by decide +kernel
theorem dX3_findFault_24 : decode cX3_findFault 24 = .ok (.iload 4, 2) := by decide +kernel
theorem dX3_findFault_26 : decode cX3_findFault 26 = .ok (.iconst 4, 1) := by decide +kernel
theorem dX3_findFault_27 : decode cX3_findFault 27 = .ok (.if_icmp .ge 35, 3) := by decide +kernel
theorem dX3_findFault_30 : decode cX3_findFault 30 = .ok (.aload_n 0, 1) := by decide +kernel
theorem dX3_findFault_31 : decode cX3_findFault 31 = .ok (.iload_n 1, 1) := by decide +kernel
theorem dX3_findFault_32 : decode cX3_findFault 32 = .ok (.invokevirtual 34, 3) := by decide +kernel
theorem dX3_findFault_35 : decode cX3_findFault 35 = .ok (.invokestatic 38, 3) := by decide +kernel
theorem dX3_findFault_38 : decode cX3_findFault 38 = .ok (.istore 5, 2) := by decide +kernel
theorem dX3_findFault_40 : decode cX3_findFault 40 = .ok (.iload 5, 2) := by decide +kernel
theorem dX3_findFault_42 : decode cX3_findFault 42 = .ok (.iconst (-1), 1) := by decide +kernel
theorem dX3_findFault_43 : decode cX3_findFault 43 = .ok (.if_icmp .ne 5, 3) := by decide +kernel
theorem dX3_findFault_46 : decode cX3_findFault 46 = .ok (.iload_n 1, 1) := by decide +kernel
theorem dX3_findFault_47 : decode cX3_findFault 47 = .ok (.ireturn, 1) := by decide +kernel
theorem dX3_findFault_48 : decode cX3_findFault 48 = .ok (.iload_n 3, 1) := by decide +kernel
theorem dX3_findFault_49 : decode cX3_findFault 49 = .ok (.iload 5, 2) := by decide +kernel
theorem dX3_findFault_51 : decode cX3_findFault 51 = .ok (.ior, 1) := by decide +kernel
theorem dX3_findFault_52 : decode cX3_findFault 52 = .ok (.istore_n 3, 1) := by decide +kernel
theorem dX3_findFault_53 : decode cX3_findFault 53 = .ok (.iinc 1 1, 3) := by decide +kernel
theorem dX3_findFault_56 : decode cX3_findFault 56 = .ok (.iinc 4 1, 3) := by decide +kernel
theorem dX3_findFault_59 : decode cX3_findFault 59 = .ok (.goto (-35), 3) := by decide +kernel
theorem dX3_findFault_62 : decode cX3_findFault 62 = .ok (.iload_n 3, 1) := by decide +kernel
theorem dX3_findFault_63 : decode cX3_findFault 63 = .ok (.ifCond .ne 7, 3) := by decide +kernel
theorem dX3_findFault_66 : decode cX3_findFault 66 = .ok (.iload_n 1, 1) := by decide +kernel
theorem dX3_findFault_67 : decode cX3_findFault 67 = .ok (.iconst 1, 1) := by decide +kernel
theorem dX3_findFault_68 : decode cX3_findFault 68 = .ok (.isub, 1) := by decide +kernel
theorem dX3_findFault_69 : decode cX3_findFault 69 = .ok (.ireturn, 1) := by decide +kernel
theorem dX3_findFault_70 : decode cX3_findFault 70 = .ok (.iload_n 1, 1) := by decide +kernel
theorem dX3_findFault_71 : decode cX3_findFault 71 = .ok (.aload_n 0, 1) := by decide +kernel
theorem dX3_findFault_72 : decode cX3_findFault 72 = .ok (.getfield 26, 3) := by decide +kernel
theorem dX3_findFault_75 : decode cX3_findFault 75 = .ok (.if_icmp .ne 5, 3) := by decide +kernel
theorem dX3_findFault_78 : decode cX3_findFault 78 = .ok (.iconst (-1), 1) := by decide +kernel
theorem dX3_findFault_79 : decode cX3_findFault 79 = .ok (.ireturn, 1) := by decide +kernel
theorem dX3_findFault_80 : decode cX3_findFault 80 = .ok (.aload_n 0, 1) := by decide +kernel
theorem dX3_findFault_81 : decode cX3_findFault 81 = .ok (.iload_n 1, 1) := by decide +kernel
theorem dX3_findFault_82 : decode cX3_findFault 82 = .ok (.invokevirtual 34, 3) := by decide +kernel
theorem dX3_findFault_85 : decode cX3_findFault 85 = .ok (.bipush 59, 2) := by decide +kernel
theorem dX3_findFault_87 : decode cX3_findFault 87 = .ok (.if_icmp .eq 5, 3) := by decide +kernel
theorem dX3_findFault_90 : decode cX3_findFault 90 = .ok (.iload_n 1, 1) := by decide +kernel
theorem dX3_findFault_91 : decode cX3_findFault 91 = .ok (.ireturn, 1) := by decide +kernel
theorem dX3_findFault_92 : decode cX3_findFault 92 = .ok (.iinc 1 1, 3) := by decide +kernel
theorem dX3_findFault_95 : decode cX3_findFault 95 = .ok (.iinc 2 1, 3) := by decide +kernel
theorem dX3_findFault_98 : decode cX3_findFault 98 = .ok (.goto (-85), 3) := by decide +kernel
theorem dX3_findFault_101 : decode cX3_findFault 101 = .ok (.iload_n 1, 1) := by decide +kernel
theorem dX3_findFault_102 : decode cX3_findFault 102 = .ok (.ireturn, 1) := by decide +kernel
theorem iw_X3_findFault_X5 : ∀ w ∈ u_ws RX5 TX5 2, w ∈ wsX3_findFault := by decide +kernel
theorem lk_X3_findFault_0 : Cond.fieldLink RX3 26 (TX5 1).1 (TX5 1).2.1 (TX5 1).2.2.1 ∈ wsX3_findFault := by decide +kernel
set_option maxRecDepth 100000 in
theorem r_X3_findFault_0 {X : Bn} (C : Cx X cX3_findFault 6 RX3 wsX3_findFault 1 21) (ad : Nat → Nat) (S : MS) (h : ((S.1 2 0 = 0) → (Ends X (some .int) (some (.int (-1))) (cW X.E ad S))) ∧ (¬ S.1 2 0 = 0 → (At X 6 (cW X.E ad S) 13 [(0, .ref (ad 1)), (1, .int 0), (2, .int 0)] []))) : At X 6 (cW X.E ad S) 0 [(0, .ref (ad 1))] [] := by
  refine at_aload_n C dX3_findFault_0 rfl (j := 0) rfl ?_
  refine at_get C (K := RX5) (T := TX5) (N := 2) (ci := 4) (v := .int (S.1 2 0)) iw_X3_findFault_X5 1 cW_c1 rfl 1 (by decide) lk_X3_findFault_0 rfl dX3_findFault_1 ?_
  refine at_if_ne C dX3_findFault_4 (tgt := 9) (by decide) (fun hc0 => ?_) (fun hc0 => ?_)
  · replace h := h.2 hc0
    refine at_iconst C dX3_findFault_9 (v := 0) rfl ?_
    refine at_istore_n C dX3_findFault_10 rfl (by decide) (lv' := [(1, .int 0), (0, .ref (ad 1))]) rfl ?_
    refine at_iconst C dX3_findFault_11 (v := 0) rfl ?_
    refine at_istore_n C dX3_findFault_12 rfl (by decide) (lv' := [(2, .int 0), (1, .int 0), (0, .ref (ad 1))]) rfl ?_
    refine at_lv [2, 1, 0] rfl ?_
    exact h
  · replace h := h.1 hc0
    refine at_iconst C dX3_findFault_7 (v := (-1)) rfl ?_
    exact at_iret C dX3_findFault_8 h
set_option maxRecDepth 100000 in
theorem r_X3_findFault_13 {X : Bn} (C : Cx X cX3_findFault 6 RX3 wsX3_findFault 1 21) (ad : Nat → Nat) (S : MS) (x1 : Int32) (x2 : Int32) (h : ((8 ≤ x2) → (Ends X (some .int) (some (.int x1)) (cW X.E ad S))) ∧ (¬ 8 ≤ x2 → (At X 6 (cW X.E ad S) 24 [(0, .ref (ad 1)), (1, .int x1), (2, .int x2), (3, .int 0), (4, .int 0)] []))) : At X 6 (cW X.E ad S) 13 [(0, .ref (ad 1)), (1, .int x1), (2, .int x2)] [] := by
  refine at_iload_n C dX3_findFault_13 rfl (j := 2) rfl ?_
  refine at_bipush C dX3_findFault_14 (v := 8) rfl ?_
  refine at_icmp_ge C dX3_findFault_16 (tgt := 101) (by decide) (fun hc1 => ?_) (fun hc1 => ?_)
  · replace h := h.1 hc1
    refine at_iload_n C dX3_findFault_101 rfl (j := 1) rfl ?_
    exact at_iret C dX3_findFault_102 h
  · replace h := h.2 hc1
    refine at_iconst C dX3_findFault_19 (v := 0) rfl ?_
    refine at_istore_n C dX3_findFault_20 rfl (by decide) (lv' := [(3, .int 0), (0, .ref (ad 1)), (1, .int x1), (2, .int x2)]) rfl ?_
    refine at_iconst C dX3_findFault_21 (v := 0) rfl ?_
    refine at_istore C dX3_findFault_22 (by decide) (lv' := [(4, .int 0), (3, .int 0), (0, .ref (ad 1)), (1, .int x1), (2, .int x2)]) rfl ?_
    refine at_lv [2, 3, 4, 1, 0] rfl ?_
    exact h
set_option maxRecDepth 100000 in
theorem r_X3_findFault_24 {X : Bn} (C : Cx X cX3_findFault 6 RX3 wsX3_findFault 1 21) (ad : Nat → Nat) (S : MS) (x1 : Int32) (x2 : Int32) (x3 : Int32) (x4 : Int32) (h : ((4 ≤ x4) → (((x3 = 0) → (Ends X (some .int) (some (.int (x1 - 1))) (cW X.E ad S))) ∧ (¬ x3 = 0 → (((x1 = S.1 2 0) → (Ends X (some .int) (some (.int (-1))) (cW X.E ad S))) ∧ (¬ x1 = S.1 2 0 → (((f_X5_at S 0 x1 = 59) → (At X 6 (cW X.E ad S) 13 [(0, .ref (ad 1)), (1, .int (x1 + 1)), (2, .int (x2 + 1))] [])) ∧ (¬ f_X5_at S 0 x1 = 59 → (Ends X (some .int) (some (.int x1)) (cW X.E ad S))))))))) ∧ (¬ 4 ≤ x4 → (((f_X3_figure (f_X5_at S 0 x1) = (-1)) → (Ends X (some .int) (some (.int x1)) (cW X.E ad S))) ∧ (¬ f_X3_figure (f_X5_at S 0 x1) = (-1) → (At X 6 (cW X.E ad S) 24 [(0, .ref (ad 1)), (1, .int (x1 + 1)), (2, .int x2), (3, .int (x3 ||| (f_X3_figure (f_X5_at S 0 x1)))), (4, .int (x4 + 1))] []))))) : At X 6 (cW X.E ad S) 24 [(0, .ref (ad 1)), (1, .int x1), (2, .int x2), (3, .int x3), (4, .int x4)] [] := by
  refine at_iload C dX3_findFault_24 (j := 4) rfl ?_
  refine at_iconst C dX3_findFault_26 (v := 4) rfl ?_
  refine at_icmp_ge C dX3_findFault_27 (tgt := 62) (by decide) (fun hc2 => ?_) (fun hc2 => ?_)
  · replace h := h.1 hc2
    refine at_iload_n C dX3_findFault_62 rfl (j := 3) rfl ?_
    refine at_if_ne C dX3_findFault_63 (tgt := 70) (by decide) (fun hc3 => ?_) (fun hc3 => ?_)
    · replace h := h.2 hc3
      refine at_iload_n C dX3_findFault_70 rfl (j := 1) rfl ?_
      refine at_aload_n C dX3_findFault_71 rfl (j := 0) rfl ?_
      refine at_get C (K := RX5) (T := TX5) (N := 2) (ci := 4) (v := .int (S.1 2 0)) iw_X3_findFault_X5 1 cW_c1 rfl 1 (by decide) lk_X3_findFault_0 rfl dX3_findFault_72 ?_
      refine at_icmp_ne C dX3_findFault_75 (tgt := 80) (by decide) (fun hc4 => ?_) (fun hc4 => ?_)
      · replace h := h.2 hc4
        refine at_aload_n C dX3_findFault_80 rfl (j := 0) rfl ?_
        refine at_iload_n C dX3_findFault_81 rfl (j := 1) rfl ?_
        refine at_cV1 C 1 (e_X5_at X.l X.D X.E X.a1 X.a2 ad S 0 (by decide) x1) gX3_findFault_X5_at rfl (by decide +kernel) ⟨rfl, rfl⟩ rfl rfl rfl 1 cW_c1 rfl dX3_findFault_82 ?_
        refine at_bipush C dX3_findFault_85 (v := 59) rfl ?_
        refine at_icmp_eq C dX3_findFault_87 (tgt := 92) (by decide) (fun hc5 => ?_) (fun hc5 => ?_)
        · replace h := h.1 hc5
          refine at_iinc C dX3_findFault_92 (j := 1) (v := x1 + 1) rfl rfl (by decide) (lv' := [(1, .int (x1 + 1)), (0, .ref (ad 1)), (2, .int x2), (3, .int x3), (4, .int x4)]) rfl ?_
          refine at_iinc C dX3_findFault_95 (j := 2) (v := x2 + 1) rfl rfl (by decide) (lv' := [(2, .int (x2 + 1)), (1, .int (x1 + 1)), (0, .ref (ad 1)), (3, .int x3), (4, .int x4)]) rfl ?_
          refine at_goto C dX3_findFault_98 (tgt := 13) (by decide) ?_
          refine at_lv [2, 1, 0] rfl ?_
          exact h
        · replace h := h.2 hc5
          refine at_iload_n C dX3_findFault_90 rfl (j := 1) rfl ?_
          exact at_iret C dX3_findFault_91 h
      · replace h := h.1 hc4
        refine at_iconst C dX3_findFault_78 (v := (-1)) rfl ?_
        exact at_iret C dX3_findFault_79 h
    · replace h := h.1 hc3
      refine at_iload_n C dX3_findFault_66 rfl (j := 1) rfl ?_
      refine at_iconst C dX3_findFault_67 (v := 1) rfl ?_
      refine at_isub C dX3_findFault_68 ?_
      exact at_iret C dX3_findFault_69 h
  · replace h := h.2 hc2
    refine at_aload_n C dX3_findFault_30 rfl (j := 0) rfl ?_
    refine at_iload_n C dX3_findFault_31 rfl (j := 1) rfl ?_
    refine at_cV1 C 1 (e_X5_at X.l X.D X.E X.a1 X.a2 ad S 0 (by decide) x1) gX3_findFault_X5_at rfl (by decide +kernel) ⟨rfl, rfl⟩ rfl rfl rfl 1 cW_c1 rfl dX3_findFault_32 ?_
    refine at_cS0 C 1 (c_X3_figure X.l X.D X.E X.a1 X.a2 (f_X5_at S 0 x1)) gX3_findFault_X3_figure rfl (by decide +kernel) ⟨rfl, rfl⟩ rfl rfl rfl dX3_findFault_35 ?_
    refine at_istore C dX3_findFault_38 (by decide) (lv' := [(5, .int (f_X3_figure (f_X5_at S 0 x1))), (0, .ref (ad 1)), (1, .int x1), (2, .int x2), (3, .int x3), (4, .int x4)]) rfl ?_
    refine at_iload C dX3_findFault_40 (j := 0) rfl ?_
    refine at_iconst C dX3_findFault_42 (v := (-1)) rfl ?_
    refine at_icmp_ne C dX3_findFault_43 (tgt := 48) (by decide) (fun hc6 => ?_) (fun hc6 => ?_)
    · replace h := h.2 hc6
      refine at_iload_n C dX3_findFault_48 rfl (j := 4) rfl ?_
      refine at_iload C dX3_findFault_49 (j := 0) rfl ?_
      refine at_ior C dX3_findFault_51 ?_
      refine at_istore_n C dX3_findFault_52 rfl (by decide) (lv' := [(3, .int (x3 ||| (f_X3_figure (f_X5_at S 0 x1)))), (5, .int (f_X3_figure (f_X5_at S 0 x1))), (0, .ref (ad 1)), (1, .int x1), (2, .int x2), (4, .int x4)]) rfl ?_
      refine at_iinc C dX3_findFault_53 (j := 3) (v := x1 + 1) rfl rfl (by decide) (lv' := [(1, .int (x1 + 1)), (3, .int (x3 ||| (f_X3_figure (f_X5_at S 0 x1)))), (5, .int (f_X3_figure (f_X5_at S 0 x1))), (0, .ref (ad 1)), (2, .int x2), (4, .int x4)]) rfl ?_
      refine at_iinc C dX3_findFault_56 (j := 5) (v := x4 + 1) rfl rfl (by decide) (lv' := [(4, .int (x4 + 1)), (1, .int (x1 + 1)), (3, .int (x3 ||| (f_X3_figure (f_X5_at S 0 x1)))), (5, .int (f_X3_figure (f_X5_at S 0 x1))), (0, .ref (ad 1)), (2, .int x2)]) rfl ?_
      refine at_goto C dX3_findFault_59 (tgt := 24) (by decide) ?_
      refine at_lv [4, 1, 5, 2, 0] rfl ?_
      exact h
    · replace h := h.1 hc6
      refine at_iload_n C dX3_findFault_46 rfl (j := 2) rfl ?_
      exact at_iret C dX3_findFault_47 h
theorem at_eq {S : MS} {k n p : Nat} (hn : n ≤ txN k) (e : S.1 (2 + k) 0 = nI n) (hp : p < 2 ^ 31) : f_X5_at S k (nI p) = hxv (S.1 k) 0 n p := by
  have ht := txN_le k
  unfold f_X5_at hxv
  rw [if_neg (show ¬ nI p < 0 from Int32.not_lt.mpr ((nle (a := 0) (by decide) hp).mpr (Nat.zero_le _))), e]
  by_cases h : p < n
  · rw [show Int32.ofNat (txN k) = nI (txN k) from rfl, if_neg (fun q => absurd ((nle (by omega) hp).mp q) (by omega)), if_neg (fun q => absurd ((nle (a := txN k) (by omega) hp).mp q) (by omega)), if_pos h, nI_clamp hp, Nat.zero_add]
  · rw [if_pos ((nle (by omega) hp).mpr (by omega)), if_neg h]
theorem fig_eq (b : Int32) : f_X3_figure b = figv b := by
  have l1 : b.toInt64 < 48 ↔ b < 48 := by rw [Int64.lt_iff_toInt_lt, Int32.toInt_toInt64, Int32.lt_iff_toInt_lt]; exact Iff.rfl
  have l2 : (57 : Int64) < b.toInt64 ↔ 57 < b := by rw [Int64.lt_iff_toInt_lt, Int32.toInt_toInt64, Int32.lt_iff_toInt_lt]; exact Iff.rfl
  have l3 : b.toInt64 < 97 ↔ b < 97 := by rw [Int64.lt_iff_toInt_lt, Int32.toInt_toInt64, Int32.lt_iff_toInt_lt]; exact Iff.rfl
  have l4 : (102 : Int64) < b.toInt64 ↔ 102 < b := by rw [Int64.lt_iff_toInt_lt, Int32.toInt_toInt64, Int32.lt_iff_toInt_lt]; exact Iff.rfl
  unfold f_X3_figure figv f_X8_in
  by_cases h1 : b < 48 <;> by_cases h2 : 57 < b <;> by_cases h3 : b < 97 <;> by_cases h4 : 102 < b <;> simp [l1, l2, l3, l4, h1, h2, h3, h4]
theorem hxv_in {g : Nat → Int32} {n p : Nat} (h : ¬ figv (hxv g 0 n p) = -1) : p < n := by
  rcases Nat.lt_or_ge p n with q | q
  · exact q
  · exact absurd (by rw [hxv_end q]; decide) h
theorem or0 {a b : Nat} : a ||| b = 0 ↔ a = 0 ∧ b = 0 := by
  constructor
  · intro h
    have h1 : a ≤ a ||| b := Nat.left_le_or
    have h2 : b ≤ a ||| b := Nat.right_le_or
    omega
  · rintro ⟨rfl, rfl⟩; rfl
theorem c_X3_findFault (ad : Nat → Nat) (S : MS) {n : Nat} (hn : n ≤ 40) (e2 : S.1 2 0 = nI n) (l : Launch) (D : va_G) (E : Nat → ClassId) (a1 a2 : Nat) : Fn l D E a1 a2 yX3_findFault wsX3_findFault 1 21 [.ref (ad 1)] (cW E ad S) (some (.int (fault0 (hxv (S.1 0) 0 n) n))) (cW E ad S) := by
  refine Fn.of (cc := cX3_findFault) (maxL := 6) (ret := (some .int)) (own := RX3) (by decide) rfl rfl (sameC _ _ _ _) (Nat.le_of_ble_eq_true rfl) (fun X q1 q2 q3 q4 q5 C hE => ?_)
  subst q1 q2 q3 q4 q5
  have hat : ∀ p, p < 2 ^ 31 → f_X5_at S 0 (nI p) = hxv (S.1 0) 0 n p := fun p hp => at_eq (k := 0) hn e2 hp
  have hlast : ∀ p, ¬ figv (hxv (S.1 0) 0 n p) = -1 → p < n := fun p h => hxv_in h
  generalize hxv (S.1 0) 0 n = hx at hE hat hlast
  unfold fault0 at hE
  by_cases h0 : n = 0
  · rw [if_pos h0] at hE
    exact r_X3_findFault_0 C ad S ⟨fun _ => hE, fun q => absurd (by rw [e2, h0]; rfl) q⟩
  rw [if_neg h0] at hE
  refine r_X3_findFault_0 C ad S ⟨fun q => absurd ((nI_eq (b := 0) (by omega) (by decide)).mp (by rw [← e2]; exact q)) h0, fun _ => ?_⟩
  have inner : ∀ (r p cc w i : Nat), r ≤ 3 → p + r < 1000 → cc < 16 → w < 16 ^ (3 - r) → (cc = 0 ↔ w = 0) →
      ((rsh hx (r + 1) p (nI w)).1 = true → ∀ c2, 0 < c2 → c2 < 16 → At X 6 (cW X.E ad S) 24 [(0, .ref (ad 1)), (1, .int (nI (p + (r + 1)))), (2, .int (nI i)), (3, .int (nI c2)), (4, .int (nI 4))] []) →
      ((rsh hx (r + 1) p (nI w)).1 = false → Ends X (some .int) (some (.int (nI (rsh hx (r + 1) p (nI w)).2.1))) (cW X.E ad S)) →
      At X 6 (cW X.E ad S) 24 [(0, .ref (ad 1)), (1, .int (nI p)), (2, .int (nI i)), (3, .int (nI cc)), (4, .int (nI (3 - r)))] [] := by
    intro r
    induction r with
    | zero =>
      intro p cc w i _ hp hcc hw hcw K F
      refine r_X3_findFault_24 C ad S (nI p) (nI i) (nI cc) (nI 3) ⟨fun q => nlt_no (b := 4) (by decide) (show 3 < 4 by decide) q, fun _ => ?_⟩
      rw [hat p (by omega), fig_eq]
      rw [rsh] at K F
      refine ⟨fun z => ?_, fun z => ?_⟩
      · rw [if_pos z] at F; exact F rfl
      · rw [if_neg z] at K F
        obtain ⟨v, hv, ev⟩ := figv_nI z
        have hw' : w < 4096 := hw
        rw [ev, or_nI, nI_1, nI_1]
        have e16 : (16 : Int32) * nI w + nI v = nI (16 * w + v) := by rw [show (16 : Int32) = nI 16 from rfl, pk_mul, nI_add]
        rw [ev, e16] at K F
        have hz : (nI (16 * w + v) = 0) ↔ 16 * w + v = 0 := nI_eq (b := 0) (by omega) (by decide)
        by_cases y : 16 * w + v = 0
        · rw [if_pos ⟨rfl, hz.mpr y⟩] at F
          have : cc ||| v = 0 := or0.mpr ⟨hcw.mpr (by omega), by omega⟩
          refine r_X3_findFault_24 C ad S (nI (p + 1)) (nI i) (nI (cc ||| v)) (nI 4) ⟨fun _ => ⟨fun _ => ?_, fun q => absurd (by rw [this]; rfl) q⟩, fun q => nle_no q⟩
          rw [show (1 : Int32) = nI 1 from rfl, pk_sub (by omega), show p + 1 - 1 = p by omega]
          exact F rfl
        · rw [if_neg (fun q => y (hz.mp q.2))] at K
          have hne : ¬ cc ||| v = 0 := fun q => y (by have := or0.mp q; have := hcw.mp this.1; omega)
          have hlt : cc ||| v < 16 := Nat.or_lt_two_pow (n := 4) hcc hv
          exact K rfl (cc ||| v) (by omega) hlt
    | succ r ih =>
      intro p cc w i hr hp hcc hw hcw K F
      have h3 : 3 - (r + 1) < 4 := by omega
      refine r_X3_findFault_24 C ad S (nI p) (nI i) (nI cc) (nI (3 - (r + 1))) ⟨fun q => nlt_no (b := 4) (by decide) h3 q, fun _ => ?_⟩
      rw [hat p (by omega), fig_eq]
      rw [rsh] at K F
      refine ⟨fun z => ?_, fun z => ?_⟩
      · rw [if_pos z] at F; exact F rfl
      · rw [if_neg z, if_neg (fun q => by omega)] at K F
        obtain ⟨v, hv, ev⟩ := figv_nI z
        have e16 : (16 : Int32) * nI w + nI v = nI (16 * w + v) := by rw [show (16 : Int32) = nI 16 from rfl, pk_mul, nI_add]
        rw [ev, e16] at K F
        have hlt : cc ||| v < 16 := Nat.or_lt_two_pow (n := 4) hcc hv
        rw [ev, or_nI, nI_1, nI_1, show 3 - (r + 1) + 1 = 3 - r by omega]
        refine ih (p + 1) (cc ||| v) (16 * w + v) i (by omega) (by omega) hlt ?_ ?_ (fun k c2 h1 h2 => ?_) (fun k => F k)
        · have e : 16 ^ (3 - r) = 16 * 16 ^ (3 - (r + 1)) := by rw [show 3 - r = (3 - (r + 1)) + 1 by omega, Nat.pow_succ, Nat.mul_comm]
          rw [e]; omega
        · rw [or0]
          constructor
          · intro q; have := hcw.mp q.1; omega
          · intro q; exact ⟨hcw.mpr (by omega), by omega⟩
        · rw [show p + 1 + (r + 1) = p + (r + 1 + 1) by omega]; exact K k c2 h1 h2
  have outer : ∀ (f i : Nat), f + i = 8 → (fs0 hx n f i).1 = (fs0 hx n 8 0).1 → At X 6 (cW X.E ad S) 13 [(0, .ref (ad 1)), (1, .int (nI (5 * i))), (2, .int (nI i))] [] := by
    intro f
    induction f with
    | zero =>
      intro i hi e
      have : i = 8 := by omega
      subst this
      rw [← e] at hE
      exact r_X3_findFault_13 C ad S _ (nI 8) ⟨fun _ => hE, fun q => nle_no q⟩
    | succ f ih =>
      intro i hi e
      refine r_X3_findFault_13 C ad S _ (nI i) ⟨fun q => nlt_no (b := 8) (by decide) (by omega) q, fun _ => ?_⟩
      rw [fs0] at e
      refine inner 3 (5 * i) 0 0 i (Nat.le_refl _) (by omega) (by decide) (by decide) Iff.rfl (fun k c2 h1 h2 => ?_) (fun k => ?_)
      · rw [show nI 0 = (0 : Int32) from rfl] at k
        rw [if_pos k] at e
        have hin : 5 * i + 3 < n := by
          refine hlast _ (fun z => ?_)
          rw [rsh] at k
          split at k
          · cases k
          · rw [if_neg (fun q => by omega), rsh] at k
            split at k
            · cases k
            · rw [if_neg (fun q => by omega), rsh] at k
              split at k
              · cases k
              · rw [if_neg (fun q => by omega), rsh, show 5 * i + 1 + 1 + 1 = 5 * i + 3 by omega, if_pos z] at k
                cases k
        refine r_X3_findFault_24 C ad S _ (nI i) (nI c2) (nI 4) ⟨fun _ => ⟨fun q => absurd ((nI_eq (b := 0) (by omega) (by decide)).mp q) (by omega), fun _ => ⟨fun q => ?_, fun q => ?_⟩⟩, fun q => nle_no q⟩
        · rw [e2] at q
          have := (nI_eq (by omega) (by omega)).mp q
          rw [if_pos (by omega)] at e
          rw [← e] at hE; exact hE
        · have hq : ¬ 5 * i + 4 = n := fun z => q (by rw [e2, ← z])
          rw [if_neg (by omega)] at e
          rw [show 5 * i + (3 + 1) = 5 * i + 4 by omega, hat _ (by omega)]
          refine ⟨fun z => ?_, fun z => ?_⟩
          · rw [if_pos z] at e
            rw [nI_1, nI_1, show 5 * i + 4 + 1 = 5 * (i + 1) by omega]
            exact ih (i + 1) (by omega) e
          · rw [if_neg z] at e
            rw [← e] at hE; exact hE
      · rw [show nI 0 = (0 : Int32) from rfl] at k ⊢
        rw [if_neg (by rw [k]; decide)] at e
        rw [← e] at hE; exact hE
  exact outer 8 0 rfl rfl
set_option maxRecDepth 20000 in
theorem ggX3_load_X3_findFault : GoodIn wsX3_load wsX3_findFault := goodIn_r _ [7, 2, 8, 9, 10, 11, 12, 13, 14, 15, 16, 6, 17, 42, 43] (by decide +kernel) (by decide +kernel)
set_option maxRecDepth 20000 in
theorem gX3_load_X3_findFault : GoodIn wsX3_load (va_wsS RX3 22 yX3_findFault wsX3_findFault) := goodIn_app (goodIn_of _ (by decide +kernel)) ggX3_load_X3_findFault
set_option maxRecDepth 20000 in
theorem ggX3_load_X5_at : GoodIn wsX3_load wsX5_at := goodIn_r _ [12, 13, 14, 42, 43] (by decide +kernel) (by decide +kernel)
set_option maxRecDepth 20000 in
theorem gX3_load_X5_at : GoodIn wsX3_load (wsV RX3 34 RX5 yX5_at wsX5_at) := goodIn_app (goodIn_of _ (by decide +kernel)) ggX3_load_X5_at
set_option maxRecDepth 20000 in
theorem ggX3_load_X3_figure : GoodIn wsX3_load wsX3_figure := goodIn_r _ [17] (by decide +kernel) (by decide +kernel)
set_option maxRecDepth 20000 in
theorem gX3_load_X3_figure : GoodIn wsX3_load (va_wsS RX3 38 yX3_figure wsX3_figure) := goodIn_app (goodIn_of _ (by decide +kernel)) ggX3_load_X3_figure
set_option maxRecDepth 20000 in
theorem ggX3_load_X3_keep : GoodIn wsX3_load wsX3_keep := goodIn_r _ [21, 22, 23, 24, 25, 26, 27, 28, 29, 30, 31, 32, 33, 34, 35, 36, 37, 38, 39, 40, 41] (by decide +kernel) (by decide +kernel)
set_option maxRecDepth 20000 in
theorem gX3_load_X3_keep : GoodIn wsX3_load (wsV RX3 41 RX3 yX3_keep wsX3_keep) := goodIn_app (goodIn_of _ (by decide +kernel)) ggX3_load_X3_keep
theorem dX3_load_0 : decode cX3_load 0 = .ok (.aload_n 0, 1) := by decide +kernel
theorem dX3_load_1 : decode cX3_load 1 = .ok (.aload_n 1, 1) := by decide +kernel
theorem dX3_load_2 : decode cX3_load 2 = .ok (.invokestatic 22, 3) := by decide +kernel
theorem dX3_load_5 : decode cX3_load 5 = .ok (.putfield 18, 3) := by decide +kernel
theorem dX3_load_8 : decode cX3_load 8 = .ok (.aload_n 0, 1) := by decide +kernel
theorem dX3_load_9 : decode cX3_load 9 = .ok (.aload_n 0, 1) := by decide +kernel
theorem dX3_load_10 : decode cX3_load 10 = .ok (.getfield 18, 3) := by decide +kernel
theorem dX3_load_13 : decode cX3_load 13 = .ok (.iconst (-1), 1) := by decide +kernel
theorem dX3_load_14 : decode cX3_load 14 = .ok (.if_icmp .ne 14, 3) := by decide +kernel
theorem dX3_load_17 : decode cX3_load 17 = .ok (.aload_n 1, 1) := by decide +kernel
theorem dX3_load_18 : decode cX3_load 18 = .ok (.getfield 26, 3) := by decide +kernel
theorem dX3_load_21 : decode cX3_load 21 = .ok (.iconst 1, 1) := by decide +kernel
theorem dX3_load_22 : decode cX3_load 22 = .ok (.iadd, 1) := by decide +kernel
theorem dX3_load_23 : decode cX3_load 23 = .ok (.iconst 5, 1) := by decide +kernel
theorem dX3_load_24 : decode cX3_load 24 = .ok (.idiv, 1) := by decide +kernel
theorem dX3_load_25 : decode cX3_load 25 = .ok (.goto 4, 3) := by decide +kernel
theorem dX3_load_28 : decode cX3_load 28 = .ok (.iconst 0, 1) := by decide +kernel
theorem dX3_load_29 : decode cX3_load 29 = .ok (.putfield 31, 3) := by decide +kernel
theorem dX3_load_32 : decode cX3_load 32 = .ok (.iconst 0, 1) := by decide +kernel
theorem dX3_load_33 : decode cX3_load 33 = .ok (.istore_n 2, 1) := by decide +kernel
theorem dX3_load_34 : decode cX3_load 34 = .ok (.iload_n 2, 1) := by decide +kernel
theorem dX3_load_35 : decode cX3_load 35 = .ok (.aload_n 0, 1) := by decide +kernel
theorem dX3_load_36 : decode cX3_load 36 = .ok (.getfield 31, 3) := by decide +kernel
theorem dX3_load_39 : decode cX3_load 39 = .ok (.if_icmp .ge 57, 3) := by decide +kernel
theorem dX3_load_42 : decode cX3_load 42 = .ok (.iload_n 2, 1) := by decide +kernel
theorem dX3_load_43 : decode cX3_load 43 = .ok (.bipush 8, 2) := by decide +kernel
theorem dX3_load_45 : decode cX3_load 45 = .ok (.if_icmp .ge 51, 3) := by decide +kernel
theorem dX3_load_48 : decode cX3_load 48 = .ok (.iconst 0, 1) := by decide +kernel
theorem dX3_load_49 : decode cX3_load 49 = .ok (.istore_n 3, 1) := by decide +kernel
theorem dX3_load_50 : decode cX3_load 50 = .ok (.iconst 0, 1) := by decide +kernel
theorem dX3_load_51 : decode cX3_load 51 = .ok (.istore 4, 2) := by decide +kernel
theorem dX3_load_53 : decode cX3_load 53 = .ok (.iload 4, 2) := by decide +kernel
theorem dX3_load_55 : decode cX3_load 55 = .ok (.iconst 4, 1) := by decide +kernel
theorem dX3_load_56 : decode cX3_load 56 = .ok (.if_icmp .ge 28, 3) := by decide +kernel
theorem dX3_load_59 : decode cX3_load 59 = .ok (.bipush 16, 2) := by decide +kernel
theorem dX3_load_61 : decode cX3_load 61 = .ok (.iload_n 3, 1) := by decide +kernel
theorem dX3_load_62 : decode cX3_load 62 = .ok (.imul, 1) := by decide +kernel
theorem dX3_load_63 : decode cX3_load 63 = .ok (.aload_n 1, 1) := by decide +kernel
theorem dX3_load_64 : decode cX3_load 64 = .ok (.iload_n 2, 1) := by decide +kernel
theorem dX3_load_65 : decode cX3_load 65 = .ok (.iconst 5, 1) := by decide +kernel
theorem dX3_load_66 : decode cX3_load 66 = .ok (.imul, 1) := by decide +kernel
theorem dX3_load_67 : decode cX3_load 67 = .ok (.iload 4, 2) := by decide +kernel
theorem dX3_load_69 : decode cX3_load 69 = .ok (.iadd, 1) := by decide +kernel
theorem dX3_load_70 : decode cX3_load 70 = .ok (.invokevirtual 34, 3) := by decide +kernel
theorem dX3_load_73 : decode cX3_load 73 = .ok (.invokestatic 38, 3) := by decide +kernel
theorem dX3_load_76 : decode cX3_load 76 = .ok (.iadd, 1) := by decide +kernel
theorem dX3_load_77 : decode cX3_load 77 = .ok (.istore_n 3, 1) := by decide +kernel
theorem dX3_load_78 : decode cX3_load 78 = .ok (.iinc 4 1, 3) := by decide +kernel
theorem dX3_load_81 : decode cX3_load 81 = .ok (.goto (-28), 3) := by decide +kernel
theorem dX3_load_84 : decode cX3_load 84 = .ok (.aload_n 0, 1) := by decide +kernel
theorem dX3_load_85 : decode cX3_load 85 = .ok (.iload_n 2, 1) := by decide +kernel
theorem dX3_load_86 : decode cX3_load 86 = .ok (.iload_n 3, 1) := by decide +kernel
theorem dX3_load_87 : decode cX3_load 87 = .ok (.invokevirtual 41, 3) := by decide +kernel
theorem dX3_load_90 : decode cX3_load 90 = .ok (.iinc 2 1, 3) := by decide +kernel
theorem dX3_load_93 : decode cX3_load 93 = .ok (.goto (-59), 3) := by decide +kernel
theorem dX3_load_96 : decode cX3_load 96 = .ok (.return_, 1) := by decide +kernel
theorem iw_X3_load_X3 : ∀ w ∈ u_ws RX3 TX3 4, w ∈ wsX3_load := by decide +kernel
theorem iw_X3_load_X5 : ∀ w ∈ u_ws RX5 TX5 2, w ∈ wsX3_load := by decide +kernel
theorem lk_X3_load_0 : Cond.fieldLink RX3 18 (TX3 3).1 (TX3 3).2.1 (TX3 3).2.2.1 ∈ wsX3_load := by decide +kernel
theorem lk_X3_load_1 : Cond.fieldLink RX3 26 (TX5 1).1 (TX5 1).2.1 (TX5 1).2.2.1 ∈ wsX3_load := by decide +kernel
theorem lk_X3_load_2 : Cond.fieldLink RX3 31 (TX3 2).1 (TX3 2).2.1 (TX3 2).2.2.1 ∈ wsX3_load := by decide +kernel
set_option maxRecDepth 100000 in
theorem r_X3_load_0 {X : Bn} (C : Cx X cX3_load 5 RX3 wsX3_load 4 96) (ad : Nat → Nat) (S : MS) (h : ∃ (r1 : Int32), (Fn X.l X.D X.E X.a1 X.a2 yX3_findFault wsX3_findFault 1 21 [.ref (ad 1)] (cW X.E ad S) (some (.int r1)) (cW X.E ad S)) ∧ (At X 5 (cW X.E ad (pg (pg S 7 0 r1) 6 0 (if r1 = (-1) then ((S.1 2 0) + 1) / 5 else 0))) 34 [(0, .ref (ad 5)), (1, .ref (ad 1)), (2, .int 0)] [])) : At X 5 (cW X.E ad S) 0 [(0, .ref (ad 5)), (1, .ref (ad 1))] [] := by
  refine at_aload_n C dX3_load_0 rfl (j := 0) rfl ?_
  refine at_aload_n C dX3_load_1 rfl (j := 1) rfl ?_
  obtain ⟨r1, hF1, h⟩ := h
  refine at_cS1 C 1 hF1 gX3_load_X3_findFault rfl (by decide +kernel) ⟨rfl, rfl⟩ rfl rfl rfl dX3_load_2 ?_
  refine at_put C (K := RX3) (T := TX3) (N := 4) (ci := 2) (ty := .int) iw_X3_load_X3 tyX3 tyX3_ok nmX3 5 cW_c5 rfl 3 (by decide) lk_X3_load_0 rfl rfl rfl rfl (Nat.le_of_ble_eq_true rfl) cW_f5_3 dX3_load_5 ?_
  refine at_aload_n C dX3_load_8 rfl (j := 0) rfl ?_
  refine at_aload_n C dX3_load_9 rfl (j := 0) rfl ?_
  refine at_get C (K := RX3) (T := TX3) (N := 4) (ci := 2) (v := .int ((pg S 7 0 r1).1 7 0)) iw_X3_load_X3 5 cW_c5 rfl 3 (by decide) lk_X3_load_0 rfl dX3_load_10 ?_
  refine at_topI (pg_s) ?_
  refine at_iconst C dX3_load_13 (v := (-1)) rfl ?_
  have K : At X 5 (cW X.E ad (pg S 7 0 r1)) 29 [(0, .ref (ad 5)), (1, .ref (ad 1))] [.int (if r1 = (-1) then ((S.1 2 0) + 1) / 5 else 0), .ref (ad 5)] := by
    refine at_put C (K := RX3) (T := TX3) (N := 4) (ci := 2) (ty := .int) iw_X3_load_X3 tyX3 tyX3_ok nmX3 5 cW_c5 rfl 2 (by decide) lk_X3_load_2 rfl rfl rfl rfl (Nat.le_of_ble_eq_true rfl) cW_f5_2 dX3_load_29 ?_
    refine at_iconst C dX3_load_32 (v := 0) rfl ?_
    refine at_istore_n C dX3_load_33 rfl (by decide) (lv' := [(2, .int 0), (0, .ref (ad 5)), (1, .ref (ad 1))]) rfl ?_
    refine at_lv [1, 2, 0] rfl ?_
    exact h
  refine at_icmp_ne C dX3_load_14 (tgt := 28) (by decide) (fun hc0 => ?_) (fun hc0 => ?_)
  · skip
    refine at_iconst C dX3_load_28 (v := 0) rfl ?_
    first | (simp only [if_neg hc0] at K; exact K) | exact K
  · skip
    refine at_aload_n C dX3_load_17 rfl (j := 1) rfl ?_
    refine at_get C (K := RX5) (T := TX5) (N := 2) (ci := 4) (v := .int ((pg S 7 0 r1).1 2 0)) iw_X3_load_X5 1 cW_c1 rfl 1 (by decide) lk_X3_load_1 rfl dX3_load_18 ?_
    refine at_topI (pg_o (by decide)) ?_
    refine at_iconst C dX3_load_21 (v := 1) rfl ?_
    refine at_iadd C dX3_load_22 ?_
    refine at_iconst C dX3_load_23 (v := 5) rfl ?_
    refine at_idiv C dX3_load_24 (by decide) ?_
    refine at_goto C dX3_load_25 (tgt := 29) (by decide) ?_
    first | (simp only [if_pos hc0] at K; exact K) | exact K
set_option maxRecDepth 100000 in
theorem r_X3_load_34 {X : Bn} (C : Cx X cX3_load 5 RX3 wsX3_load 4 96) (ad : Nat → Nat) (S : MS) (x2 : Int32) (h : ((S.1 6 0 ≤ x2) → (Ends X (none) none (cW X.E ad S))) ∧ (¬ S.1 6 0 ≤ x2 → (((8 ≤ x2) → (Ends X (none) none (cW X.E ad S))) ∧ (¬ 8 ≤ x2 → (At X 5 (cW X.E ad S) 53 [(0, .ref (ad 5)), (1, .ref (ad 1)), (2, .int x2), (3, .int 0), (4, .int 0)] []))))) : At X 5 (cW X.E ad S) 34 [(0, .ref (ad 5)), (1, .ref (ad 1)), (2, .int x2)] [] := by
  refine at_iload_n C dX3_load_34 rfl (j := 2) rfl ?_
  refine at_aload_n C dX3_load_35 rfl (j := 0) rfl ?_
  refine at_get C (K := RX3) (T := TX3) (N := 4) (ci := 2) (v := .int (S.1 6 0)) iw_X3_load_X3 5 cW_c5 rfl 2 (by decide) lk_X3_load_2 rfl dX3_load_36 ?_
  refine at_icmp_ge C dX3_load_39 (tgt := 96) (by decide) (fun hc0 => ?_) (fun hc0 => ?_)
  · replace h := h.1 hc0
    exact at_vret C dX3_load_96 h
  · replace h := h.2 hc0
    refine at_iload_n C dX3_load_42 rfl (j := 2) rfl ?_
    refine at_bipush C dX3_load_43 (v := 8) rfl ?_
    refine at_icmp_ge C dX3_load_45 (tgt := 96) (by decide) (fun hc1 => ?_) (fun hc1 => ?_)
    · replace h := h.1 hc1
      exact at_vret C dX3_load_96 h
    · replace h := h.2 hc1
      refine at_iconst C dX3_load_48 (v := 0) rfl ?_
      refine at_istore_n C dX3_load_49 rfl (by decide) (lv' := [(3, .int 0), (0, .ref (ad 5)), (1, .ref (ad 1)), (2, .int x2)]) rfl ?_
      refine at_iconst C dX3_load_50 (v := 0) rfl ?_
      refine at_istore C dX3_load_51 (by decide) (lv' := [(4, .int 0), (3, .int 0), (0, .ref (ad 5)), (1, .ref (ad 1)), (2, .int x2)]) rfl ?_
      refine at_lv [2, 3, 4, 1, 0] rfl ?_
      exact h
set_option maxRecDepth 100000 in
theorem r_X3_load_53 {X : Bn} (C : Cx X cX3_load 5 RX3 wsX3_load 4 96) (ad : Nat → Nat) (S : MS) (x2 : Int32) (x3 : Int32) (x4 : Int32) (h : ((4 ≤ x4) → (∃ (S2 : MS), (Fn X.l X.D X.E X.a1 X.a2 yX3_keep wsX3_keep 3 70 [.ref (ad 5), .int x2, .int x3] (cW X.E ad S) none (cW X.E ad S2)) ∧ (At X 5 (cW X.E ad S2) 34 [(0, .ref (ad 5)), (1, .ref (ad 1)), (2, .int (x2 + 1))] []))) ∧ (¬ 4 ≤ x4 → (At X 5 (cW X.E ad S) 53 [(0, .ref (ad 5)), (1, .ref (ad 1)), (2, .int x2), (3, .int ((16 * x3) + (f_X3_figure (f_X5_at S 0 ((x2 * 5) + x4))))), (4, .int (x4 + 1))] []))) : At X 5 (cW X.E ad S) 53 [(0, .ref (ad 5)), (1, .ref (ad 1)), (2, .int x2), (3, .int x3), (4, .int x4)] [] := by
  refine at_iload C dX3_load_53 (j := 4) rfl ?_
  refine at_iconst C dX3_load_55 (v := 4) rfl ?_
  refine at_icmp_ge C dX3_load_56 (tgt := 84) (by decide) (fun hc2 => ?_) (fun hc2 => ?_)
  · replace h := h.1 hc2
    refine at_aload_n C dX3_load_84 rfl (j := 0) rfl ?_
    refine at_iload_n C dX3_load_85 rfl (j := 2) rfl ?_
    refine at_iload_n C dX3_load_86 rfl (j := 3) rfl ?_
    obtain ⟨S2, hF2, h⟩ := h
    refine at_cV1v C 2 hF2 gX3_load_X3_keep rfl (by decide +kernel) ⟨rfl, rfl⟩ rfl rfl rfl 5 cW_c5 rfl dX3_load_87 ?_
    refine at_iinc C dX3_load_90 (j := 2) (v := x2 + 1) rfl rfl (by decide) (lv' := [(2, .int (x2 + 1)), (0, .ref (ad 5)), (1, .ref (ad 1)), (3, .int x3), (4, .int x4)]) rfl ?_
    refine at_goto C dX3_load_93 (tgt := 34) (by decide) ?_
    refine at_lv [1, 2, 0] rfl ?_
    exact h
  · replace h := h.2 hc2
    refine at_bipush C dX3_load_59 (v := 16) rfl ?_
    refine at_iload_n C dX3_load_61 rfl (j := 3) rfl ?_
    refine at_imul C dX3_load_62 ?_
    refine at_aload_n C dX3_load_63 rfl (j := 1) rfl ?_
    refine at_iload_n C dX3_load_64 rfl (j := 2) rfl ?_
    refine at_iconst C dX3_load_65 (v := 5) rfl ?_
    refine at_imul C dX3_load_66 ?_
    refine at_iload C dX3_load_67 (j := 4) rfl ?_
    refine at_iadd C dX3_load_69 ?_
    refine at_cV1 C 1 (e_X5_at X.l X.D X.E X.a1 X.a2 ad S 0 (by decide) ((x2 * 5) + x4)) gX3_load_X5_at rfl (by decide +kernel) ⟨rfl, rfl⟩ rfl rfl rfl 1 cW_c1 rfl dX3_load_70 ?_
    refine at_cS0 C 1 (c_X3_figure X.l X.D X.E X.a1 X.a2 (f_X5_at S 0 ((x2 * 5) + x4))) gX3_load_X3_figure rfl (by decide +kernel) ⟨rfl, rfl⟩ rfl rfl rfl dX3_load_73 ?_
    refine at_iadd C dX3_load_76 ?_
    refine at_istore_n C dX3_load_77 rfl (by decide) (lv' := [(3, .int ((16 * x3) + (f_X3_figure (f_X5_at S 0 ((x2 * 5) + x4))))), (0, .ref (ad 5)), (1, .ref (ad 1)), (2, .int x2), (4, .int x4)]) rfl ?_
    refine at_iinc C dX3_load_78 (j := 4) (v := x4 + 1) rfl rfl (by decide) (lv' := [(4, .int (x4 + 1)), (3, .int ((16 * x3) + (f_X3_figure (f_X5_at S 0 ((x2 * 5) + x4))))), (0, .ref (ad 5)), (1, .ref (ad 1)), (2, .int x2)]) rfl ?_
    refine at_goto C dX3_load_81 (tgt := 53) (by decide) ?_
    refine at_lv [2, 3, 4, 1, 0] rfl ?_
    exact h
theorem rsh_in {g : Nat → Int32} {n i : Nat} (k : (rsh (hxv g 0 n) 4 (5 * i) 0).1 = true) : 5 * i + 3 < n := by
  refine hxv_in (g := g) (fun z => ?_)
  rw [rsh] at k
  split at k
  · cases k
  · rw [if_neg (fun q => by omega), rsh] at k
    split at k
    · cases k
    · rw [if_neg (fun q => by omega), rsh] at k
      split at k
      · cases k
      · rw [if_neg (fun q => by omega), rsh, show 5 * i + 1 + 1 + 1 = 5 * i + 3 by omega, if_pos z] at k
        cases k
/-- how many shapes there are, by the text's length -/
theorem count0_len (g : Nat → Int32) {n : Nat} (hn : n ≤ 40) : (fault0 (hxv g 0 n) n = -1 ∧ (n + 1) / 5 = count0 (hxv g 0 n) n) ∨ (¬ fault0 (hxv g 0 n) n = -1 ∧ count0 (hxv g 0 n) n = 0) := by
  have h : ∀ f i, f + i = 8 → ((fs0 (hxv g 0 n) n f i).1 = -1 ∧ (n + 1) / 5 = (fs0 (hxv g 0 n) n f i).2) ∨ (¬ (fs0 (hxv g 0 n) n f i).1 = -1 ∧ (fs0 (hxv g 0 n) n f i).2 = 0) := by
    intro f
    induction f with
    | zero => intro i hi; exact Or.inr ⟨nm1 (by omega), rfl⟩
    | succ f ih =>
      intro i hi
      rw [fs0]
      split
      · rename_i k
        have := rsh_in k
        split
        · exact Or.inl ⟨rfl, by show (n + 1) / 5 = i + 1; omega⟩
        · split
          · exact ih (i + 1) (by omega)
          · exact Or.inr ⟨nm1 (by omega), rfl⟩
      · rename_i k
        have := (rsh_le (hxv g 0 n) 4 (5 * i) 0).1
        exact Or.inr ⟨nm1 (by omega), rfl⟩
  unfold fault0 count0
  by_cases h0 : n = 0
  · rw [if_pos h0, if_pos h0]; exact Or.inl ⟨rfl, by omega⟩
  · rw [if_neg h0, if_neg h0]; exact h 8 0 rfl
theorem count0_ok (hx : Nat → Int32) (n : Nat) {j : Nat} (hj : j < count0 hx n) : (rsh hx 4 (5 * j) 0).1 = true := by
  have h : ∀ f i, (∀ j, j < i → (rsh hx 4 (5 * j) 0).1 = true) → ∀ j, j < (fs0 hx n f i).2 → (rsh hx 4 (5 * j) 0).1 = true := by
    intro f
    induction f with
    | zero => intro i _ j hj; exact absurd hj (Nat.not_lt_zero j)
    | succ f ih =>
      intro i hi j hj
      rw [fs0] at hj
      by_cases k : (rsh hx 4 (5 * i) 0).1 = true
      · rw [if_pos k] at hj
        have hi1 : ∀ j, j < i + 1 → (rsh hx 4 (5 * j) 0).1 = true := fun j hj => by
          rcases Nat.lt_or_ge j i with q | q
          · exact hi j q
          · rw [show j = i by omega]; exact k
        by_cases q : n ≤ 5 * i + 4
        · rw [if_pos q] at hj; exact hi1 j hj
        · rw [if_neg q] at hj
          by_cases q2 : hx (5 * i + 4) = 59
          · rw [if_pos q2] at hj; exact ih (i + 1) hi1 j hj
          · rw [if_neg q2] at hj; exact absurd hj (Nat.not_lt_zero j)
      · rw [if_neg k] at hj; exact absurd hj (Nat.not_lt_zero j)
  unfold count0 at hj
  by_cases h0 : n = 0
  · rw [if_pos h0] at hj; exact absurd hj (Nat.not_lt_zero j)
  · rw [if_neg h0] at hj; exact h 8 0 (fun j hj => absurd hj (Nat.not_lt_zero j)) j hj
/-- what Shapes.load leaves -/
def ldS (hx : Nat → Int32) (n : Nat) (S S' : MS) : Prop := S'.1 7 0 = fault0 hx n ∧ S'.1 6 0 = nI (count0 hx n) ∧ (∀ j, j < count0 hx n → ∀ t, t < 4 → S'.1 4 (4 * j + t) = trn t (told0 hx j) ∧ ∀ s, s < 4 → S'.1 5 (16 * j + (4 * t + s)) = f_X2_sightFrom (trn t (told0 hx j)) (nI s)) ∧ (∀ k, k ≠ 4 → k ≠ 5 → k ≠ 6 → k ≠ 7 → S'.1 k = S.1 k) ∧ S'.2 = S.2
theorem rsh_told (hx : Nat → Int32) : ∀ (k p : Nat) (w : Int32), (rsh hx k p w).1 = true → (rsh hx k p w).2.2 = itF (fun i a => 16 * a + figv (hx (p + i))) 0 k w := by
  have sh : ∀ (k i p : Nat) (w : Int32), itF (fun i a => 16 * a + figv (hx (p + i))) (i + 1) k w = itF (fun i a => 16 * a + figv (hx (p + 1 + i))) i k w := by
    intro k
    induction k with
    | zero => intro i p w; rfl
    | succ k ih =>
      intro i p w
      show itF _ (i + 1 + 1) k (16 * w + figv (hx (p + (i + 1)))) = itF _ (i + 1) k (16 * w + figv (hx (p + 1 + i)))
      rw [ih, show p + (i + 1) = p + 1 + i by omega]
  intro k
  induction k with
  | zero => intro p w _; rfl
  | succ k ih =>
    intro p w h
    rw [rsh] at h ⊢
    split at h
    · cases h
    · rename_i q
      rw [if_neg q]
      split at h
      · cases h
      · rename_i q2
        rw [if_neg q2, ih _ _ h]
        show _ = itF _ (0 + 1) k (16 * w + figv (hx (p + 0)))
        rw [sh]
        rfl
theorem c_X3_load (ad : Nat → Nat) (S : MS) {n : Nat} (hn : n ≤ 40) (e2 : S.1 2 0 = nI n) :
    ∃ S', ldS (hxv (S.1 0) 0 n) n S S' ∧ ∀ (l : Launch) (D : va_G) (E : Nat → ClassId) (a1 a2 : Nat), Fn l D E a1 a2 yX3_load wsX3_load 4 96 [.ref (ad 5), .ref (ad 1)] (cW E ad S) none (cW E ad S') := by
  generalize hhx : hxv (S.1 0) 0 n = hx
  have hcl := count0_len (S.1 0) hn
  rw [hhx] at hcl
  have hc8 := count0_le hx n
  have loop : ∀ (k i : Nat) (T : MS), i + k = count0 hx n → T.1 6 0 = nI (count0 hx n) → T.1 2 0 = nI n → T.1 0 = S.1 0 →
      ∃ S', ((∀ j, j < i → (∀ p, p < 4 → S'.1 4 (4 * j + p) = T.1 4 (4 * j + p)) ∧ ∀ p, p < 16 → S'.1 5 (16 * j + p) = T.1 5 (16 * j + p)) ∧ (∀ j, i ≤ j → j < count0 hx n → ∀ t, t < 4 → S'.1 4 (4 * j + t) = trn t (told0 hx j) ∧ ∀ s, s < 4 → S'.1 5 (16 * j + (4 * t + s)) = f_X2_sightFrom (trn t (told0 hx j)) (nI s)) ∧ (∀ k, k ≠ 4 → k ≠ 5 → S'.1 k = T.1 k) ∧ S'.2 = T.2) ∧
        ∀ X : Bn, Cx X cX3_load 5 RX3 wsX3_load 4 96 → Ends X none none (cW X.E ad S') → At X 5 (cW X.E ad T) 34 [(0, .ref (ad 5)), (1, .ref (ad 1)), (2, .int (nI i))] [] := by
    intro k
    induction k with
    | zero =>
      intro i T hi t6 t2 t0
      refine ⟨T, ⟨fun j _ => ⟨fun _ _ => rfl, fun _ _ => rfl⟩, fun j h1 h2 => by omega, fun _ _ _ => rfl, rfl⟩, fun X C hE => ?_⟩
      exact r_X3_load_34 C ad T (nI i) ⟨fun _ => hE, fun q => absurd (by rw [t6, show i = count0 hx n by omega]; exact Int32.le_refl _) q⟩
    | succ k ih =>
      intro i T hi t6 t2 t0
      have kp4 : ∀ j t, t < 4 → j ≠ i → (kpW T i (told0 hx i) 4 16).1 4 (4 * j + t) = T.1 4 (4 * j + t) := fun j t ht hj => by
        unfold kpW; rw [setF_o (by decide), setF_k]; unfold kpR; rw [if_neg (by omega)]
      have kp5 : ∀ j p, p < 16 → j ≠ i → (kpW T i (told0 hx i) 4 16).1 5 (16 * j + p) = T.1 5 (16 * j + p) := fun j p hp hj => by
        unfold kpW; rw [setF_k]; unfold kpS; rw [if_neg (by omega)]
      have kpo : ∀ k, k ≠ 4 → k ≠ 5 → (kpW T i (told0 hx i) 4 16).1 k = T.1 k := fun k k4 k5 => by
        unfold kpW; rw [setF_o k5, setF_o k4]
      obtain ⟨S', ⟨g1, g2, g3, g4⟩, hF⟩ := ih (i + 1) (kpW T i (told0 hx i) 4 16) (by omega) (by rw [kpo 6 (by decide) (by decide)]; exact t6) (by rw [kpo 2 (by decide) (by decide)]; exact t2) (by rw [kpo 0 (by decide) (by decide)]; exact t0)
      refine ⟨S', ⟨fun j hj => ⟨fun p hp => ?_, fun p hp => ?_⟩, fun j h1 h2 t ht => ?_, fun k k4 k5 => by rw [g3 k k4 k5, kpo k k4 k5], by rw [g4]; rfl⟩, fun X C hE => ?_⟩
      · rw [(g1 j (by omega)).1 p hp, kp4 j p hp (by omega)]
      · rw [(g1 j (by omega)).2 p hp, kp5 j p hp (by omega)]
      · rcases Nat.lt_or_ge i j with q | q
        · exact g2 j q h2 t ht
        · have : j = i := by omega
          subst this
          refine ⟨?_, fun s hs => ?_⟩
          · rw [(g1 j (by omega)).1 t ht]
            unfold kpW; rw [setF_o (by decide), setF_k]; unfold kpR; rw [if_pos (by omega), show 4 * j + t - 4 * j = t by omega]
          · rw [(g1 j (by omega)).2 _ (by omega)]
            unfold kpW; rw [setF_k]; unfold kpS; rw [if_pos (by omega), show (16 * j + (4 * t + s) - 16 * j) / 4 = t by omega, show (16 * j + (4 * t + s) - 16 * j) % 4 = s by omega]
      · refine r_X3_load_34 C ad T (nI i) ⟨fun q => nlt_no (a := i) (b := count0 hx n) (by omega) (by omega) (by rw [← t6]; exact q), fun _ => ⟨fun q => nlt_no (a := i) (b := 8) (by decide) (by omega) q, fun _ => ?_⟩⟩
        have hok := count0_ok hx n (j := i) (by omega)
        have hin : 5 * i + 3 < n := rsh_in (g := S.1 0) (by rw [hhx]; exact hok)
        refine for_go (P := fun r a => At X 5 (cW X.E ad T) 53 [(0, .ref (ad 5)), (1, .ref (ad 1)), (2, .int (nI i)), (3, .int a), (4, .int (nI r))] []) (N := 4) (fun r a => 16 * a + figv (hx (5 * i + r))) (fun r a hr h => ?_) 4 0 0 rfl ?_
        · refine r_X3_load_53 C ad T (nI i) a (nI r) ⟨fun q => nlt_no (by decide) hr q, fun _ => ?_⟩
          have e5 : nI i * 5 + nI r = nI (5 * i + r) := by rw [show (5 : Int32) = nI 5 from rfl, pk_mul, nI_add, Nat.mul_comm]
          rw [e5, at_eq (k := 0) hn t2 (by omega), t0, hhx, fig_eq, nI_1]
          exact h
        · refine r_X3_load_53 C ad T (nI i) _ (nI 4) ⟨fun _ => ?_, fun q => nle_no q⟩
          rw [← rsh_told hx 4 (5 * i) 0 hok]
          refine ⟨_, c_X3_keep ad T (j := i) (by omega) (told0 hx i) _ _ _ _ _, ?_⟩
          rw [nI_1]
          exact hF X C hE
  obtain ⟨S', ⟨g1, g2, g3, g4⟩, hF⟩ := loop (count0 hx n) 0 (pg (pg S 7 0 (fault0 hx n)) 6 0 (nI (count0 hx n))) (Nat.zero_add _) pg_s (by rw [pg_o (by decide), pg_o (by decide)]; exact e2) (by rw [pg_r (by decide), pg_r (by decide)])
  refine ⟨S', ⟨?_, ?_, fun j hj t ht => g2 j (Nat.zero_le _) hj t ht, fun k k4 k5 k6 k7 => ?_, by rw [g4]; rfl⟩, fun l D E a1 a2 => ?_⟩
  · rw [g3 7 (by decide) (by decide), pg_o (by decide), pg_s]
  · rw [g3 6 (by decide) (by decide), pg_s]
  · rw [g3 k k4 k5, pg_r k6, pg_r k7]
  · refine Fn.of (cc := cX3_load) (maxL := 5) (ret := none) (own := RX3) (by decide) rfl rfl (sameC _ _ _ _) (Nat.le_of_ble_eq_true rfl) (fun X q1 q2 q3 q4 q5 C hE => ?_)
    subst q1 q2 q3 q4 q5
    refine r_X3_load_0 C ad S ⟨_, c_X3_findFault ad S hn e2 _ _ _ _ _, ?_⟩
    rw [hhx]
    have ec : (if fault0 hx n = -1 then (S.1 2 0 + 1) / 5 else 0) = nI (count0 hx n) := by
      rcases hcl with ⟨h1, h2⟩ | ⟨h1, h2⟩
      · rw [if_pos h1, e2, nI_1, ← h2, show (5 : Int32) = nI 5 from rfl]
        exact pk_div (by omega) (by decide) (by decide)
      · rw [if_neg h1, h2]; rfl
    rw [ec]
    exact hF X C hE
