set_option maxRecDepth 20000 in
theorem ggX6_begin_X3_rowsOf : GoodIn wsX6_begin wsX3_rowsOf := goodIn_r _ [8, 9, 27, 28, 29, 30] (by decide +kernel) (by decide +kernel)
set_option maxRecDepth 20000 in
theorem gX6_begin_X3_rowsOf : GoodIn wsX6_begin (wsV RX6 26 RX3 yX3_rowsOf wsX3_rowsOf) := goodIn_app (goodIn_of _ (by decide +kernel)) ggX6_begin_X3_rowsOf
set_option maxRecDepth 20000 in
theorem ggX6_begin_X1_standsFor : GoodIn wsX6_begin wsX1_standsFor := goodIn_r _ [14, 15, 16, 17, 18, 19, 20, 21, 22, 31, 32, 33, 34, 35, 36] (by decide +kernel) (by decide +kernel)
set_option maxRecDepth 20000 in
theorem gX6_begin_X1_standsFor : GoodIn wsX6_begin (wsV RX6 32 RX1 yX1_standsFor wsX1_standsFor) := goodIn_app (goodIn_of _ (by decide +kernel)) ggX6_begin_X1_standsFor
theorem dX6_begin_0 : decode cX6_begin 0 = .ok (.iconst 0, 1) := by decide +kernel
theorem dX6_begin_1 : decode cX6_begin 1 = .ok (.istore 4, 2) := by decide +kernel
theorem dX6_begin_3 : decode cX6_begin 3 = .ok (.iload 4, 2) := by decide +kernel
theorem dX6_begin_5 : decode cX6_begin 5 = .ok (.iconst 4, 1) := by decide +kernel
theorem dX6_begin_6 : decode cX6_begin 6 = .ok (.if_icmp .ge 43, 3) := by decide +kernel
theorem dX6_begin_9 : decode cX6_begin 9 = .ok (.aload_n 0, 1) := by decide +kernel
theorem dX6_begin_10 : decode cX6_begin 10 = .ok (.getfield 11, 3) := by decide +kernel
theorem dX6_begin_13 : decode cX6_begin 13 = .ok (.iload 4, 2) := by decide +kernel
theorem dX6_begin_15 : decode cX6_begin 15 = .ok (.aload_n 2, 1) := by decide +kernel
theorem dX6_begin_16 : decode cX6_begin 16 = .ok (.aload_n 1, 1) := by decide +kernel
theorem dX6_begin_17 : decode cX6_begin 17 = .ok (.iload_n 3, 1) := by decide +kernel
theorem dX6_begin_18 : decode cX6_begin 18 = .ok (.iload 4, 2) := by decide +kernel
theorem dX6_begin_20 : decode cX6_begin 20 = .ok (.invokevirtual 26, 3) := by decide +kernel
theorem dX6_begin_23 : decode cX6_begin 23 = .ok (.invokevirtual 32, 3) := by decide +kernel
theorem dX6_begin_26 : decode cX6_begin 26 = .ok (.lastore, 1) := by decide +kernel
theorem dX6_begin_27 : decode cX6_begin 27 = .ok (.aload_n 0, 1) := by decide +kernel
theorem dX6_begin_28 : decode cX6_begin 28 = .ok (.getfield 17, 3) := by decide +kernel
theorem dX6_begin_31 : decode cX6_begin 31 = .ok (.iload 4, 2) := by decide +kernel
theorem dX6_begin_33 : decode cX6_begin 33 = .ok (.lconst 0, 1) := by decide +kernel
theorem dX6_begin_34 : decode cX6_begin 34 = .ok (.lastore, 1) := by decide +kernel
theorem dX6_begin_35 : decode cX6_begin 35 = .ok (.aload_n 0, 1) := by decide +kernel
theorem dX6_begin_36 : decode cX6_begin 36 = .ok (.getfield 20, 3) := by decide +kernel
theorem dX6_begin_39 : decode cX6_begin 39 = .ok (.iload 4, 2) := by decide +kernel
theorem dX6_begin_41 : decode cX6_begin 41 = .ok (.lconst 0, 1) := by decide +kernel
theorem dX6_begin_42 : decode cX6_begin 42 = .ok (.lastore, 1) := by decide +kernel
theorem dX6_begin_43 : decode cX6_begin 43 = .ok (.iinc 4 1, 3) := by decide +kernel
theorem dX6_begin_46 : decode cX6_begin 46 = .ok (.goto (-43), 3) := by decide +kernel
theorem dX6_begin_49 : decode cX6_begin 49 = .ok (.return_, 1) := by decide +kernel
theorem iw_X6_begin_X6 : ∀ w ∈ u_ws RX6 TX6 4, w ∈ wsX6_begin := by decide +kernel
theorem lk_X6_begin_0 : Cond.fieldLink RX6 11 (TX6 0).1 (TX6 0).2.1 (TX6 0).2.2.1 ∈ wsX6_begin := by decide +kernel
theorem lk_X6_begin_1 : Cond.fieldLink RX6 17 (TX6 1).1 (TX6 1).2.1 (TX6 1).2.2.1 ∈ wsX6_begin := by decide +kernel
theorem lk_X6_begin_2 : Cond.fieldLink RX6 20 (TX6 2).1 (TX6 2).2.1 (TX6 2).2.2.1 ∈ wsX6_begin := by decide +kernel
set_option maxRecDepth 100000 in
theorem r_X6_begin_0 {X : Bn} (C : Cx X cX6_begin 5 RX6 wsX6_begin 2 48) (ad : Nat → Nat) (S : MS) (x3 : Int32) (h : At X 5 (cW X.E ad S) 3 [(0, .ref (ad 10)), (1, .ref (ad 5)), (2, .ref (ad 8)), (3, .int x3), (4, .int 0)] []) : At X 5 (cW X.E ad S) 0 [(0, .ref (ad 10)), (1, .ref (ad 5)), (2, .ref (ad 8)), (3, .int x3)] [] := by
  refine at_iconst C dX6_begin_0 (v := 0) rfl ?_
  refine at_istore C dX6_begin_1 (by decide) (lv' := [(4, .int 0), (0, .ref (ad 10)), (1, .ref (ad 5)), (2, .ref (ad 8)), (3, .int x3)]) rfl ?_
  refine at_lv [1, 2, 3, 4, 0] rfl ?_
  exact h
set_option maxRecDepth 100000 in
theorem r_X6_begin_3 {X : Bn} (C : Cx X cX6_begin 5 RX6 wsX6_begin 2 48) (ad : Nat → Nat) (S : MS) (x3 : Int32) (x4 : Int32) (h : ((4 ≤ x4) → (Ends X (none) none (cW X.E ad S))) ∧ (¬ 4 ≤ x4 → ((vp_in x4 4) ∧ ((vp_in x4 4) ∧ ((vp_in x4 4) ∧ (At X 5 (cW X.E ad (pv (pv (pv S 2 x4.toNatClampNeg (f_X1_standsFor S (f_X3_rowsOf S x3 x4))) 3 x4.toNatClampNeg 0) 4 x4.toNatClampNeg 0)) 3 [(0, .ref (ad 10)), (1, .ref (ad 5)), (2, .ref (ad 8)), (3, .int x3), (4, .int (x4 + 1))] [])))))) : At X 5 (cW X.E ad S) 3 [(0, .ref (ad 10)), (1, .ref (ad 5)), (2, .ref (ad 8)), (3, .int x3), (4, .int x4)] [] := by
  refine at_iload C dX6_begin_3 (j := 4) rfl ?_
  refine at_iconst C dX6_begin_5 (v := 4) rfl ?_
  refine at_icmp_ge C dX6_begin_6 (tgt := 49) (by decide) (fun hc0 => ?_) (fun hc0 => ?_)
  · replace h := h.1 hc0
    exact at_vret C dX6_begin_49 h
  · replace h := h.2 hc0
    refine at_aload_n C dX6_begin_9 rfl (j := 0) rfl ?_
    refine at_get C (K := RX6) (T := TX6) (N := 4) (ci := 5) (v := .ref (ad 11)) iw_X6_begin_X6 10 cW_c10 rfl 0 (by decide) lk_X6_begin_0 rfl dX6_begin_10 ?_
    refine at_iload C dX6_begin_13 (j := 4) rfl ?_
    refine at_aload_n C dX6_begin_15 rfl (j := 2) rfl ?_
    refine at_aload_n C dX6_begin_16 rfl (j := 1) rfl ?_
    refine at_iload_n C dX6_begin_17 rfl (j := 3) rfl ?_
    refine at_iload C dX6_begin_18 (j := 4) rfl ?_
    refine at_cV1 C 2 (e_X3_rowsOf X.l X.D X.E X.a1 X.a2 ad S x3 x4) gX6_begin_X3_rowsOf rfl (by decide +kernel) ⟨rfl, rfl⟩ rfl rfl rfl 5 cW_c5 rfl dX6_begin_20 ?_
    refine at_cV1 C 1 (c_X1_standsFor X.l X.D X.E X.a1 X.a2 ad S (f_X3_rowsOf S x3 x4)) gX6_begin_X1_standsFor rfl (by decide +kernel) ⟨rfl, rfl⟩ rfl rfl rfl 8 cW_c8 rfl dX6_begin_23 ?_
    refine at_last C 11 cW_c11 h.1 cW_s11 dX6_begin_26 ?_
    replace h := h.2
    refine at_aload_n C dX6_begin_27 rfl (j := 0) rfl ?_
    refine at_get C (K := RX6) (T := TX6) (N := 4) (ci := 5) (v := .ref (ad 12)) iw_X6_begin_X6 10 cW_c10 rfl 1 (by decide) lk_X6_begin_1 rfl dX6_begin_28 ?_
    refine at_iload C dX6_begin_31 (j := 4) rfl ?_
    refine at_lconst C dX6_begin_33 (v := 0) rfl ?_
    refine at_last C 12 cW_c12 h.1 cW_s12 dX6_begin_34 ?_
    replace h := h.2
    refine at_aload_n C dX6_begin_35 rfl (j := 0) rfl ?_
    refine at_get C (K := RX6) (T := TX6) (N := 4) (ci := 5) (v := .ref (ad 13)) iw_X6_begin_X6 10 cW_c10 rfl 2 (by decide) lk_X6_begin_2 rfl dX6_begin_36 ?_
    refine at_iload C dX6_begin_39 (j := 4) rfl ?_
    refine at_lconst C dX6_begin_41 (v := 0) rfl ?_
    refine at_last C 13 cW_c13 h.1 cW_s13 dX6_begin_42 ?_
    replace h := h.2
    refine at_iinc C dX6_begin_43 (j := 4) (v := x4 + 1) rfl rfl (by decide) (lv' := [(4, .int (x4 + 1)), (0, .ref (ad 10)), (1, .ref (ad 5)), (2, .ref (ad 8)), (3, .int x3)]) rfl ?_
    refine at_goto C dX6_begin_46 (tgt := 3) (by decide) ?_
    refine at_lv [1, 2, 3, 4, 0] rfl ?_
    exact h
def bgS (S : MS) (s : Nat) (S' : MS) : Prop := (∀ t, t < 4 → S'.2 2 t = f_X1_standsFor S (f_X3_rowsOf S (nI s) (nI t)) ∧ S'.2 3 t = 0 ∧ S'.2 4 t = 0) ∧ S'.1 = S.1 ∧ ∀ k, k ≠ 2 → k ≠ 3 → k ≠ 4 → S'.2 k = S.2 k
theorem c_X6_begin (ad : Nat → Nat) (S : MS) (s : Nat) :
    ∃ S', bgS S s S' ∧ ∀ (l : Launch) (D : va_G) (E : Nat → ClassId) (a1 a2 : Nat), Fn l D E a1 a2 yX6_begin wsX6_begin 2 48 [.ref (ad 10), .ref (ad 5), .ref (ad 8), .int (nI s)] (cW E ad S) none (cW E ad S') := by
  have fold : ∀ (k i : Nat) (T : MS), i + k = 4 → (∀ t, t < i → T.2 2 t = f_X1_standsFor S (f_X3_rowsOf S (nI s) (nI t)) ∧ T.2 3 t = 0 ∧ T.2 4 t = 0) → T.1 = S.1 → (∀ k, k ≠ 2 → k ≠ 3 → k ≠ 4 → T.2 k = S.2 k) →
      ∃ S', bgS S s S' ∧ ∀ X : Bn, Cx X cX6_begin 5 RX6 wsX6_begin 2 48 → Ends X none none (cW X.E ad S') → At X 5 (cW X.E ad T) 3 [(0, .ref (ad 10)), (1, .ref (ad 5)), (2, .ref (ad 8)), (3, .int (nI s)), (4, .int (nI i))] [] := by
    intro k
    induction k with
    | zero =>
      intro i T hi h1 h2 h3
      have : i = 4 := by omega
      subst this
      exact ⟨T, ⟨h1, h2, h3⟩, fun X C hE => r_X6_begin_3 C ad T _ (nI 4) ⟨fun _ => hE, fun q => nle_no q⟩⟩
    | succ k ih =>
      intro i T hi h1 h2 h3
      have e1 : f_X1_standsFor T (f_X3_rowsOf T (nI s) (nI i)) = f_X1_standsFor S (f_X3_rowsOf S (nI s) (nI i)) := by
        unfold f_X1_standsFor f_X3_rowsOf
        rw [h2, h3 1 (by decide) (by decide) (by decide)]
      obtain ⟨S', hb, hgo⟩ := ih (i + 1) (pv (pv (pv T 2 i (f_X1_standsFor S (f_X3_rowsOf S (nI s) (nI i)))) 3 i 0) 4 i 0) (by omega) (fun t ht => by
          by_cases q : t = i
          · subst q
            refine ⟨?_, ?_, pv_s⟩
            · rw [pv_o (by decide), pv_o (by decide), pv_s]
            · rw [pv_o (by decide), pv_s]
          · rw [pv_o (by decide), pv_o (by decide), pv_n q, pv_o (by decide), pv_n q, pv_o (by decide), pv_n q, pv_o (by decide), pv_o (by decide)]
            exact h1 t (by omega)) h2 (fun k k2 k3 k4 => by rw [pv_r k4, pv_r k3, pv_r k2]; exact h3 k k2 k3 k4)
      refine ⟨S', hb, fun X C hE => ?_⟩
      have v4 : vp_in (nI i) 4 := vp_in_nI (by omega) (by decide)
      refine r_X6_begin_3 C ad T _ (nI i) ⟨fun q => nlt_no (a := i) (b := 4) (by decide) (by omega) q, fun _ => ⟨v4, v4, v4, ?_⟩⟩
      rw [e1, nI_clamp (show i < 2 ^ 31 by omega), nI_1]
      exact hgo X C hE
  obtain ⟨S', hb, hgo⟩ := fold 4 0 S rfl (fun t ht => absurd ht (Nat.not_lt_zero t)) rfl (fun _ _ _ _ => rfl)
  refine ⟨S', hb, fun l D E a1 a2 => ?_⟩
  refine Fn.of (cc := cX6_begin) (maxL := 5) (ret := none) (own := RX6) (by decide) rfl rfl (sameC _ _ _ _) (Nat.le_of_ble_eq_true rfl) (fun X q1 q2 q3 q4 q5 C hE => ?_)
  subst q1 q2 q3 q4 q5
  exact r_X6_begin_0 C ad S _ (hgo X C hE)
set_option maxRecDepth 20000 in
theorem ggX6_goOn_X6_shifted : GoodIn wsX6_goOn wsX6_shifted := goodIn_r _ [9, 10, 11] (by decide +kernel) (by decide +kernel)
set_option maxRecDepth 20000 in
theorem gX6_goOn_X6_shifted : GoodIn wsX6_goOn (va_wsS RX6 57 yX6_shifted wsX6_shifted) := goodIn_app (goodIn_of _ (by decide +kernel)) ggX6_goOn_X6_shifted
theorem dX6_goOn_0 : decode cX6_goOn 0 = .ok (.lconst 0, 1) := by decide +kernel
theorem dX6_goOn_1 : decode cX6_goOn 1 = .ok (.lstore_n 1, 1) := by decide +kernel
theorem dX6_goOn_2 : decode cX6_goOn 2 = .ok (.iconst 0, 1) := by decide +kernel
theorem dX6_goOn_3 : decode cX6_goOn 3 = .ok (.istore_n 3, 1) := by decide +kernel
theorem dX6_goOn_4 : decode cX6_goOn 4 = .ok (.iload_n 3, 1) := by decide +kernel
theorem dX6_goOn_5 : decode cX6_goOn 5 = .ok (.iconst 4, 1) := by decide +kernel
theorem dX6_goOn_6 : decode cX6_goOn 6 = .ok (.if_icmp .ge 77, 3) := by decide +kernel
theorem dX6_goOn_9 : decode cX6_goOn 9 = .ok (.aload_n 0, 1) := by decide +kernel
theorem dX6_goOn_10 : decode cX6_goOn 10 = .ok (.getfield 20, 3) := by decide +kernel
theorem dX6_goOn_13 : decode cX6_goOn 13 = .ok (.iload_n 3, 1) := by decide +kernel
theorem dX6_goOn_14 : decode cX6_goOn 14 = .ok (.iconst 1, 1) := by decide +kernel
theorem dX6_goOn_15 : decode cX6_goOn 15 = .ok (.iadd, 1) := by decide +kernel
theorem dX6_goOn_16 : decode cX6_goOn 16 = .ok (.iconst 4, 1) := by decide +kernel
theorem dX6_goOn_17 : decode cX6_goOn 17 = .ok (.irem, 1) := by decide +kernel
theorem dX6_goOn_18 : decode cX6_goOn 18 = .ok (.laload, 1) := by decide +kernel
theorem dX6_goOn_19 : decode cX6_goOn 19 = .ok (.aload_n 0, 1) := by decide +kernel
theorem dX6_goOn_20 : decode cX6_goOn 20 = .ok (.getfield 20, 3) := by decide +kernel
theorem dX6_goOn_23 : decode cX6_goOn 23 = .ok (.iload_n 3, 1) := by decide +kernel
theorem dX6_goOn_24 : decode cX6_goOn 24 = .ok (.iconst 3, 1) := by decide +kernel
theorem dX6_goOn_25 : decode cX6_goOn 25 = .ok (.iadd, 1) := by decide +kernel
theorem dX6_goOn_26 : decode cX6_goOn 26 = .ok (.iconst 4, 1) := by decide +kernel
theorem dX6_goOn_27 : decode cX6_goOn 27 = .ok (.irem, 1) := by decide +kernel
theorem dX6_goOn_28 : decode cX6_goOn 28 = .ok (.laload, 1) := by decide +kernel
theorem dX6_goOn_29 : decode cX6_goOn 29 = .ok (.lor, 1) := by decide +kernel
theorem dX6_goOn_30 : decode cX6_goOn 30 = .ok (.lstore 4, 2) := by decide +kernel
theorem dX6_goOn_32 : decode cX6_goOn 32 = .ok (.aload_n 0, 1) := by decide +kernel
theorem dX6_goOn_33 : decode cX6_goOn 33 = .ok (.getfield 23, 3) := by decide +kernel
theorem dX6_goOn_36 : decode cX6_goOn 36 = .ok (.iload_n 3, 1) := by decide +kernel
theorem dX6_goOn_37 : decode cX6_goOn 37 = .ok (.aload_n 0, 1) := by decide +kernel
theorem dX6_goOn_38 : decode cX6_goOn 38 = .ok (.getfield 20, 3) := by decide +kernel
theorem dX6_goOn_41 : decode cX6_goOn 41 = .ok (.iload_n 3, 1) := by decide +kernel
theorem dX6_goOn_42 : decode cX6_goOn 42 = .ok (.laload, 1) := by decide +kernel
theorem dX6_goOn_43 : decode cX6_goOn 43 = .ok (.invokestatic 57, 3) := by decide +kernel
theorem dX6_goOn_46 : decode cX6_goOn 46 = .ok (.lload 4, 2) := by decide +kernel
theorem dX6_goOn_48 : decode cX6_goOn 48 = .ok (.lor, 1) := by decide +kernel
theorem dX6_goOn_49 : decode cX6_goOn 49 = .ok (.aload_n 0, 1) := by decide +kernel
theorem dX6_goOn_50 : decode cX6_goOn 50 = .ok (.getfield 11, 3) := by decide +kernel
theorem dX6_goOn_53 : decode cX6_goOn 53 = .ok (.iload_n 3, 1) := by decide +kernel
theorem dX6_goOn_54 : decode cX6_goOn 54 = .ok (.laload, 1) := by decide +kernel
theorem dX6_goOn_55 : decode cX6_goOn 55 = .ok (.land, 1) := by decide +kernel
theorem dX6_goOn_56 : decode cX6_goOn 56 = .ok (.aload_n 0, 1) := by decide +kernel
theorem dX6_goOn_57 : decode cX6_goOn 57 = .ok (.getfield 17, 3) := by decide +kernel
theorem dX6_goOn_60 : decode cX6_goOn 60 = .ok (.iload_n 3, 1) := by decide +kernel
theorem dX6_goOn_61 : decode cX6_goOn 61 = .ok (.laload, 1) := by decide +kernel
theorem dX6_goOn_62 : decode cX6_goOn 62 = .ok (.ldc2_w 61, 3) := by decide +kernel
theorem dX6_goOn_65 : decode cX6_goOn 65 = .ok (.lxor, 1) := by decide +kernel
theorem dX6_goOn_66 : decode cX6_goOn 66 = .ok (.land, 1) := by decide +kernel
theorem dX6_goOn_67 : decode cX6_goOn 67 = .ok (.lastore, 1) := by decide +kernel
theorem dX6_goOn_68 : decode cX6_goOn 68 = .ok (.lload_n 1, 1) := by decide +kernel
theorem dX6_goOn_69 : decode cX6_goOn 69 = .ok (.aload_n 0, 1) := by decide +kernel
theorem dX6_goOn_70 : decode cX6_goOn 70 = .ok (.getfield 23, 3) := by decide +kernel
theorem dX6_goOn_73 : decode cX6_goOn 73 = .ok (.iload_n 3, 1) := by decide +kernel
theorem dX6_goOn_74 : decode cX6_goOn 74 = .ok (.laload, 1) := by decide +kernel
theorem dX6_goOn_75 : decode cX6_goOn 75 = .ok (.lor, 1) := by decide +kernel
theorem dX6_goOn_76 : decode cX6_goOn 76 = .ok (.lstore_n 1, 1) := by decide +kernel
theorem dX6_goOn_77 : decode cX6_goOn 77 = .ok (.iinc 3 1, 3) := by decide +kernel
theorem dX6_goOn_80 : decode cX6_goOn 80 = .ok (.goto (-76), 3) := by decide +kernel
theorem dX6_goOn_83 : decode cX6_goOn 83 = .ok (.iconst 0, 1) := by decide +kernel
theorem dX6_goOn_84 : decode cX6_goOn 84 = .ok (.istore_n 3, 1) := by decide +kernel
theorem dX6_goOn_85 : decode cX6_goOn 85 = .ok (.iload_n 3, 1) := by decide +kernel
theorem dX6_goOn_86 : decode cX6_goOn 86 = .ok (.iconst 4, 1) := by decide +kernel
theorem dX6_goOn_87 : decode cX6_goOn 87 = .ok (.if_icmp .ge 36, 3) := by decide +kernel
theorem dX6_goOn_90 : decode cX6_goOn 90 = .ok (.aload_n 0, 1) := by decide +kernel
theorem dX6_goOn_91 : decode cX6_goOn 91 = .ok (.getfield 20, 3) := by decide +kernel
theorem dX6_goOn_94 : decode cX6_goOn 94 = .ok (.iload_n 3, 1) := by decide +kernel
theorem dX6_goOn_95 : decode cX6_goOn 95 = .ok (.aload_n 0, 1) := by decide +kernel
theorem dX6_goOn_96 : decode cX6_goOn 96 = .ok (.getfield 23, 3) := by decide +kernel
theorem dX6_goOn_99 : decode cX6_goOn 99 = .ok (.iload_n 3, 1) := by decide +kernel
theorem dX6_goOn_100 : decode cX6_goOn 100 = .ok (.laload, 1) := by decide +kernel
theorem dX6_goOn_101 : decode cX6_goOn 101 = .ok (.lastore, 1) := by decide +kernel
theorem dX6_goOn_102 : decode cX6_goOn 102 = .ok (.aload_n 0, 1) := by decide +kernel
theorem dX6_goOn_103 : decode cX6_goOn 103 = .ok (.getfield 17, 3) := by decide +kernel
theorem dX6_goOn_106 : decode cX6_goOn 106 = .ok (.iload_n 3, 1) := by decide +kernel
theorem dX6_goOn_107 : decode cX6_goOn 107 = .ok (.dup2, 1) := by decide +kernel
theorem dX6_goOn_108 : decode cX6_goOn 108 = .ok (.laload, 1) := by decide +kernel
theorem dX6_goOn_109 : decode cX6_goOn 109 = .ok (.aload_n 0, 1) := by decide +kernel
theorem dX6_goOn_110 : decode cX6_goOn 110 = .ok (.getfield 23, 3) := by decide +kernel
theorem dX6_goOn_113 : decode cX6_goOn 113 = .ok (.iload_n 3, 1) := by decide +kernel
theorem dX6_goOn_114 : decode cX6_goOn 114 = .ok (.laload, 1) := by decide +kernel
theorem dX6_goOn_115 : decode cX6_goOn 115 = .ok (.lor, 1) := by decide +kernel
theorem dX6_goOn_116 : decode cX6_goOn 116 = .ok (.lastore, 1) := by decide +kernel
theorem dX6_goOn_117 : decode cX6_goOn 117 = .ok (.iinc 3 1, 3) := by decide +kernel
theorem dX6_goOn_120 : decode cX6_goOn 120 = .ok (.goto (-35), 3) := by decide +kernel
theorem dX6_goOn_123 : decode cX6_goOn 123 = .ok (.lload_n 1, 1) := by decide +kernel
theorem dX6_goOn_124 : decode cX6_goOn 124 = .ok (.lconst 0, 1) := by decide +kernel
theorem dX6_goOn_125 : decode cX6_goOn 125 = .ok (.lcmp, 1) := by decide +kernel
theorem dX6_goOn_126 : decode cX6_goOn 126 = .ok (.ifCond .eq 7, 3) := by decide +kernel
theorem dX6_goOn_129 : decode cX6_goOn 129 = .ok (.iconst 1, 1) := by decide +kernel
theorem dX6_goOn_130 : decode cX6_goOn 130 = .ok (.goto 4, 3) := by decide +kernel
theorem dX6_goOn_133 : decode cX6_goOn 133 = .ok (.iconst 0, 1) := by decide +kernel
theorem dX6_goOn_134 : decode cX6_goOn 134 = .ok (.ireturn, 1) := by decide +kernel
theorem iw_X6_goOn_X6 : ∀ w ∈ u_ws RX6 TX6 4, w ∈ wsX6_goOn := by decide +kernel
theorem lk_X6_goOn_0 : Cond.fieldLink RX6 20 (TX6 2).1 (TX6 2).2.1 (TX6 2).2.2.1 ∈ wsX6_goOn := by decide +kernel
theorem lk_X6_goOn_1 : Cond.fieldLink RX6 23 (TX6 3).1 (TX6 3).2.1 (TX6 3).2.2.1 ∈ wsX6_goOn := by decide +kernel
theorem lk_X6_goOn_2 : Cond.fieldLink RX6 11 (TX6 0).1 (TX6 0).2.1 (TX6 0).2.2.1 ∈ wsX6_goOn := by decide +kernel
theorem lk_X6_goOn_3 : Cond.fieldLink RX6 17 (TX6 1).1 (TX6 1).2.1 (TX6 1).2.2.1 ∈ wsX6_goOn := by decide +kernel
theorem lk_X6_goOn_4 : Cond.constantLong RX6 61 (-1) ∈ wsX6_goOn := by decide +kernel
set_option maxRecDepth 100000 in
theorem r_X6_goOn_0 {X : Bn} (C : Cx X cX6_goOn 6 RX6 wsX6_goOn 1 23) (ad : Nat → Nat) (S : MS) (h : At X 6 (cW X.E ad S) 4 [(0, .ref (ad 10)), (1, .long 0), (3, .int 0)] []) : At X 6 (cW X.E ad S) 0 [(0, .ref (ad 10))] [] := by
  refine at_lconst C dX6_goOn_0 (v := 0) rfl ?_
  refine at_lstore_n C dX6_goOn_1 rfl (by decide) (lv' := [(1, .long 0), (0, .ref (ad 10))]) rfl ?_
  refine at_iconst C dX6_goOn_2 (v := 0) rfl ?_
  refine at_istore_n C dX6_goOn_3 rfl (by decide) (lv' := [(3, .int 0), (1, .long 0), (0, .ref (ad 10))]) rfl ?_
  refine at_lv [2, 1, 0] rfl ?_
  exact h
set_option maxRecDepth 100000 in
theorem r_X6_goOn_4 {X : Bn} (C : Cx X cX6_goOn 6 RX6 wsX6_goOn 1 23) (ad : Nat → Nat) (S : MS) (x1 : Int64) (x3 : Int32) (h : ((4 ≤ x3) → (At X 6 (cW X.E ad S) 85 [(0, .ref (ad 10)), (1, .long x1), (3, .int 0)] [])) ∧ (¬ 4 ≤ x3 → ((vp_in (irm (x3 + 1) 4) 4) ∧ ((vp_in (irm (x3 + 3) 4) 4) ∧ ((vp_in x3 4) ∧ ((vp_in x3 4) ∧ ((vp_in x3 4) ∧ ((vp_in x3 4) ∧ ((vp_in x3 4) ∧ (At X 6 (cW X.E ad (pv S 5 x3.toNatClampNeg ((((f_X6_shifted (S.2 4 x3.toNatClampNeg)) ||| ((S.2 4 ((irm (x3 + 1) 4).toNatClampNeg)) ||| (S.2 4 ((irm (x3 + 3) 4).toNatClampNeg)))) &&& (S.2 2 x3.toNatClampNeg)) &&& ((S.2 3 x3.toNatClampNeg) ^^^ (-1))))) 4 [(0, .ref (ad 10)), (1, .long (x1 ||| ((pv S 5 x3.toNatClampNeg ((((f_X6_shifted (S.2 4 x3.toNatClampNeg)) ||| ((S.2 4 ((irm (x3 + 1) 4).toNatClampNeg)) ||| (S.2 4 ((irm (x3 + 3) 4).toNatClampNeg)))) &&& (S.2 2 x3.toNatClampNeg)) &&& ((S.2 3 x3.toNatClampNeg) ^^^ (-1)))).2 5 x3.toNatClampNeg))), (3, .int (x3 + 1))] [])))))))))) : At X 6 (cW X.E ad S) 4 [(0, .ref (ad 10)), (1, .long x1), (3, .int x3)] [] := by
  refine at_iload_n C dX6_goOn_4 rfl (j := 2) rfl ?_
  refine at_iconst C dX6_goOn_5 (v := 4) rfl ?_
  refine at_icmp_ge C dX6_goOn_6 (tgt := 83) (by decide) (fun hc0 => ?_) (fun hc0 => ?_)
  · replace h := h.1 hc0
    refine at_iconst C dX6_goOn_83 (v := 0) rfl ?_
    refine at_istore_n C dX6_goOn_84 rfl (by decide) (lv' := [(3, .int 0), (0, .ref (ad 10)), (1, .long x1)]) rfl ?_
    refine at_lv [1, 2, 0] rfl ?_
    exact h
  · replace h := h.2 hc0
    refine at_aload_n C dX6_goOn_9 rfl (j := 0) rfl ?_
    refine at_get C (K := RX6) (T := TX6) (N := 4) (ci := 5) (v := .ref (ad 13)) iw_X6_goOn_X6 10 cW_c10 rfl 2 (by decide) lk_X6_goOn_0 rfl dX6_goOn_10 ?_
    refine at_iload_n C dX6_goOn_13 rfl (j := 2) rfl ?_
    refine at_iconst C dX6_goOn_14 (v := 1) rfl ?_
    refine at_iadd C dX6_goOn_15 ?_
    refine at_iconst C dX6_goOn_16 (v := 4) rfl ?_
    refine at_irem C dX6_goOn_17 (by decide) ?_
    refine at_lald C 13 cW_c13 h.1 dX6_goOn_18 ?_
    replace h := h.2
    refine at_aload_n C dX6_goOn_19 rfl (j := 0) rfl ?_
    refine at_get C (K := RX6) (T := TX6) (N := 4) (ci := 5) (v := .ref (ad 13)) iw_X6_goOn_X6 10 cW_c10 rfl 2 (by decide) lk_X6_goOn_0 rfl dX6_goOn_20 ?_
    refine at_iload_n C dX6_goOn_23 rfl (j := 2) rfl ?_
    refine at_iconst C dX6_goOn_24 (v := 3) rfl ?_
    refine at_iadd C dX6_goOn_25 ?_
    refine at_iconst C dX6_goOn_26 (v := 4) rfl ?_
    refine at_irem C dX6_goOn_27 (by decide) ?_
    refine at_lald C 13 cW_c13 h.1 dX6_goOn_28 ?_
    replace h := h.2
    refine at_lor C dX6_goOn_29 ?_
    refine at_lstore C dX6_goOn_30 (by decide) (lv' := [(4, .long ((S.2 4 ((irm (x3 + 1) 4).toNatClampNeg)) ||| (S.2 4 ((irm (x3 + 3) 4).toNatClampNeg)))), (0, .ref (ad 10)), (1, .long x1), (3, .int x3)]) rfl ?_
    refine at_aload_n C dX6_goOn_32 rfl (j := 1) rfl ?_
    refine at_get C (K := RX6) (T := TX6) (N := 4) (ci := 5) (v := .ref (ad 14)) iw_X6_goOn_X6 10 cW_c10 rfl 3 (by decide) lk_X6_goOn_1 rfl dX6_goOn_33 ?_
    refine at_iload_n C dX6_goOn_36 rfl (j := 3) rfl ?_
    refine at_aload_n C dX6_goOn_37 rfl (j := 1) rfl ?_
    refine at_get C (K := RX6) (T := TX6) (N := 4) (ci := 5) (v := .ref (ad 13)) iw_X6_goOn_X6 10 cW_c10 rfl 2 (by decide) lk_X6_goOn_0 rfl dX6_goOn_38 ?_
    refine at_iload_n C dX6_goOn_41 rfl (j := 3) rfl ?_
    refine at_lald C 13 cW_c13 h.1 dX6_goOn_42 ?_
    replace h := h.2
    refine at_cS0 C 1 (c_X6_shifted X.l X.D X.E X.a1 X.a2 (S.2 4 x3.toNatClampNeg)) gX6_goOn_X6_shifted rfl (by decide +kernel) ⟨rfl, rfl⟩ rfl rfl rfl dX6_goOn_43 ?_
    refine at_lload C dX6_goOn_46 (j := 0) rfl ?_
    refine at_lor C dX6_goOn_48 ?_
    refine at_aload_n C dX6_goOn_49 rfl (j := 1) rfl ?_
    refine at_get C (K := RX6) (T := TX6) (N := 4) (ci := 5) (v := .ref (ad 11)) iw_X6_goOn_X6 10 cW_c10 rfl 0 (by decide) lk_X6_goOn_2 rfl dX6_goOn_50 ?_
    refine at_iload_n C dX6_goOn_53 rfl (j := 3) rfl ?_
    refine at_lald C 11 cW_c11 h.1 dX6_goOn_54 ?_
    replace h := h.2
    refine at_land C dX6_goOn_55 ?_
    refine at_aload_n C dX6_goOn_56 rfl (j := 1) rfl ?_
    refine at_get C (K := RX6) (T := TX6) (N := 4) (ci := 5) (v := .ref (ad 12)) iw_X6_goOn_X6 10 cW_c10 rfl 1 (by decide) lk_X6_goOn_3 rfl dX6_goOn_57 ?_
    refine at_iload_n C dX6_goOn_60 rfl (j := 3) rfl ?_
    refine at_lald C 12 cW_c12 h.1 dX6_goOn_61 ?_
    replace h := h.2
    refine at_ldc2 C lk_X6_goOn_4 dX6_goOn_62 ?_
    refine at_lxor C dX6_goOn_65 ?_
    refine at_land C dX6_goOn_66 ?_
    refine at_last C 14 cW_c14 h.1 cW_s14 dX6_goOn_67 ?_
    replace h := h.2
    refine at_lload_n C dX6_goOn_68 rfl (j := 2) rfl ?_
    refine at_aload_n C dX6_goOn_69 rfl (j := 1) rfl ?_
    refine at_get C (K := RX6) (T := TX6) (N := 4) (ci := 5) (v := .ref (ad 14)) iw_X6_goOn_X6 10 cW_c10 rfl 3 (by decide) lk_X6_goOn_1 rfl dX6_goOn_70 ?_
    refine at_iload_n C dX6_goOn_73 rfl (j := 3) rfl ?_
    refine at_lald C 14 cW_c14 h.1 dX6_goOn_74 ?_
    replace h := h.2
    refine at_lor C dX6_goOn_75 ?_
    refine at_lstore_n C dX6_goOn_76 rfl (by decide) (lv' := [(1, .long (x1 ||| ((pv S 5 x3.toNatClampNeg ((((f_X6_shifted (S.2 4 x3.toNatClampNeg)) ||| ((S.2 4 ((irm (x3 + 1) 4).toNatClampNeg)) ||| (S.2 4 ((irm (x3 + 3) 4).toNatClampNeg)))) &&& (S.2 2 x3.toNatClampNeg)) &&& ((S.2 3 x3.toNatClampNeg) ^^^ (-1)))).2 5 x3.toNatClampNeg))), (4, .long ((S.2 4 ((irm (x3 + 1) 4).toNatClampNeg)) ||| (S.2 4 ((irm (x3 + 3) 4).toNatClampNeg)))), (0, .ref (ad 10)), (3, .int x3)]) rfl ?_
    refine at_iinc C dX6_goOn_77 (j := 3) (v := x3 + 1) rfl rfl (by decide) (lv' := [(3, .int (x3 + 1)), (1, .long (x1 ||| ((pv S 5 x3.toNatClampNeg ((((f_X6_shifted (S.2 4 x3.toNatClampNeg)) ||| ((S.2 4 ((irm (x3 + 1) 4).toNatClampNeg)) ||| (S.2 4 ((irm (x3 + 3) 4).toNatClampNeg)))) &&& (S.2 2 x3.toNatClampNeg)) &&& ((S.2 3 x3.toNatClampNeg) ^^^ (-1)))).2 5 x3.toNatClampNeg))), (4, .long ((S.2 4 ((irm (x3 + 1) 4).toNatClampNeg)) ||| (S.2 4 ((irm (x3 + 3) 4).toNatClampNeg)))), (0, .ref (ad 10))]) rfl ?_
    refine at_goto C dX6_goOn_80 (tgt := 4) (by decide) ?_
    refine at_lv [3, 1, 0] rfl ?_
    exact h
set_option maxRecDepth 100000 in
theorem r_X6_goOn_85 {X : Bn} (C : Cx X cX6_goOn 6 RX6 wsX6_goOn 1 23) (ad : Nat → Nat) (S : MS) (x1 : Int64) (x3 : Int32) (h : ((4 ≤ x3) → (Ends X (some .boolean) (some (.int (b2i (if x1 = 0 then false else true)))) (cW X.E ad S))) ∧ (¬ 4 ≤ x3 → ((vp_in x3 4) ∧ ((vp_in x3 4) ∧ ((vp_in x3 4) ∧ ((vp_in x3 4) ∧ ((vp_in x3 4) ∧ (At X 6 (cW X.E ad (pv (pv S 4 x3.toNatClampNeg (S.2 5 x3.toNatClampNeg)) 3 x3.toNatClampNeg ((S.2 3 x3.toNatClampNeg) ||| (S.2 5 x3.toNatClampNeg)))) 85 [(0, .ref (ad 10)), (1, .long x1), (3, .int (x3 + 1))] [])))))))) : At X 6 (cW X.E ad S) 85 [(0, .ref (ad 10)), (1, .long x1), (3, .int x3)] [] := by
  refine at_iload_n C dX6_goOn_85 rfl (j := 2) rfl ?_
  refine at_iconst C dX6_goOn_86 (v := 4) rfl ?_
  refine at_icmp_ge C dX6_goOn_87 (tgt := 123) (by decide) (fun hc1 => ?_) (fun hc1 => ?_)
  · replace h := h.1 hc1
    refine at_lload_n C dX6_goOn_123 rfl (j := 1) rfl ?_
    refine at_lconst C dX6_goOn_124 (v := 0) rfl ?_
    have K : At X 6 (cW X.E ad S) 134 [] [.int (b2i (if x1 = 0 then false else true))] := by
      exact at_zret C dX6_goOn_134 (b2i_nar _) h
    refine at_lif_eq C dX6_goOn_125 dX6_goOn_126 (tgt := 133) (by decide) (fun hc2 => ?_) (fun hc2 => ?_)
    · skip
      refine at_iconst C dX6_goOn_133 (v := 0) rfl ?_
      refine at_lv [] rfl ?_
      first | (simp only [if_pos hc2] at K; exact K) | exact K
    · skip
      refine at_iconst C dX6_goOn_129 (v := 1) rfl ?_
      refine at_goto C dX6_goOn_130 (tgt := 134) (by decide) ?_
      refine at_lv [] rfl ?_
      first | (simp only [if_neg hc2] at K; exact K) | exact K
  · replace h := h.2 hc1
    refine at_aload_n C dX6_goOn_90 rfl (j := 0) rfl ?_
    refine at_get C (K := RX6) (T := TX6) (N := 4) (ci := 5) (v := .ref (ad 13)) iw_X6_goOn_X6 10 cW_c10 rfl 2 (by decide) lk_X6_goOn_0 rfl dX6_goOn_91 ?_
    refine at_iload_n C dX6_goOn_94 rfl (j := 2) rfl ?_
    refine at_aload_n C dX6_goOn_95 rfl (j := 0) rfl ?_
    refine at_get C (K := RX6) (T := TX6) (N := 4) (ci := 5) (v := .ref (ad 14)) iw_X6_goOn_X6 10 cW_c10 rfl 3 (by decide) lk_X6_goOn_1 rfl dX6_goOn_96 ?_
    refine at_iload_n C dX6_goOn_99 rfl (j := 2) rfl ?_
    refine at_lald C 14 cW_c14 h.1 dX6_goOn_100 ?_
    replace h := h.2
    refine at_last C 13 cW_c13 h.1 cW_s13 dX6_goOn_101 ?_
    replace h := h.2
    refine at_aload_n C dX6_goOn_102 rfl (j := 0) rfl ?_
    refine at_get C (K := RX6) (T := TX6) (N := 4) (ci := 5) (v := .ref (ad 12)) iw_X6_goOn_X6 10 cW_c10 rfl 1 (by decide) lk_X6_goOn_3 rfl dX6_goOn_103 ?_
    refine at_iload_n C dX6_goOn_106 rfl (j := 2) rfl ?_
    refine at_dup2_11 C dX6_goOn_107 rfl rfl ?_
    refine at_lald C 12 cW_c12 h.1 dX6_goOn_108 ?_
    replace h := h.2
    refine at_topL (pv_o (by decide)) ?_
    refine at_aload_n C dX6_goOn_109 rfl (j := 0) rfl ?_
    refine at_get C (K := RX6) (T := TX6) (N := 4) (ci := 5) (v := .ref (ad 14)) iw_X6_goOn_X6 10 cW_c10 rfl 3 (by decide) lk_X6_goOn_1 rfl dX6_goOn_110 ?_
    refine at_iload_n C dX6_goOn_113 rfl (j := 2) rfl ?_
    refine at_lald C 14 cW_c14 h.1 dX6_goOn_114 ?_
    replace h := h.2
    refine at_topL (pv_o (by decide)) ?_
    refine at_lor C dX6_goOn_115 ?_
    refine at_last C 12 cW_c12 h.1 cW_s12 dX6_goOn_116 ?_
    replace h := h.2
    refine at_iinc C dX6_goOn_117 (j := 2) (v := x3 + 1) rfl rfl (by decide) (lv' := [(3, .int (x3 + 1)), (0, .ref (ad 10)), (1, .long x1)]) rfl ?_
    refine at_goto C dX6_goOn_120 (tgt := 85) (by decide) ?_
    refine at_lv [1, 2, 0] rfl ?_
    exact h
def nx (S : MS) (t : Nat) : Int64 := (((f_X6_shifted (S.2 4 t)) ||| ((S.2 4 ((t + 1) % 4)) ||| (S.2 4 ((t + 3) % 4)))) &&& (S.2 2 t)) &&& ((S.2 3 t) ^^^ (-1))
def nxB (S : MS) : Bool := if itF (fun t x => x ||| nx S t) 0 4 0 = 0 then false else true
def goS (S S' : MS) : Prop := (∀ t, t < 4 → S'.2 4 t = nx S t ∧ S'.2 3 t = S.2 3 t ||| nx S t) ∧ S'.1 = S.1 ∧ ∀ k, k ≠ 3 → k ≠ 4 → k ≠ 5 → S'.2 k = S.2 k
theorem c_X6_goOn0 (ad : Nat → Nat) (S : MS) :
    ∃ S', goS S S' ∧ ∀ (l : Launch) (D : va_G) (E : Nat → ClassId) (a1 a2 : Nat), Fn l D E a1 a2 yX6_goOn wsX6_goOn 1 23 [.ref (ad 10)] (cW E ad S) (some (.int (b2i (nxB S)))) (cW E ad S') := by
  have l1 : ∀ (k i : Nat) (x : Int64) (T : MS), i + k = 4 → itF (fun t x => x ||| nx S t) i k x = itF (fun t x => x ||| nx S t) 0 4 0 → (∀ t, t < i → T.2 5 t = nx S t) → T.1 = S.1 → (∀ k, k ≠ 5 → T.2 k = S.2 k) →
      ∃ U : MS, ((∀ t, t < 4 → U.2 5 t = nx S t) ∧ U.1 = S.1 ∧ ∀ k, k ≠ 5 → U.2 k = S.2 k) ∧ ∀ X : Bn, Cx X cX6_goOn 6 RX6 wsX6_goOn 1 23 → At X 6 (cW X.E ad U) 85 [(0, .ref (ad 10)), (1, .long (itF (fun t x => x ||| nx S t) 0 4 0)), (3, .int (nI 0))] [] → At X 6 (cW X.E ad T) 4 [(0, .ref (ad 10)), (1, .long x), (3, .int (nI i))] [] := by
    intro k
    induction k with
    | zero =>
      intro i x T hi e h1 h2 h3
      have : i = 4 := by omega
      subst this
      have e : x = _ := e
      subst e
      exact ⟨T, ⟨h1, h2, h3⟩, fun X C h => r_X6_goOn_4 C ad T _ (nI 4) ⟨fun _ => h, fun q => nle_no q⟩⟩
    | succ k ih =>
      intro i x T hi e h1 h2 h3
      obtain ⟨U, hU, hgo⟩ := ih (i + 1) (x ||| nx S i) (pv T 5 i (nx S i)) (by omega) e (fun t ht => by
          by_cases q : t = i
          · subst q; exact pv_s
          · rw [pv_n q]; exact h1 t (by omega)) h2 (fun k hk => by rw [pv_r hk]; exact h3 k hk)
      refine ⟨U, hU, fun X C h => ?_⟩
      have v4 : vp_in (nI i) 4 := vp_in_nI (by omega) (by decide)
      have m1 : irm (nI i + 1) 4 = nI ((i + 1) % 4) := by rw [nI_1]; exact irm_nI (d := 4) (by omega) (by decide) (by decide)
      have m3 : irm (nI i + 3) 4 = nI ((i + 3) % 4) := by rw [show (3 : Int32) = nI 3 from rfl, nI_add]; exact irm_nI (d := 4) (by omega) (by decide) (by decide)
      refine r_X6_goOn_4 C ad T x (nI i) ⟨fun q => nlt_no (a := i) (b := 4) (by decide) (by omega) q, fun _ => ?_⟩
      rw [m1, m3, nI_clamp (show (i + 1) % 4 < 2 ^ 31 by omega), nI_clamp (show (i + 3) % 4 < 2 ^ 31 by omega), nI_clamp (show i < 2 ^ 31 by omega)]
      refine ⟨vp_in_nI (by omega) (by decide), vp_in_nI (by omega) (by decide), v4, v4, v4, v4, v4, ?_⟩
      rw [h3 4 (by decide), h3 2 (by decide), h3 3 (by decide)]
      have en : (((f_X6_shifted (S.2 4 i)) ||| ((S.2 4 ((i + 1) % 4)) ||| (S.2 4 ((i + 3) % 4)))) &&& (S.2 2 i)) &&& ((S.2 3 i) ^^^ (-1)) = nx S i := rfl
      rw [en, pv_s, nI_1]
      exact hgo X C h
  obtain ⟨U, ⟨u5, u1, uo⟩, hgo1⟩ := l1 4 0 0 S rfl rfl (fun t ht => absurd ht (Nat.not_lt_zero t)) rfl (fun _ _ => rfl)
  have l2 : ∀ (k i : Nat) (T : MS), i + k = 4 → (∀ t, t < i → T.2 4 t = nx S t ∧ T.2 3 t = S.2 3 t ||| nx S t) → (∀ t, i ≤ t → t < 4 → T.2 3 t = S.2 3 t) → T.2 5 = U.2 5 → T.1 = S.1 → (∀ k, k ≠ 3 → k ≠ 4 → k ≠ 5 → T.2 k = S.2 k) →
      ∃ S', goS S S' ∧ ∀ X : Bn, Cx X cX6_goOn 6 RX6 wsX6_goOn 1 23 → Ends X (some .boolean) (some (.int (b2i (nxB S)))) (cW X.E ad S') → At X 6 (cW X.E ad T) 85 [(0, .ref (ad 10)), (1, .long (itF (fun t x => x ||| nx S t) 0 4 0)), (3, .int (nI i))] [] := by
    intro k
    induction k with
    | zero =>
      intro i T hi h1 h2 h5 h3 h4
      have : i = 4 := by omega
      subst this
      exact ⟨T, ⟨h1, h3, h4⟩, fun X C hE => r_X6_goOn_85 C ad T _ (nI 4) ⟨fun _ => hE, fun q => nle_no q⟩⟩
    | succ k ih =>
      intro i T hi h1 h2 h5 h3 h4
      have t5 : T.2 5 i = nx S i := by rw [h5]; exact u5 i (by omega)
      obtain ⟨S', hb, hgo⟩ := ih (i + 1) (pv (pv T 4 i (nx S i)) 3 i (S.2 3 i ||| nx S i)) (by omega) (fun t ht => by
          by_cases q : t = i
          · subst q
            exact ⟨by rw [pv_o (by decide), pv_s], pv_s⟩
          · rw [pv_o (by decide), pv_n q, pv_n q, pv_o (by decide)]
            exact h1 t (by omega)) (fun t h6 h7 => by rw [pv_n (by omega), pv_o (by decide)]; exact h2 t (by omega) h7) (by rw [pv_r (by decide), pv_r (by decide)]; exact h5) h3 (fun k k3 k4 k5 => by rw [pv_r k3, pv_r k4]; exact h4 k k3 k4 k5)
      refine ⟨S', hb, fun X C hE => ?_⟩
      have v4 : vp_in (nI i) 4 := vp_in_nI (by omega) (by decide)
      refine r_X6_goOn_85 C ad T _ (nI i) ⟨fun q => nlt_no (a := i) (b := 4) (by decide) (by omega) q, fun _ => ⟨v4, v4, v4, v4, v4, ?_⟩⟩
      rw [nI_clamp (show i < 2 ^ 31 by omega), t5, h2 i (Nat.le_refl _) (by omega), nI_1]
      exact hgo X C hE
  obtain ⟨S', hb, hgo2⟩ := l2 4 0 U rfl (fun t ht => absurd ht (Nat.not_lt_zero t)) (fun t _ _ => by rw [uo 3 (by decide)]) rfl u1 (fun k _ _ k5 => uo k k5)
  refine ⟨S', hb, fun l D E a1 a2 => ?_⟩
  refine Fn.of (cc := cX6_goOn) (maxL := 6) (ret := (some .boolean)) (own := RX6) (by decide) rfl rfl (sameC _ _ _ _) (Nat.le_of_ble_eq_true rfl) (fun X q1 q2 q3 q4 q5 C hE => ?_)
  subst q1 q2 q3 q4 q5
  exact r_X6_goOn_0 C ad S (hgo1 X C (hgo2 X C hE))
/-! what the bits mean -/
theorem mskL : ∀ c, c < 64 → tbL (-72340172838076674) c = !decide (c % 8 = 0) := by decide +kernel
theorem mskR : ∀ c, c < 64 → tbL 9187201950435737471 c = !decide (c % 8 = 7) := by decide +kernel
theorem tb_shifted {x : Int64} {c : Nat} (hc : c < 64) : tbL (f_X6_shifted x) c = ((tbL x (c + 8) || (decide (8 ≤ c) && tbL x (c - 8))) || ((decide (c % 8 < 7) && tbL x (c + 1)) || (decide (0 < c % 8) && tbL x (c - 1)))) := by
  unfold f_X6_shifted
  have e8 : (8 : Int32) = nI 8 := rfl
  have e1 : (1 : Int32) = nI 1 := rfl
  rw [e8, e1, tbL_or, tbL_or, tbL_or, tbL_shr (by decide), tbL_shl (by decide), tbL_shr (by decide), tbL_shl (by decide), tbL_and, tbL_and, decide_eq_true hc, Bool.true_and, Bool.true_and, Nat.add_comm 8 c, Nat.add_comm 1 c]
  have a1 : (!decide (c < 8) && tbL x (c - 8)) = (decide (8 ≤ c) && tbL x (c - 8)) := by
    by_cases h : c < 8
    · rw [decide_eq_true h, decide_eq_false (by omega)]; rfl
    · rw [decide_eq_false h, decide_eq_true (by omega)]; rfl
  have a2 : (tbL x (c + 1) && tbL (-72340172838076674) (c + 1)) = (decide (c % 8 < 7) && tbL x (c + 1)) := by
    by_cases h : c + 1 < 64
    · rw [mskL _ h]
      by_cases q : c % 8 < 7
      · rw [decide_eq_true q, decide_eq_false (by omega)]; simp
      · rw [decide_eq_false q, decide_eq_true (by omega)]; simp
    · rw [tbL_ge (by omega)]; simp
  have a3 : (!decide (c < 1) && (tbL x (c - 1) && tbL 9187201950435737471 (c - 1))) = (decide (0 < c % 8) && tbL x (c - 1)) := by
    rw [mskR _ (by omega)]
    by_cases q : 0 < c % 8
    · rw [decide_eq_true q, decide_eq_false (by omega), decide_eq_false (by omega)]; simp
    · rw [decide_eq_false q]
      by_cases h : c < 1
      · rw [decide_eq_true h]; simp
      · rw [decide_eq_true (show (c - 1) % 8 = 7 by omega)]; simp
  rw [a1, a2, a3]
theorem tbL_not {x : Int64} {c : Nat} (hc : c < 64) : tbL (x ^^^ (-1)) c = !tbL x c := by
  show (x.toBitVec ^^^ (-1 : Int64).toBitVec).getLsbD c = _
  rw [BitVec.getLsbD_xor]
  have := tbL_m1 hc
  unfold tbL at this ⊢
  rw [this]; simp
/-- the stands from which a stand is come to -/
theorem nb6 {e : Nat → Int64} {t c : Nat} (ht : t < 4) (hc : c < 64) :
    (tbL (f_X6_shifted (e t)) c || (tbL (e ((t + 1) % 4)) c || tbL (e ((t + 3) % 4)) c)) = true ↔ ∃ τ j, τ < 256 ∧ j < 6 ∧ tbL (e (τ / 64)) (τ % 64) = true ∧ mv6 τ j = some (64 * t + c) := by
  rw [tb_shifted hc]
  constructor
  · intro h
    rw [Bool.or_eq_true, Bool.or_eq_true, Bool.or_eq_true, Bool.or_eq_true, Bool.or_eq_true, Bool.and_eq_true, Bool.and_eq_true, Bool.and_eq_true, decide_eq_true_iff, decide_eq_true_iff, decide_eq_true_iff] at h
    rcases h with (((h | h) | h | h) | h | h)
    · have hl : c + 8 < 64 := by
        rcases Nat.lt_or_ge (c + 8) 64 with q | q
        · exact q
        · rw [tbL_ge q] at h; cases h
      refine ⟨64 * t + (c + 8), 0, by omega, by omega, by rw [show (64 * t + (c + 8)) / 64 = t by omega, show (64 * t + (c + 8)) % 64 = c + 8 by omega]; exact h, ?_⟩
      show (if 8 ≤ (64 * t + (c + 8)) % 64 then some (64 * t + (c + 8) - 8) else none) = _
      rw [if_pos (by omega)]; congr 1
    · refine ⟨64 * t + (c - 8), 2, by omega, by omega, by rw [show (64 * t + (c - 8)) / 64 = t by omega, show (64 * t + (c - 8)) % 64 = c - 8 by omega]; exact h.2, ?_⟩
      show (if (64 * t + (c - 8)) % 64 < 56 then some (64 * t + (c - 8) + 8) else none) = _
      rw [if_pos (by omega)]; congr 1; omega
    · have hl : c + 1 < 64 := by
        rcases Nat.lt_or_ge (c + 1) 64 with q | q
        · exact q
        · rw [tbL_ge q] at h; cases h.2
      refine ⟨64 * t + (c + 1), 3, by omega, by omega, by rw [show (64 * t + (c + 1)) / 64 = t by omega, show (64 * t + (c + 1)) % 64 = c + 1 by omega]; exact h.2, ?_⟩
      show (if 0 < (64 * t + (c + 1)) % 8 then some (64 * t + (c + 1) - 1) else none) = _
      rw [if_pos (by omega)]; congr 1
    · refine ⟨64 * t + (c - 1), 1, by omega, by omega, by rw [show (64 * t + (c - 1)) / 64 = t by omega, show (64 * t + (c - 1)) % 64 = c - 1 by omega]; exact h.2, ?_⟩
      show (if (64 * t + (c - 1)) % 8 < 7 then some (64 * t + (c - 1) + 1) else none) = _
      rw [if_pos (by omega)]; congr 1; omega
    · refine ⟨64 * ((t + 1) % 4) + c, 5, by omega, by omega, by rw [show (64 * ((t + 1) % 4) + c) / 64 = (t + 1) % 4 by omega, show (64 * ((t + 1) % 4) + c) % 64 = c by omega]; exact h, ?_⟩
      show some (64 * (((64 * ((t + 1) % 4) + c) / 64 + 3) % 4) + (64 * ((t + 1) % 4) + c) % 64) = _
      congr 1; omega
    · refine ⟨64 * ((t + 3) % 4) + c, 4, by omega, by omega, by rw [show (64 * ((t + 3) % 4) + c) / 64 = (t + 3) % 4 by omega, show (64 * ((t + 3) % 4) + c) % 64 = c by omega]; exact h, ?_⟩
      show some (64 * (((64 * ((t + 3) % 4) + c) / 64 + 1) % 4) + (64 * ((t + 3) % 4) + c) % 64) = _
      congr 1; omega
  · rintro ⟨τ, j, hτ, hj, hb, hm⟩
    rw [Bool.or_eq_true, Bool.or_eq_true, Bool.or_eq_true, Bool.or_eq_true, Bool.or_eq_true, Bool.and_eq_true, Bool.and_eq_true, Bool.and_eq_true, decide_eq_true_iff, decide_eq_true_iff, decide_eq_true_iff]
    rcases (show j = 0 ∨ j = 1 ∨ j = 2 ∨ j = 3 ∨ j = 4 ∨ j = 5 by omega) with rfl | rfl | rfl | rfl | rfl | rfl
    · have hm : (if 8 ≤ τ % 64 then some (τ - 8) else none) = some (64 * t + c) := hm
      split at hm
      · have hm := Option.some.inj hm
        rw [show τ / 64 = t by omega, show τ % 64 = c + 8 by omega] at hb
        exact Or.inl (Or.inl (Or.inl hb))
      · cases hm
    · have hm : (if τ % 8 < 7 then some (τ + 1) else none) = some (64 * t + c) := hm
      split at hm
      · have hm := Option.some.inj hm
        rw [show τ / 64 = t by omega, show τ % 64 = c - 1 by omega] at hb
        exact Or.inl (Or.inr (Or.inr ⟨by omega, hb⟩))
      · cases hm
    · have hm : (if τ % 64 < 56 then some (τ + 8) else none) = some (64 * t + c) := hm
      split at hm
      · have hm := Option.some.inj hm
        rw [show τ / 64 = t by omega, show τ % 64 = c - 8 by omega] at hb
        exact Or.inl (Or.inl (Or.inr ⟨by omega, hb⟩))
      · cases hm
    · have hm : (if 0 < τ % 8 then some (τ - 1) else none) = some (64 * t + c) := hm
      split at hm
      · have hm := Option.some.inj hm
        rw [show τ / 64 = t by omega, show τ % 64 = c + 1 by omega] at hb
        exact Or.inl (Or.inr (Or.inl ⟨by omega, hb⟩))
      · cases hm
    · have hm : some (64 * ((τ / 64 + 1) % 4) + τ % 64) = some (64 * t + c) := hm
      have hm := Option.some.inj hm
      rw [show τ / 64 = (t + 3) % 4 by omega, show τ % 64 = c by omega] at hb
      exact Or.inr (Or.inr hb)
    · have hm : some (64 * ((τ / 64 + 3) % 4) + τ % 64) = some (64 * t + c) := hm
      have hm := Option.some.inj hm
      rw [show τ / 64 = (t + 1) % 4 by omega, show τ % 64 = c by omega] at hb
      exact Or.inr (Or.inl hb)
/-! the search, layer by layer -/
def fstAt (ok : Nat → Bool) (st n σ : Nat) : Prop := rch ok st n σ ∧ ∀ m, m < n → ¬ rch ok st m σ
theorem rch_mono {ok : Nat → Bool} {st σ : Nat} : ∀ {m n : Nat}, m ≤ n → rch ok st m σ → rch ok st n σ := by
  intro m n h
  induction h with
  | refl => exact fun q => q
  | step _ ih => exact fun q => Or.inl (ih q)
theorem rch_lt {ok : Nat → Bool} {st : Nat} (hst : st < 256) : ∀ {n σ : Nat}, rch ok st n σ → σ < 256
  | 0, σ, h => by rw [show σ = st from h]; exact hst
  | n + 1, σ, h => by
    rcases h with h | ⟨_, τ, j, _, h1, h2⟩
    · exact rch_lt hst h
    · exact mv6_lt (rch_lt hst h1) j h2
theorem fst_step {ok : Nat → Bool} {st n σ : Nat} : fstAt ok st (n + 1) σ ↔ ok σ = true ∧ ¬ rch ok st n σ ∧ ∃ τ j, j < 6 ∧ fstAt ok st n τ ∧ mv6 τ j = some σ := by
  constructor
  · rintro ⟨h, hn⟩
    have h0 := hn n (by omega)
    rcases h with h | ⟨h1, τ, j, hj, h2, h3⟩
    · exact absurd h h0
    · refine ⟨h1, h0, τ, j, hj, ⟨h2, fun m hm q => hn (m + 1) (by omega) (Or.inr ⟨h1, τ, j, hj, q, h3⟩)⟩, h3⟩
  · rintro ⟨h1, h0, τ, j, hj, ⟨h2, _⟩, h3⟩
    exact ⟨Or.inr ⟨h1, τ, j, hj, h2, h3⟩, fun m hm q => h0 (rch_mono (by omega) q)⟩
theorem rch_step {ok : Nat → Bool} {st n σ : Nat} : rch ok st (n + 1) σ ↔ rch ok st n σ ∨ fstAt ok st (n + 1) σ := by
  constructor
  · intro h
    by_cases q : rch ok st n σ
    · exact Or.inl q
    · exact Or.inr ⟨h, fun m hm z => q (rch_mono (by omega) z)⟩
  · rintro (h | h)
    · exact Or.inl h
    · exact h.1
theorem rch_stop {ok : Nat → Bool} {st n : Nat} (hst : st < 256) (h : ¬ ∃ σ, σ < 256 ∧ fstAt ok st (n + 1) σ) : ∀ (m σ : Nat), rch ok st m σ → rch ok st n σ
  | 0, σ, q => rch_mono (Nat.zero_le _) q
  | m + 1, σ, q => by
    rcases q with q | ⟨h1, τ, j, hj, h2, h3⟩
    · exact rch_stop hst h m σ q
    · have h4 : rch ok st (n + 1) σ := Or.inr ⟨h1, τ, j, hj, rch_stop hst h m τ h2, h3⟩
      rcases rch_step.mp h4 with z | z
      · exact z
      · exact absurd ⟨σ, rch_lt hst z.1, z⟩ h
theorem rch_few {ok : Nat → Bool} {st n : Nat} (h : ∀ i, i ≤ n → ∃ σ, σ < 256 ∧ fstAt ok st i σ) : n < 256 := by
  have hc : ∃ f : Nat → Nat, ∀ i, i ≤ n → f i < 256 ∧ fstAt ok st i (f i) :=
    ⟨fun i => if q : i ≤ n then Classical.choose (h i q) else 0, fun i hi => by simp only [dif_pos hi]; exact Classical.choose_spec (h i hi)⟩
  obtain ⟨f, hf⟩ := hc
  have := fb_holes 256 (n + 1) f (fun i hi => (hf i (by omega)).1) (fun i j hij hj e => by
    have h1 := (hf i (by omega)).2
    have h2 := (hf j (by omega)).2
    rw [e] at h1
    exact h2.2 i hij h1.1)
  omega
def wk (ok : Nat → Bool) (st n : Nat) (S : MS) : Prop := ∀ t, t < 4 → ∀ c, c < 64 → tbL (S.2 2 t) c = ok (64 * t + c) ∧ (tbL (S.2 3 t) c = true ↔ rch ok st n (64 * t + c)) ∧ (tbL (S.2 4 t) c = true ↔ fstAt ok st n (64 * t + c))
def keepW (S S' : MS) : Prop := S'.1 = S.1 ∧ ∀ k, k ≠ 2 → k ≠ 3 → k ≠ 4 → k ≠ 5 → S'.2 k = S.2 k
theorem keepW.rf (S : MS) : keepW S S := ⟨rfl, fun _ _ _ _ _ => rfl⟩
theorem keepW.tr {S T U : MS} (h : keepW S T) (h' : keepW T U) : keepW S U := ⟨h'.1.trans h.1, fun k a b c d => (h'.2 k a b c d).trans (h.2 k a b c d)⟩
theorem nx_tb {ok : Nat → Bool} {st n : Nat} {S : MS} (h : wk ok st n S) (hst : st < 256) {t c : Nat} (ht : t < 4) (hc : c < 64) : tbL (nx S t) c = true ↔ fstAt ok st (n + 1) (64 * t + c) := by
  obtain ⟨h1, h2, _⟩ := h t ht c hc
  unfold nx
  rw [tbL_and, tbL_and, tbL_or, tbL_or, tbL_not hc, h1, Bool.and_eq_true, Bool.and_eq_true, nb6 (e := S.2 4) ht hc, fst_step, Bool.not_eq_true']
  constructor
  · rintro ⟨⟨⟨τ, j, hτ, hj, hb, hm⟩, ho⟩, hr⟩
    have := (h (τ / 64) (by omega) (τ % 64) (by omega)).2.2.mp hb
    rw [show 64 * (τ / 64) + τ % 64 = τ by omega] at this
    exact ⟨ho, fun q => (by rw [h2.mpr q] at hr; cases hr), τ, j, hj, this, hm⟩
  · rintro ⟨ho, hr, τ, j, hj, hf, hm⟩
    have hτ := rch_lt hst hf.1
    refine ⟨⟨⟨τ, j, hτ, hj, (h (τ / 64) (by omega) (τ % 64) (by omega)).2.2.mpr (by rw [show 64 * (τ / 64) + τ % 64 = τ by omega]; exact hf), hm⟩, ho⟩, ?_⟩
    cases e : tbL (S.2 3 t) c with
    | false => rfl
    | true => exact absurd (h2.mp e) hr
theorem orF_tb (f : Nat → Int64) : ∀ (k i : Nat) (x : Int64) (c : Nat), tbL (itF (fun t x => x ||| f t) i k x) c = true ↔ tbL x c = true ∨ ∃ t, i ≤ t ∧ t < i + k ∧ tbL (f t) c = true
  | 0, i, x, c => by
    constructor
    · exact fun h => Or.inl h
    · rintro (h | ⟨t, h1, h2, _⟩)
      · exact h
      · omega
  | k + 1, i, x, c => by
    show tbL (itF _ (i + 1) k (x ||| f i)) c = true ↔ _
    rw [orF_tb f k (i + 1) _ c, tbL_or, Bool.or_eq_true]
    constructor
    · rintro ((h | h) | ⟨t, h1, h2, h3⟩)
      · exact Or.inl h
      · exact Or.inr ⟨i, Nat.le_refl _, by omega, h⟩
      · exact Or.inr ⟨t, by omega, by omega, h3⟩
    · rintro (h | ⟨t, h1, h2, h3⟩)
      · exact Or.inl (Or.inl h)
      · rcases Nat.lt_or_ge i t with q | q
        · exact Or.inr ⟨t, by omega, by omega, h3⟩
        · rw [show t = i by omega] at h3; exact Or.inl (Or.inr h3)
theorem nz_tb {x : Int64} : ¬ x = 0 ↔ ∃ c, c < 64 ∧ tbL x c = true := by
  constructor
  · intro h
    refine Classical.byContradiction (fun q => h (tbL_ext (fun c hc => ?_)))
    rw [tbL_0]
    cases e : tbL x c with
    | false => rfl
    | true => exact absurd ⟨c, hc, e⟩ q
  · rintro ⟨c, _, h⟩ rfl
    rw [tbL_0] at h; cases h
theorem c_X6_goOn (ad : Nat → Nat) (S : MS) {ok : Nat → Bool} {st n : Nat} (h : wk ok st n S) (hst : st < 256) :
    ∃ r S', (r = true ↔ ∃ σ, σ < 256 ∧ fstAt ok st (n + 1) σ) ∧ wk ok st (n + 1) S' ∧ keepW S S' ∧ ∀ (l : Launch) (D : va_G) (E : Nat → ClassId) (a1 a2 : Nat), Fn l D E a1 a2 yX6_goOn wsX6_goOn 1 23 [.ref (ad 10)] (cW E ad S) (some (.int (b2i r))) (cW E ad S') := by
  obtain ⟨S', ⟨g1, g2, g3⟩, hF⟩ := c_X6_goOn0 ad S
  refine ⟨nxB S, S', ?_, fun t ht c hc => ⟨?_, ?_, ?_⟩, ⟨g2, fun k _ k3 k4 k5 => g3 k k3 k4 k5⟩, hF⟩
  · have e : nxB S = true ↔ ¬ itF (fun t x => x ||| nx S t) 0 4 0 = 0 := by
      unfold nxB
      by_cases q : itF (fun t x => x ||| nx S t) 0 4 0 = 0
      · rw [if_pos q]; exact ⟨fun z => (by cases z), fun z => absurd q z⟩
      · rw [if_neg q]; exact ⟨fun _ => q, fun _ => rfl⟩
    rw [e, nz_tb]
    constructor
    · rintro ⟨c, hc, hb⟩
      rcases (orF_tb (nx S) 4 0 0 c).mp hb with z | ⟨t, _, ht, hb⟩
      · rw [tbL_0] at z; cases z
      · exact ⟨64 * t + c, by omega, (nx_tb h hst (by omega) hc).mp hb⟩
    · rintro ⟨σ, hσ, hf⟩
      refine ⟨σ % 64, by omega, (orF_tb (nx S) 4 0 0 _).mpr (Or.inr ⟨σ / 64, Nat.zero_le _, by omega, (nx_tb h hst (by omega) (by omega)).mpr ?_⟩)⟩
      rw [show 64 * (σ / 64) + σ % 64 = σ by omega]; exact hf
  · rw [g3 2 (by decide) (by decide) (by decide)]; exact (h t ht c hc).1
  · rw [(g1 t ht).2, tbL_or, Bool.or_eq_true, rch_step, (h t ht c hc).2.1, nx_tb h hst ht hc]
  · rw [(g1 t ht).1]; exact nx_tb h hst ht hc
set_option maxRecDepth 20000 in
theorem ggX6_fewestSteps_X6_setOut : GoodIn wsX6_fewestSteps wsX6_setOut := goodIn_r _ [6, 1, 7, 8, 9, 10, 27, 28, 29, 30] (by decide +kernel) (by decide +kernel)
set_option maxRecDepth 20000 in
theorem gX6_fewestSteps_X6_setOut : GoodIn wsX6_fewestSteps (wsV RX6 36 RX6 yX6_setOut wsX6_setOut) := goodIn_app (goodIn_of _ (by decide +kernel)) ggX6_fewestSteps_X6_setOut
set_option maxRecDepth 20000 in
theorem ggX6_fewestSteps_X7_within : GoodIn wsX6_fewestSteps wsX7_within := goodIn_r _ [10] (by decide +kernel) (by decide +kernel)
set_option maxRecDepth 20000 in
theorem gX6_fewestSteps_X7_within_n40 : GoodIn wsX6_fewestSteps (wsX7_within) := ggX6_fewestSteps_X7_within
set_option maxRecDepth 20000 in
theorem ggX6_fewestSteps_X1_has : GoodIn wsX6_fewestSteps wsX1_has := goodIn_r _ [14, 8, 9, 10] (by decide +kernel) (by decide +kernel)
set_option maxRecDepth 20000 in
theorem gX6_fewestSteps_X1_has : GoodIn wsX6_fewestSteps (va_wsS RX6 43 yX1_has wsX1_has) := goodIn_app (goodIn_of _ (by decide +kernel)) ggX6_fewestSteps_X1_has
set_option maxRecDepth 20000 in
theorem ggX6_fewestSteps_X6_goOn : GoodIn wsX6_fewestSteps wsX6_goOn := goodIn_r _ [18, 7, 19, 20, 1, 21, 22, 23, 5, 24, 25, 26, 27, 28, 29, 30] (by decide +kernel) (by decide +kernel)
set_option maxRecDepth 20000 in
theorem gX6_fewestSteps_X6_goOn : GoodIn wsX6_fewestSteps (wsV RX6 47 RX6 yX6_goOn wsX6_goOn) := goodIn_app (goodIn_of _ (by decide +kernel)) ggX6_fewestSteps_X6_goOn
theorem dX6_fewestSteps_0 : decode cX6_fewestSteps 0 = .ok (.aload_n 0, 1) := by decide +kernel
theorem dX6_fewestSteps_1 : decode cX6_fewestSteps 1 = .ok (.iload_n 1, 1) := by decide +kernel
theorem dX6_fewestSteps_2 : decode cX6_fewestSteps 2 = .ok (.iload_n 2, 1) := by decide +kernel
theorem dX6_fewestSteps_3 : decode cX6_fewestSteps 3 = .ok (.invokevirtual 36, 3) := by decide +kernel
theorem dX6_fewestSteps_6 : decode cX6_fewestSteps 6 = .ok (.ifCond .eq 11, 3) := by decide +kernel
theorem dX6_fewestSteps_9 : decode cX6_fewestSteps 9 = .ok (.iload_n 3, 1) := by decide +kernel
theorem dX6_fewestSteps_10 : decode cX6_fewestSteps 10 = .ok (.iconst 4, 1) := by decide +kernel
theorem dX6_fewestSteps_11 : decode cX6_fewestSteps 11 = .ok (.invokestatic 40, 3) := by decide +kernel
theorem dX6_fewestSteps_14 : decode cX6_fewestSteps 14 = .ok (.ifCond .ne 5, 3) := by decide +kernel
theorem dX6_fewestSteps_17 : decode cX6_fewestSteps 17 = .ok (.iconst (-1), 1) := by decide +kernel
theorem dX6_fewestSteps_18 : decode cX6_fewestSteps 18 = .ok (.ireturn, 1) := by decide +kernel
theorem dX6_fewestSteps_19 : decode cX6_fewestSteps 19 = .ok (.aload_n 0, 1) := by decide +kernel
theorem dX6_fewestSteps_20 : decode cX6_fewestSteps 20 = .ok (.getfield 17, 3) := by decide +kernel
theorem dX6_fewestSteps_23 : decode cX6_fewestSteps 23 = .ok (.iload_n 3, 1) := by decide +kernel
theorem dX6_fewestSteps_24 : decode cX6_fewestSteps 24 = .ok (.laload, 1) := by decide +kernel
theorem dX6_fewestSteps_25 : decode cX6_fewestSteps 25 = .ok (.iload 4, 2) := by decide +kernel
theorem dX6_fewestSteps_27 : decode cX6_fewestSteps 27 = .ok (.invokestatic 43, 3) := by decide +kernel
theorem dX6_fewestSteps_30 : decode cX6_fewestSteps 30 = .ok (.ifCond .eq 5, 3) := by decide +kernel
theorem dX6_fewestSteps_33 : decode cX6_fewestSteps 33 = .ok (.iconst 0, 1) := by decide +kernel
theorem dX6_fewestSteps_34 : decode cX6_fewestSteps 34 = .ok (.ireturn, 1) := by decide +kernel
theorem dX6_fewestSteps_35 : decode cX6_fewestSteps 35 = .ok (.iconst 1, 1) := by decide +kernel
theorem dX6_fewestSteps_36 : decode cX6_fewestSteps 36 = .ok (.istore 5, 2) := by decide +kernel
theorem dX6_fewestSteps_38 : decode cX6_fewestSteps 38 = .ok (.iload 5, 2) := by decide +kernel
theorem dX6_fewestSteps_40 : decode cX6_fewestSteps 40 = .ok (.sipush 256, 3) := by decide +kernel
theorem dX6_fewestSteps_43 : decode cX6_fewestSteps 43 = .ok (.if_icmp .gt 33, 3) := by decide +kernel
theorem dX6_fewestSteps_46 : decode cX6_fewestSteps 46 = .ok (.aload_n 0, 1) := by decide +kernel
theorem dX6_fewestSteps_47 : decode cX6_fewestSteps 47 = .ok (.invokevirtual 47, 3) := by decide +kernel
theorem dX6_fewestSteps_50 : decode cX6_fewestSteps 50 = .ok (.ifCond .eq 26, 3) := by decide +kernel
theorem dX6_fewestSteps_53 : decode cX6_fewestSteps 53 = .ok (.aload_n 0, 1) := by decide +kernel
theorem dX6_fewestSteps_54 : decode cX6_fewestSteps 54 = .ok (.getfield 17, 3) := by decide +kernel
theorem dX6_fewestSteps_57 : decode cX6_fewestSteps 57 = .ok (.iload_n 3, 1) := by decide +kernel
theorem dX6_fewestSteps_58 : decode cX6_fewestSteps 58 = .ok (.laload, 1) := by decide +kernel
theorem dX6_fewestSteps_59 : decode cX6_fewestSteps 59 = .ok (.iload 4, 2) := by decide +kernel
theorem dX6_fewestSteps_61 : decode cX6_fewestSteps 61 = .ok (.invokestatic 43, 3) := by decide +kernel
theorem dX6_fewestSteps_64 : decode cX6_fewestSteps 64 = .ok (.ifCond .eq 6, 3) := by decide +kernel
theorem dX6_fewestSteps_67 : decode cX6_fewestSteps 67 = .ok (.iload 5, 2) := by decide +kernel
theorem dX6_fewestSteps_69 : decode cX6_fewestSteps 69 = .ok (.ireturn, 1) := by decide +kernel
theorem dX6_fewestSteps_70 : decode cX6_fewestSteps 70 = .ok (.iinc 5 1, 3) := by decide +kernel
theorem dX6_fewestSteps_73 : decode cX6_fewestSteps 73 = .ok (.goto (-35), 3) := by decide +kernel
theorem dX6_fewestSteps_76 : decode cX6_fewestSteps 76 = .ok (.iconst (-1), 1) := by decide +kernel
theorem dX6_fewestSteps_77 : decode cX6_fewestSteps 77 = .ok (.ireturn, 1) := by decide +kernel
theorem iw_X6_fewestSteps_X6 : ∀ w ∈ u_ws RX6 TX6 4, w ∈ wsX6_fewestSteps := by decide +kernel
theorem lk_X6_fewestSteps_0 : Cond.fieldLink RX6 17 (TX6 1).1 (TX6 1).2.1 (TX6 1).2.2.1 ∈ wsX6_fewestSteps := by decide +kernel
set_option maxRecDepth 100000 in
theorem r_X6_fewestSteps_0 {X : Bn} (C : Cx X cX6_fewestSteps 6 RX6 wsX6_fewestSteps 2 48) (ad : Nat → Nat) (S : MS) (x1 : Int32) (x2 : Int32) (x3 : Int32) (x4 : Int32) (h : (((f_X6_setOut S x1 x2) = true) → ((((f_X7_within x3 (4 : Int32)) = true) → ((vp_in x3 4) ∧ ((((f_X1_has ((s_X6_setOut S x1 x2).2 3 x3.toNatClampNeg) x4) = true) → (Ends X (some .int) (some (.int 0)) (cW X.E ad (s_X6_setOut S x1 x2)))) ∧ ((f_X1_has ((s_X6_setOut S x1 x2).2 3 x3.toNatClampNeg) x4) = false → (At X 6 (cW X.E ad (s_X6_setOut S x1 x2)) 38 [(0, .ref (ad 10)), (3, .int x3), (4, .int x4), (5, .int 1)] []))))) ∧ ((f_X7_within x3 (4 : Int32)) = false → (Ends X (some .int) (some (.int (-1))) (cW X.E ad (s_X6_setOut S x1 x2)))))) ∧ ((f_X6_setOut S x1 x2) = false → (Ends X (some .int) (some (.int (-1))) (cW X.E ad (s_X6_setOut S x1 x2))))) : At X 6 (cW X.E ad S) 0 [(0, .ref (ad 10)), (1, .int x1), (2, .int x2), (3, .int x3), (4, .int x4)] [] := by
  refine at_aload_n C dX6_fewestSteps_0 rfl (j := 0) rfl ?_
  refine at_iload_n C dX6_fewestSteps_1 rfl (j := 1) rfl ?_
  refine at_iload_n C dX6_fewestSteps_2 rfl (j := 2) rfl ?_
  refine at_cV1 C 2 (e_X6_setOut X.l X.D X.E X.a1 X.a2 ad S x1 x2) gX6_fewestSteps_X6_setOut rfl (by decide +kernel) ⟨rfl, rfl⟩ rfl rfl rfl 10 cW_c10 rfl dX6_fewestSteps_3 ?_
  refine at_ifB_eq C dX6_fewestSteps_6 (tgt := 17) (by decide) (fun hc0 => ?_) (fun hc0 => ?_)
  · replace h := h.2 hc0
    refine at_iconst C dX6_fewestSteps_17 (v := (-1)) rfl ?_
    exact at_iret C dX6_fewestSteps_18 h
  · replace h := h.1 hc0
    refine at_iload_n C dX6_fewestSteps_9 rfl (j := 3) rfl ?_
    refine at_iconst C dX6_fewestSteps_10 (v := 4) rfl ?_
    refine at_cN0 C 2 (c_X7_within X.l X.D X.E X.a1 X.a2 x3 (4 : Int32)) ggX6_fewestSteps_X7_within rfl (host := RX7) (by decide +kernel) (by decide +kernel) (by decide +kernel) (by decide +kernel) ⟨rfl, rfl⟩ rfl rfl rfl dX6_fewestSteps_11 ?_
    refine at_ifB_ne C dX6_fewestSteps_14 (tgt := 19) (by decide) (fun hc1 => ?_) (fun hc1 => ?_)
    · replace h := h.1 hc1
      refine at_aload_n C dX6_fewestSteps_19 rfl (j := 0) rfl ?_
      refine at_get C (K := RX6) (T := TX6) (N := 4) (ci := 5) (v := .ref (ad 12)) iw_X6_fewestSteps_X6 10 cW_c10 rfl 1 (by decide) lk_X6_fewestSteps_0 rfl dX6_fewestSteps_20 ?_
      refine at_iload_n C dX6_fewestSteps_23 rfl (j := 3) rfl ?_
      refine at_lald C 12 cW_c12 h.1 dX6_fewestSteps_24 ?_
      replace h := h.2
      refine at_iload C dX6_fewestSteps_25 (j := 4) rfl ?_
      refine at_cS0 C 2 (c_X1_has X.l X.D X.E X.a1 X.a2 ((s_X6_setOut S x1 x2).2 3 x3.toNatClampNeg) x4) gX6_fewestSteps_X1_has rfl (by decide +kernel) ⟨rfl, rfl⟩ rfl rfl rfl dX6_fewestSteps_27 ?_
      refine at_ifB_eq C dX6_fewestSteps_30 (tgt := 35) (by decide) (fun hc2 => ?_) (fun hc2 => ?_)
      · replace h := h.2 hc2
        refine at_iconst C dX6_fewestSteps_35 (v := 1) rfl ?_
        refine at_istore C dX6_fewestSteps_36 (by decide) (lv' := [(5, .int 1), (0, .ref (ad 10)), (1, .int x1), (2, .int x2), (3, .int x3), (4, .int x4)]) rfl ?_
        refine at_lv [1, 4, 5, 0] rfl ?_
        exact h
      · replace h := h.1 hc2
        refine at_iconst C dX6_fewestSteps_33 (v := 0) rfl ?_
        exact at_iret C dX6_fewestSteps_34 h
    · replace h := h.2 hc1
      refine at_iconst C dX6_fewestSteps_17 (v := (-1)) rfl ?_
      exact at_iret C dX6_fewestSteps_18 h
set_option maxRecDepth 100000 in
theorem r_X6_fewestSteps_38 {X : Bn} (C : Cx X cX6_fewestSteps 6 RX6 wsX6_fewestSteps 2 48) (ad : Nat → Nat) (S : MS) (x3 : Int32) (x4 : Int32) (x5 : Int32) (h : ((256 < x5) → (Ends X (some .int) (some (.int (-1))) (cW X.E ad S))) ∧ (¬ 256 < x5 → (∃ (r1 : Bool) (S1 : MS), (Fn X.l X.D X.E X.a1 X.a2 yX6_goOn wsX6_goOn 1 23 [.ref (ad 10)] (cW X.E ad S) (some (.int (b2i r1))) (cW X.E ad S1)) ∧ (((r1 = true) → ((vp_in x3 4) ∧ ((((f_X1_has (S1.2 3 x3.toNatClampNeg) x4) = true) → (Ends X (some .int) (some (.int x5)) (cW X.E ad S1))) ∧ ((f_X1_has (S1.2 3 x3.toNatClampNeg) x4) = false → (At X 6 (cW X.E ad S1) 38 [(0, .ref (ad 10)), (3, .int x3), (4, .int x4), (5, .int (x5 + 1))] []))))) ∧ (r1 = false → (Ends X (some .int) (some (.int (-1))) (cW X.E ad S1))))))) : At X 6 (cW X.E ad S) 38 [(0, .ref (ad 10)), (3, .int x3), (4, .int x4), (5, .int x5)] [] := by
  refine at_iload C dX6_fewestSteps_38 (j := 3) rfl ?_
  refine at_sipush C dX6_fewestSteps_40 (v := 256) rfl ?_
  refine at_icmp_gt C dX6_fewestSteps_43 (tgt := 76) (by decide) (fun hc3 => ?_) (fun hc3 => ?_)
  · replace h := h.1 hc3
    refine at_iconst C dX6_fewestSteps_76 (v := (-1)) rfl ?_
    exact at_iret C dX6_fewestSteps_77 h
  · replace h := h.2 hc3
    refine at_aload_n C dX6_fewestSteps_46 rfl (j := 0) rfl ?_
    obtain ⟨r1, S1, hF1, h⟩ := h
    refine at_cV1 C 0 hF1 gX6_fewestSteps_X6_goOn rfl (by decide +kernel) ⟨rfl, rfl⟩ rfl rfl rfl 10 cW_c10 rfl dX6_fewestSteps_47 ?_
    refine at_ifB_eq C dX6_fewestSteps_50 (tgt := 76) (by decide) (fun hc4 => ?_) (fun hc4 => ?_)
    · replace h := h.2 hc4
      refine at_iconst C dX6_fewestSteps_76 (v := (-1)) rfl ?_
      exact at_iret C dX6_fewestSteps_77 h
    · replace h := h.1 hc4
      refine at_aload_n C dX6_fewestSteps_53 rfl (j := 0) rfl ?_
      refine at_get C (K := RX6) (T := TX6) (N := 4) (ci := 5) (v := .ref (ad 12)) iw_X6_fewestSteps_X6 10 cW_c10 rfl 1 (by decide) lk_X6_fewestSteps_0 rfl dX6_fewestSteps_54 ?_
      refine at_iload_n C dX6_fewestSteps_57 rfl (j := 1) rfl ?_
      refine at_lald C 12 cW_c12 h.1 dX6_fewestSteps_58 ?_
      replace h := h.2
      refine at_iload C dX6_fewestSteps_59 (j := 2) rfl ?_
      refine at_cS0 C 2 (c_X1_has X.l X.D X.E X.a1 X.a2 (S1.2 3 x3.toNatClampNeg) x4) gX6_fewestSteps_X1_has rfl (by decide +kernel) ⟨rfl, rfl⟩ rfl rfl rfl dX6_fewestSteps_61 ?_
      refine at_ifB_eq C dX6_fewestSteps_64 (tgt := 70) (by decide) (fun hc5 => ?_) (fun hc5 => ?_)
      · replace h := h.2 hc5
        refine at_iinc C dX6_fewestSteps_70 (j := 3) (v := x5 + 1) rfl rfl (by decide) (lv' := [(5, .int (x5 + 1)), (0, .ref (ad 10)), (3, .int x3), (4, .int x4)]) rfl ?_
        refine at_goto C dX6_fewestSteps_73 (tgt := 38) (by decide) ?_
        refine at_lv [1, 2, 3, 0] rfl ?_
        exact h
      · replace h := h.1 hc5
        refine at_iload C dX6_fewestSteps_67 (j := 3) rfl ?_
        exact at_iret C dX6_fewestSteps_69 h
def stN (ok : Nat → Bool) (S : MS) : Prop := ∀ t, t < 4 → S.2 3 t = 0 ∧ S.2 4 t = 0 ∧ ∀ c, c < 64 → tbL (S.2 2 t) c = ok (64 * t + c)
theorem setOut_y {S : MS} {t c : Nat} (ht : t < 4) (hc : c < 64) : f_X6_setOut S (nI t) (nI c) = true ∧ s_X6_setOut S (nI t) (nI c) = pv (pv S 3 t (lshl 1 (nI c))) 4 t (lshl 1 (nI c)) := by
  unfold f_X6_setOut s_X6_setOut
  rw [show (4 : Int32) = nI 4 from rfl, show (64 : Int32) = nI 64 from rfl, within_y (by decide) ht, within_y (by decide) hc, nI_clamp (by omega)]
  exact ⟨rfl, rfl⟩
theorem wk_0 {ok : Nat → Bool} {S : MS} {t c : Nat} (h : stN ok S) (ht : t < 4) (hc : c < 64) : wk ok (64 * t + c) 0 (pv (pv S 3 t (lshl 1 (nI c))) 4 t (lshl 1 (nI c))) := by
  intro t' ht' c' hc'
  have e3 : tbL ((pv (pv S 3 t (lshl 1 (nI c))) 4 t (lshl 1 (nI c))).2 3 t') c' = true ↔ 64 * t' + c' = 64 * t + c := by
    rw [pv_o (by decide)]
    by_cases q : t' = t
    · subst q
      rw [pv_s, tbL_bit hc, decide_eq_true_iff]; omega
    · rw [pv_n q, (h t' ht').1, tbL_0]
      exact ⟨fun z => (by cases z), fun z => by omega⟩
  have e4 : tbL ((pv (pv S 3 t (lshl 1 (nI c))) 4 t (lshl 1 (nI c))).2 4 t') c' = true ↔ 64 * t' + c' = 64 * t + c := by
    by_cases q : t' = t
    · subst q
      rw [pv_s, tbL_bit hc, decide_eq_true_iff]; omega
    · rw [pv_n q, pv_o (by decide), (h t' ht').2.1, tbL_0]
      exact ⟨fun z => (by cases z), fun z => by omega⟩
  refine ⟨?_, e3, e4.trans ⟨fun q => ⟨q, fun m hm => absurd hm (Nat.not_lt_zero m)⟩, fun q => q.1⟩⟩
  rw [pv_o (by decide), pv_o (by decide)]
  exact (h t' ht').2.2 c' hc'
def thr1 (ok : Nat → Bool) (st tg : Nat) (r : Int32) : Prop := (r = -1 ∧ ∀ n, ¬ rch ok st n tg) ∨ ∃ m, m ≤ 256 ∧ r = nI m ∧ rch ok st m tg ∧ ∀ n, rch ok st n tg → m ≤ n
theorem c_X6_fewestSteps (ad : Nat → Nat) (S : MS) {ok : Nat → Bool} (h : stN ok S) {t c u to : Nat} (ht : t < 4) (hc : c < 64) (hu : u < 4) (hto : to < 64) :
    ∃ r S', thr1 ok (64 * t + c) (64 * u + to) r ∧ keepW S S' ∧ ∀ (l : Launch) (D : va_G) (E : Nat → ClassId) (a1 a2 : Nat), Fn l D E a1 a2 yX6_fewestSteps wsX6_fewestSteps 2 48 [.ref (ad 10), .int (nI t), .int (nI c), .int (nI u), .int (nI to)] (cW E ad S) (some (.int r)) (cW E ad S') := by
  have hst : 64 * t + c < 256 := by omega
  obtain ⟨so1, so2⟩ := setOut_y (S := S) ht hc
  have w0 := wk_0 h ht hc
  generalize hS0 : pv (pv S 3 t (lshl 1 (nI c))) 4 t (lshl 1 (nI c)) = S0 at so2 w0
  have k0 : keepW S S0 := by
    rw [← hS0]
    exact ⟨rfl, fun k _ k3 k4 _ => by rw [pv_r k4, pv_r k3]⟩
  generalize 64 * t + c = st at w0 hst
  have cu : (nI u).toNatClampNeg = u := nI_clamp (by omega)
  have v4 : vp_in (nI u) 4 := vp_in_nI hu (by decide)
  have hw4 : f_X7_within (nI u) 4 = true := within_y (n := 4) (by decide) hu
  have loop : ∀ (k n : Nat) (T : MS), n + k = 256 → wk ok st n T → (∀ i, i ≤ n → ∃ σ, σ < 256 ∧ fstAt ok st i σ) → ¬ rch ok st n (64 * u + to) →
      ∃ r S', thr1 ok st (64 * u + to) r ∧ keepW T S' ∧ ∀ X : Bn, Cx X cX6_fewestSteps 6 RX6 wsX6_fewestSteps 2 48 → Ends X (some .int) (some (.int r)) (cW X.E ad S') → At X 6 (cW X.E ad T) 38 [(0, .ref (ad 10)), (3, .int (nI u)), (4, .int (nI to)), (5, .int (nI (n + 1)))] [] := by
    intro k
    induction k with
    | zero =>
      intro n T hn hw hf hno
      have := rch_few hf
      omega
    | succ k ih =>
      intro n T hn hw hf hno
      obtain ⟨r1, S1, hr1, hw1, hk1, hF1⟩ := c_X6_goOn ad T hw hst
      have h256 : ¬ (256 : Int32) < nI (n + 1) := fun q => absurd ((nlt (a := 256) (by decide) (by omega)).mp q) (by omega)
      cases hr : r1 with
      | false =>
        subst hr
        refine ⟨-1, S1, Or.inl ⟨rfl, fun m q => hno (rch_stop hst (fun z => by have := hr1.mpr z; cases this) m _ q)⟩, hk1, fun X C hE => ?_⟩
        exact r_X6_fewestSteps_38 C ad T _ _ _ ⟨fun q => absurd q h256, fun _ => ⟨false, S1, hF1 _ _ _ _ _, fun q => (by cases q), fun _ => hE⟩⟩
      | true =>
        subst hr
        by_cases hin : rch ok st (n + 1) (64 * u + to)
        · have hb : f_X1_has (S1.2 3 u) (nI to) = true := by rw [has_eq hto]; exact (hw1 u hu to hto).2.1.mpr hin
          refine ⟨nI (n + 1), S1, Or.inr ⟨n + 1, by omega, rfl, hin, fun m q => ?_⟩, hk1, fun X C hE => ?_⟩
          · rcases Nat.lt_or_ge n m with z | z
            · exact z
            · exact absurd (rch_mono z q) hno
          · refine r_X6_fewestSteps_38 C ad T _ _ _ ⟨fun q => absurd q h256, fun _ => ⟨true, S1, hF1 _ _ _ _ _, fun _ => ⟨v4, ?_⟩, fun q => (by cases q)⟩⟩
            rw [cu]
            exact ⟨fun _ => hE, fun q => by rw [hb] at q; cases q⟩
        · have hb : f_X1_has (S1.2 3 u) (nI to) = false := by
            rw [has_eq hto]
            cases e : tbL (S1.2 3 u) to with
            | false => rfl
            | true => exact absurd ((hw1 u hu to hto).2.1.mp e) hin
          obtain ⟨r, S', h1, h2, h3⟩ := ih (n + 1) S1 (by omega) hw1 (fun i hi => by
            rcases Nat.lt_or_ge n i with z | z
            · rw [show i = n + 1 by omega]; exact hr1.mp rfl
            · exact hf i z) hin
          refine ⟨r, S', h1, hk1.tr h2, fun X C hE => ?_⟩
          refine r_X6_fewestSteps_38 C ad T _ _ _ ⟨fun q => absurd q h256, fun _ => ⟨true, S1, hF1 _ _ _ _ _, fun _ => ⟨v4, ?_⟩, fun q => (by cases q)⟩⟩
          rw [cu, nI_1]
          exact ⟨fun q => (by rw [hb] at q; cases q), fun _ => h3 X C hE⟩
  by_cases hin : rch ok st 0 (64 * u + to)
  · have hb : f_X1_has (S0.2 3 u) (nI to) = true := by rw [has_eq hto]; exact (w0 u hu to hto).2.1.mpr hin
    refine ⟨0, S0, Or.inr ⟨0, by decide, rfl, hin, fun m _ => Nat.zero_le _⟩, k0, fun l D E a1 a2 => ?_⟩
    refine Fn.of (cc := cX6_fewestSteps) (maxL := 6) (ret := (some .int)) (own := RX6) (by decide) rfl rfl (sameC _ _ _ _) (Nat.le_of_ble_eq_true rfl) (fun X q1 q2 q3 q4 q5 C hE => ?_)
    subst q1 q2 q3 q4 q5
    refine r_X6_fewestSteps_0 C ad S _ _ _ _ ?_
    rw [so1, so2, hw4, cu, hb]
    exact ⟨fun _ => ⟨fun _ => ⟨v4, fun _ => hE, fun q => (by cases q)⟩, fun q => (by cases q)⟩, fun q => (by cases q)⟩
  · have hb : f_X1_has (S0.2 3 u) (nI to) = false := by
      rw [has_eq hto]
      cases e : tbL (S0.2 3 u) to with
      | false => rfl
      | true => exact absurd ((w0 u hu to hto).2.1.mp e) hin
    obtain ⟨r, S', h1, h2, h3⟩ := loop 256 0 S0 rfl w0 (fun i hi => ⟨st, hst, by rw [show i = 0 by omega]; exact ⟨rfl, fun m hm => absurd hm (Nat.not_lt_zero m)⟩⟩) hin
    refine ⟨r, S', h1, k0.tr h2, fun l D E a1 a2 => ?_⟩
    refine Fn.of (cc := cX6_fewestSteps) (maxL := 6) (ret := (some .int)) (own := RX6) (by decide) rfl rfl (sameC _ _ _ _) (Nat.le_of_ble_eq_true rfl) (fun X q1 q2 q3 q4 q5 C hE => ?_)
    subst q1 q2 q3 q4 q5
    refine r_X6_fewestSteps_0 C ad S _ _ _ _ ?_
    rw [so1, so2, hw4, cu, hb]
    exact ⟨fun _ => ⟨fun _ => ⟨v4, fun q => (by cases q), fun _ => h3 X C hE⟩, fun q => (by cases q)⟩, fun q => (by cases q)⟩
set_option maxRecDepth 20000 in
theorem ggX6_cellsReached_X6_setOut : GoodIn wsX6_cellsReached wsX6_setOut := goodIn_r _ [6, 1, 7, 8, 9, 10, 30, 31, 32, 33] (by decide +kernel) (by decide +kernel)
set_option maxRecDepth 20000 in
theorem gX6_cellsReached_X6_setOut : GoodIn wsX6_cellsReached (wsV RX6 36 RX6 yX6_setOut wsX6_setOut) := goodIn_app (goodIn_of _ (by decide +kernel)) ggX6_cellsReached_X6_setOut
set_option maxRecDepth 20000 in
theorem ggX6_cellsReached_X6_goOn : GoodIn wsX6_cellsReached wsX6_goOn := goodIn_r _ [14, 7, 15, 16, 1, 17, 18, 19, 5, 20, 21, 22, 30, 31, 32, 33] (by decide +kernel) (by decide +kernel)
set_option maxRecDepth 20000 in
theorem gX6_cellsReached_X6_goOn : GoodIn wsX6_cellsReached (wsV RX6 47 RX6 yX6_goOn wsX6_goOn) := goodIn_app (goodIn_of _ (by decide +kernel)) ggX6_cellsReached_X6_goOn
set_option maxRecDepth 20000 in
theorem ggX6_cellsReached_J13_bitCount_95d88 : GoodIn wsX6_cellsReached wsJ13_bitCount_95d88 := goodIn_r _ [26, 27, 28, 29] (by decide +kernel) (by decide +kernel)
set_option maxRecDepth 20000 in
theorem gX6_cellsReached_J13_bitCount_95d88 : GoodIn wsX6_cellsReached (va_wsS RX6 51 yJ13_bitCount_95d88 wsJ13_bitCount_95d88) := goodIn_app (goodIn_of _ (by decide +kernel)) ggX6_cellsReached_J13_bitCount_95d88
theorem dX6_cellsReached_0 : decode cX6_cellsReached 0 = .ok (.aload_n 0, 1) := by decide +kernel
theorem dX6_cellsReached_1 : decode cX6_cellsReached 1 = .ok (.iload_n 1, 1) := by decide +kernel
theorem dX6_cellsReached_2 : decode cX6_cellsReached 2 = .ok (.iload_n 2, 1) := by decide +kernel
theorem dX6_cellsReached_3 : decode cX6_cellsReached 3 = .ok (.invokevirtual 36, 3) := by decide +kernel
theorem dX6_cellsReached_6 : decode cX6_cellsReached 6 = .ok (.ifCond .ne 5, 3) := by decide +kernel
theorem dX6_cellsReached_9 : decode cX6_cellsReached 9 = .ok (.iconst 0, 1) := by decide +kernel
theorem dX6_cellsReached_10 : decode cX6_cellsReached 10 = .ok (.ireturn, 1) := by decide +kernel
theorem dX6_cellsReached_11 : decode cX6_cellsReached 11 = .ok (.iconst 0, 1) := by decide +kernel
theorem dX6_cellsReached_12 : decode cX6_cellsReached 12 = .ok (.istore_n 3, 1) := by decide +kernel
theorem dX6_cellsReached_13 : decode cX6_cellsReached 13 = .ok (.iload_n 3, 1) := by decide +kernel
theorem dX6_cellsReached_14 : decode cX6_cellsReached 14 = .ok (.sipush 256, 3) := by decide +kernel
theorem dX6_cellsReached_17 : decode cX6_cellsReached 17 = .ok (.if_icmp .ge 16, 3) := by decide +kernel
theorem dX6_cellsReached_20 : decode cX6_cellsReached 20 = .ok (.aload_n 0, 1) := by decide +kernel
theorem dX6_cellsReached_21 : decode cX6_cellsReached 21 = .ok (.invokevirtual 47, 3) := by decide +kernel
theorem dX6_cellsReached_24 : decode cX6_cellsReached 24 = .ok (.ifCond .eq 9, 3) := by decide +kernel
theorem dX6_cellsReached_27 : decode cX6_cellsReached 27 = .ok (.iinc 3 1, 3) := by decide +kernel
theorem dX6_cellsReached_30 : decode cX6_cellsReached 30 = .ok (.goto (-17), 3) := by decide +kernel
theorem dX6_cellsReached_33 : decode cX6_cellsReached 33 = .ok (.lconst 0, 1) := by decide +kernel
theorem dX6_cellsReached_34 : decode cX6_cellsReached 34 = .ok (.lstore 4, 2) := by decide +kernel
theorem dX6_cellsReached_36 : decode cX6_cellsReached 36 = .ok (.iconst 0, 1) := by decide +kernel
theorem dX6_cellsReached_37 : decode cX6_cellsReached 37 = .ok (.istore 6, 2) := by decide +kernel
theorem dX6_cellsReached_39 : decode cX6_cellsReached 39 = .ok (.iload 6, 2) := by decide +kernel
theorem dX6_cellsReached_41 : decode cX6_cellsReached 41 = .ok (.iconst 4, 1) := by decide +kernel
theorem dX6_cellsReached_42 : decode cX6_cellsReached 42 = .ok (.if_icmp .ge 21, 3) := by decide +kernel
theorem dX6_cellsReached_45 : decode cX6_cellsReached 45 = .ok (.lload 4, 2) := by decide +kernel
theorem dX6_cellsReached_47 : decode cX6_cellsReached 47 = .ok (.aload_n 0, 1) := by decide +kernel
theorem dX6_cellsReached_48 : decode cX6_cellsReached 48 = .ok (.getfield 17, 3) := by decide +kernel
theorem dX6_cellsReached_51 : decode cX6_cellsReached 51 = .ok (.iload 6, 2) := by decide +kernel
theorem dX6_cellsReached_53 : decode cX6_cellsReached 53 = .ok (.laload, 1) := by decide +kernel
theorem dX6_cellsReached_54 : decode cX6_cellsReached 54 = .ok (.lor, 1) := by decide +kernel
theorem dX6_cellsReached_55 : decode cX6_cellsReached 55 = .ok (.lstore 4, 2) := by decide +kernel
theorem dX6_cellsReached_57 : decode cX6_cellsReached 57 = .ok (.iinc 6 1, 3) := by decide +kernel
theorem dX6_cellsReached_60 : decode cX6_cellsReached 60 = .ok (.goto (-21), 3) := by decide +kernel
theorem dX6_cellsReached_63 : decode cX6_cellsReached 63 = .ok (.lload 4, 2) := by decide +kernel
theorem dX6_cellsReached_65 : decode cX6_cellsReached 65 = .ok (.invokestatic 51, 3) := by decide +kernel
theorem dX6_cellsReached_68 : decode cX6_cellsReached 68 = .ok (.ireturn, 1) := by decide +kernel
theorem iw_X6_cellsReached_X6 : ∀ w ∈ u_ws RX6 TX6 4, w ∈ wsX6_cellsReached := by decide +kernel
theorem lk_X6_cellsReached_0 : Cond.fieldLink RX6 17 (TX6 1).1 (TX6 1).2.1 (TX6 1).2.2.1 ∈ wsX6_cellsReached := by decide +kernel
set_option maxRecDepth 100000 in
theorem r_X6_cellsReached_0 {X : Bn} (C : Cx X cX6_cellsReached 7 RX6 wsX6_cellsReached 2 48) (ad : Nat → Nat) (S : MS) (x1 : Int32) (x2 : Int32) (h : (((f_X6_setOut S x1 x2) = true) → (At X 7 (cW X.E ad (s_X6_setOut S x1 x2)) 13 [(0, .ref (ad 10)), (3, .int 0)] [])) ∧ ((f_X6_setOut S x1 x2) = false → (Ends X (some .int) (some (.int 0)) (cW X.E ad (s_X6_setOut S x1 x2))))) : At X 7 (cW X.E ad S) 0 [(0, .ref (ad 10)), (1, .int x1), (2, .int x2)] [] := by
  refine at_aload_n C dX6_cellsReached_0 rfl (j := 0) rfl ?_
  refine at_iload_n C dX6_cellsReached_1 rfl (j := 1) rfl ?_
  refine at_iload_n C dX6_cellsReached_2 rfl (j := 2) rfl ?_
  refine at_cV1 C 2 (e_X6_setOut X.l X.D X.E X.a1 X.a2 ad S x1 x2) gX6_cellsReached_X6_setOut rfl (by decide +kernel) ⟨rfl, rfl⟩ rfl rfl rfl 10 cW_c10 rfl dX6_cellsReached_3 ?_
  refine at_ifB_ne C dX6_cellsReached_6 (tgt := 11) (by decide) (fun hc0 => ?_) (fun hc0 => ?_)
  · replace h := h.1 hc0
    refine at_iconst C dX6_cellsReached_11 (v := 0) rfl ?_
    refine at_istore_n C dX6_cellsReached_12 rfl (by decide) (lv' := [(3, .int 0), (0, .ref (ad 10)), (1, .int x1), (2, .int x2)]) rfl ?_
    refine at_lv [1, 0] rfl ?_
    exact h
  · replace h := h.2 hc0
    refine at_iconst C dX6_cellsReached_9 (v := 0) rfl ?_
    exact at_iret C dX6_cellsReached_10 h
set_option maxRecDepth 100000 in
theorem r_X6_cellsReached_13 {X : Bn} (C : Cx X cX6_cellsReached 7 RX6 wsX6_cellsReached 2 48) (ad : Nat → Nat) (S : MS) (x3 : Int32) (h : ((256 ≤ x3) → (At X 7 (cW X.E ad S) 39 [(0, .ref (ad 10)), (4, .long 0), (6, .int 0)] [])) ∧ (¬ 256 ≤ x3 → (∃ (r1 : Bool) (S1 : MS), (Fn X.l X.D X.E X.a1 X.a2 yX6_goOn wsX6_goOn 1 23 [.ref (ad 10)] (cW X.E ad S) (some (.int (b2i r1))) (cW X.E ad S1)) ∧ (((r1 = true) → (At X 7 (cW X.E ad S1) 13 [(0, .ref (ad 10)), (3, .int (x3 + 1))] [])) ∧ (r1 = false → (At X 7 (cW X.E ad S1) 39 [(0, .ref (ad 10)), (4, .long 0), (6, .int 0)] [])))))) : At X 7 (cW X.E ad S) 13 [(0, .ref (ad 10)), (3, .int x3)] [] := by
  refine at_iload_n C dX6_cellsReached_13 rfl (j := 1) rfl ?_
  refine at_sipush C dX6_cellsReached_14 (v := 256) rfl ?_
  refine at_icmp_ge C dX6_cellsReached_17 (tgt := 33) (by decide) (fun hc1 => ?_) (fun hc1 => ?_)
  · replace h := h.1 hc1
    refine at_lconst C dX6_cellsReached_33 (v := 0) rfl ?_
    refine at_lstore C dX6_cellsReached_34 (by decide) (lv' := [(4, .long 0), (0, .ref (ad 10)), (3, .int x3)]) rfl ?_
    refine at_iconst C dX6_cellsReached_36 (v := 0) rfl ?_
    refine at_istore C dX6_cellsReached_37 (by decide) (lv' := [(6, .int 0), (4, .long 0), (0, .ref (ad 10)), (3, .int x3)]) rfl ?_
    refine at_lv [2, 1, 0] rfl ?_
    exact h
  · replace h := h.2 hc1
    refine at_aload_n C dX6_cellsReached_20 rfl (j := 0) rfl ?_
    obtain ⟨r1, S1, hF1, h⟩ := h
    refine at_cV1 C 0 hF1 gX6_cellsReached_X6_goOn rfl (by decide +kernel) ⟨rfl, rfl⟩ rfl rfl rfl 10 cW_c10 rfl dX6_cellsReached_21 ?_
    refine at_ifB_eq C dX6_cellsReached_24 (tgt := 33) (by decide) (fun hc2 => ?_) (fun hc2 => ?_)
    · replace h := h.2 hc2
      refine at_lconst C dX6_cellsReached_33 (v := 0) rfl ?_
      refine at_lstore C dX6_cellsReached_34 (by decide) (lv' := [(4, .long 0), (0, .ref (ad 10)), (3, .int x3)]) rfl ?_
      refine at_iconst C dX6_cellsReached_36 (v := 0) rfl ?_
      refine at_istore C dX6_cellsReached_37 (by decide) (lv' := [(6, .int 0), (4, .long 0), (0, .ref (ad 10)), (3, .int x3)]) rfl ?_
      refine at_lv [2, 1, 0] rfl ?_
      exact h
    · replace h := h.1 hc2
      refine at_iinc C dX6_cellsReached_27 (j := 1) (v := x3 + 1) rfl rfl (by decide) (lv' := [(3, .int (x3 + 1)), (0, .ref (ad 10))]) rfl ?_
      refine at_goto C dX6_cellsReached_30 (tgt := 13) (by decide) ?_
      refine at_lv [1, 0] rfl ?_
      exact h
set_option maxRecDepth 100000 in
theorem r_X6_cellsReached_39 {X : Bn} (C : Cx X cX6_cellsReached 7 RX6 wsX6_cellsReached 2 48) (ad : Nat → Nat) (S : MS) (x4 : Int64) (x6 : Int32) (h : ((4 ≤ x6) → (Ends X (some .int) (some (.int (f_J13_bitCount_95d88 x4))) (cW X.E ad S))) ∧ (¬ 4 ≤ x6 → ((vp_in x6 4) ∧ (At X 7 (cW X.E ad S) 39 [(0, .ref (ad 10)), (4, .long (x4 ||| (S.2 3 x6.toNatClampNeg))), (6, .int (x6 + 1))] [])))) : At X 7 (cW X.E ad S) 39 [(0, .ref (ad 10)), (4, .long x4), (6, .int x6)] [] := by
  refine at_iload C dX6_cellsReached_39 (j := 2) rfl ?_
  refine at_iconst C dX6_cellsReached_41 (v := 4) rfl ?_
  refine at_icmp_ge C dX6_cellsReached_42 (tgt := 63) (by decide) (fun hc3 => ?_) (fun hc3 => ?_)
  · replace h := h.1 hc3
    refine at_lload C dX6_cellsReached_63 (j := 1) rfl ?_
    refine at_cS0 C 1 (c_J13_bitCount_95d88 X.l X.D X.E X.a1 X.a2 x4) gX6_cellsReached_J13_bitCount_95d88 rfl (by decide +kernel) ⟨rfl, rfl⟩ rfl rfl rfl dX6_cellsReached_65 ?_
    exact at_iret C dX6_cellsReached_68 h
  · replace h := h.2 hc3
    refine at_lload C dX6_cellsReached_45 (j := 1) rfl ?_
    refine at_aload_n C dX6_cellsReached_47 rfl (j := 0) rfl ?_
    refine at_get C (K := RX6) (T := TX6) (N := 4) (ci := 5) (v := .ref (ad 12)) iw_X6_cellsReached_X6 10 cW_c10 rfl 1 (by decide) lk_X6_cellsReached_0 rfl dX6_cellsReached_48 ?_
    refine at_iload C dX6_cellsReached_51 (j := 2) rfl ?_
    refine at_lald C 12 cW_c12 h.1 dX6_cellsReached_53 ?_
    replace h := h.2
    refine at_lor C dX6_cellsReached_54 ?_
    refine at_lstore C dX6_cellsReached_55 (by decide) (lv' := [(4, .long (x4 ||| (S.2 3 x6.toNatClampNeg))), (0, .ref (ad 10)), (6, .int x6)]) rfl ?_
    refine at_iinc C dX6_cellsReached_57 (j := 2) (v := x6 + 1) rfl rfl (by decide) (lv' := [(6, .int (x6 + 1)), (4, .long (x4 ||| (S.2 3 x6.toNatClampNeg))), (0, .ref (ad 10))]) rfl ?_
    refine at_goto C dX6_cellsReached_60 (tgt := 39) (by decide) ?_
    refine at_lv [2, 1, 0] rfl ?_
    exact h
theorem c_X6_cellsReached (ad : Nat → Nat) (S : MS) {ok : Nat → Bool} (h : stN ok S) {t c : Nat} (ht : t < 4) (hc : c < 64) :
    ∃ v S', (∀ d, d < 64 → (tbL v d = true ↔ ∃ u n, u < 4 ∧ rch ok (64 * t + c) n (64 * u + d))) ∧ keepW S S' ∧ ∀ (l : Launch) (D : va_G) (E : Nat → ClassId) (a1 a2 : Nat), Fn l D E a1 a2 yX6_cellsReached wsX6_cellsReached 2 48 [.ref (ad 10), .int (nI t), .int (nI c)] (cW E ad S) (some (.int (f_J13_bitCount_95d88 v))) (cW E ad S') := by
  have hst : 64 * t + c < 256 := by omega
  obtain ⟨so1, so2⟩ := setOut_y (S := S) ht hc
  have w0 := wk_0 h ht hc
  generalize hS0 : pv (pv S 3 t (lshl 1 (nI c))) 4 t (lshl 1 (nI c)) = S0 at so2 w0
  have k0 : keepW S S0 := by
    rw [← hS0]
    exact ⟨rfl, fun k _ k3 k4 _ => by rw [pv_r k4, pv_r k3]⟩
  generalize 64 * t + c = st at w0 hst
  have loop : ∀ (k n : Nat) (T : MS), n + k = 256 → wk ok st n T → (∀ i, i ≤ n → ∃ σ, σ < 256 ∧ fstAt ok st i σ) →
      ∃ S', (∀ u, u < 4 → ∀ d, d < 64 → (tbL (S'.2 3 u) d = true ↔ ∃ n, rch ok st n (64 * u + d))) ∧ keepW T S' ∧ ∀ X : Bn, Cx X cX6_cellsReached 7 RX6 wsX6_cellsReached 2 48 → At X 7 (cW X.E ad S') 39 [(0, .ref (ad 10)), (4, .long 0), (6, .int 0)] [] → At X 7 (cW X.E ad T) 13 [(0, .ref (ad 10)), (3, .int (nI n))] [] := by
    intro k
    induction k with
    | zero =>
      intro n T hn hw hf
      have := rch_few hf
      omega
    | succ k ih =>
      intro n T hn hw hf
      obtain ⟨r1, S1, hr1, hw1, hk1, hF1⟩ := c_X6_goOn ad T hw hst
      cases hr : r1 with
      | false =>
        subst hr
        have hstop := rch_stop hst (n := n) (fun z => by have := hr1.mpr z; cases this)
        refine ⟨S1, fun u hu d hd => ?_, hk1, fun X C hE => ?_⟩
        · rw [(hw1 u hu d hd).2.1]
          exact ⟨fun q => ⟨_, q⟩, fun ⟨m, q⟩ => Or.inl (hstop m _ q)⟩
        · exact r_X6_cellsReached_13 C ad T _ ⟨fun q => nlt_no (a := n) (b := 256) (by decide) (by omega) q, fun _ => ⟨false, S1, hF1 _ _ _ _ _, fun q => (by cases q), fun _ => hE⟩⟩
      | true =>
        subst hr
        obtain ⟨S', h1, h2, h3⟩ := ih (n + 1) S1 (by omega) hw1 (fun i hi => by
            rcases Nat.lt_or_ge n i with z | z
            · rw [show i = n + 1 by omega]; exact hr1.mp rfl
            · exact hf i z)
        refine ⟨S', h1, hk1.tr h2, fun X C hE => ?_⟩
        exact r_X6_cellsReached_13 C ad T _ ⟨fun q => nlt_no (a := n) (b := 256) (by decide) (by omega) q, fun _ => ⟨true, S1, hF1 _ _ _ _ _, fun _ => by rw [nI_1]; exact h3 X C hE, fun q => (by cases q)⟩⟩
  obtain ⟨S', h1, h2, h3⟩ := loop 256 0 S0 rfl w0 (fun i hi => ⟨st, hst, by rw [show i = 0 by omega]; exact ⟨rfl, fun m hm => absurd hm (Nat.not_lt_zero m)⟩⟩)
  refine ⟨itF (fun t x => x ||| S'.2 3 t) 0 4 0, S', fun d hd => ?_, k0.tr h2, fun l D E a1 a2 => ?_⟩
  · rw [orF_tb (S'.2 3) 4 0 0 d, tbL_0]
    constructor
    · rintro (z | ⟨u, _, hu, hb⟩)
      · cases z
      · obtain ⟨n, q⟩ := (h1 u (by omega) d hd).mp hb
        exact ⟨u, n, by omega, q⟩
    · rintro ⟨u, n, hu, q⟩
      exact Or.inr ⟨u, Nat.zero_le _, by omega, (h1 u hu d hd).mpr ⟨n, q⟩⟩
  refine Fn.of (cc := cX6_cellsReached) (maxL := 7) (ret := (some .int)) (own := RX6) (by decide) rfl rfl (sameC _ _ _ _) (Nat.le_of_ble_eq_true rfl) (fun X q1 q2 q3 q4 q5 C hE => ?_)
  subst q1 q2 q3 q4 q5
  refine r_X6_cellsReached_0 C ad S _ _ ?_
  rw [so1, so2]
  refine ⟨fun _ => h3 X C ?_, fun q => (by cases q)⟩
  refine for_go (P := fun t x => At X 7 (cW X.E ad S') 39 [(0, .ref (ad 10)), (4, .long x), (6, .int (nI t))] []) (N := 4) (fun t x => x ||| S'.2 3 t) (fun t x ht h => ?_) 4 0 0 rfl ?_
  · refine r_X6_cellsReached_39 C ad S' x (nI t) ⟨fun q => nlt_no (by decide) ht q, fun _ => ⟨vp_in_nI ht (by decide), ?_⟩⟩
    rw [nI_clamp (show t < 2 ^ 31 by omega), nI_1]
    exact h
  · exact r_X6_cellsReached_39 C ad S' _ (nI 4) ⟨fun _ => hE, fun q => nle_no q⟩
