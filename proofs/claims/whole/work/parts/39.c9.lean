theorem cW_setF_items {E : Nat → ClassId} {ad : Nat → Nat} {S : MS} {k : Nat} {g : Nat → Int32} (hk : k < 4) : (cW E ad S).set (21 + 2 * k) (ad (21 + 2 * k), .inl (E 0, 64, .inl g)) = cW E ad (setF S (20 + k) g) := by
  rcases (show k = 0 ∨ k = 1 ∨ k = 2 ∨ k = 3 by omega) with rfl | rfl | rfl | rfl <;> rfl
set_option maxRecDepth 20000 in
theorem ggX7_understand_X3_load : GoodIn wsX7_understand wsX3_load := goodIn_r _ [9, 10, 11, 12, 13, 14, 8, 15, 16, 17, 18, 19, 20, 21, 22, 23, 24, 25, 26, 27, 28, 29, 30, 31, 32, 33, 34, 35, 36, 37, 38, 39, 40, 41, 42, 43, 44, 45, 72, 73, 74, 75, 76, 77] (by decide +kernel) (by decide +kernel)
set_option maxRecDepth 20000 in
theorem gX7_understand_X3_load : GoodIn wsX7_understand (wsV RX7 339 RX3 yX3_load wsX3_load) := goodIn_app (goodIn_of _ (by decide +kernel)) ggX7_understand_X3_load
set_option maxRecDepth 20000 in
theorem ggX7_understand_X1_load : GoodIn wsX7_understand wsX1_load := goodIn_r _ [50, 51, 52, 53, 54, 49, 55, 56, 17, 18, 19, 20, 21, 22, 57, 58, 59, 60, 61, 62, 63, 78, 79, 80, 81, 82, 83, 76, 77] (by decide +kernel) (by decide +kernel)
set_option maxRecDepth 20000 in
theorem gX7_understand_X1_load : GoodIn wsX7_understand (wsV RX7 343 RX1 yX1_load wsX1_load) := goodIn_app (goodIn_of _ (by decide +kernel)) ggX7_understand_X1_load
theorem dX7_understand_0 : decode cX7_understand 0 = .ok (.iload_n 1, 1) := by decide +kernel
theorem dX7_understand_1 : decode cX7_understand 1 = .ok (.ifCond .ne 17, 3) := by decide +kernel
theorem dX7_understand_4 : decode cX7_understand 4 = .ok (.aload_n 0, 1) := by decide +kernel
theorem dX7_understand_5 : decode cX7_understand 5 = .ok (.getfield 24, 3) := by decide +kernel
theorem dX7_understand_8 : decode cX7_understand 8 = .ok (.aload_n 0, 1) := by decide +kernel
theorem dX7_understand_9 : decode cX7_understand 9 = .ok (.getfield 14, 3) := by decide +kernel
theorem dX7_understand_12 : decode cX7_understand 12 = .ok (.invokevirtual 339, 3) := by decide +kernel
theorem dX7_understand_15 : decode cX7_understand 15 = .ok (.goto 14, 3) := by decide +kernel
theorem dX7_understand_18 : decode cX7_understand 18 = .ok (.aload_n 0, 1) := by decide +kernel
theorem dX7_understand_19 : decode cX7_understand 19 = .ok (.getfield 31, 3) := by decide +kernel
theorem dX7_understand_22 : decode cX7_understand 22 = .ok (.aload_n 0, 1) := by decide +kernel
theorem dX7_understand_23 : decode cX7_understand 23 = .ok (.getfield 18, 3) := by decide +kernel
theorem dX7_understand_26 : decode cX7_understand 26 = .ok (.invokevirtual 343, 3) := by decide +kernel
theorem dX7_understand_29 : decode cX7_understand 29 = .ok (.return_, 1) := by decide +kernel
theorem iw_X7_understand_X7 : ∀ w ∈ u_ws RX7 TX7 8, w ∈ wsX7_understand := by decide +kernel
theorem lk_X7_understand_0 : Cond.fieldLink RX7 31 (TX7 3).1 (TX7 3).2.1 (TX7 3).2.2.1 ∈ wsX7_understand := by decide +kernel
theorem lk_X7_understand_1 : Cond.fieldLink RX7 18 (TX7 1).1 (TX7 1).2.1 (TX7 1).2.2.1 ∈ wsX7_understand := by decide +kernel
theorem lk_X7_understand_2 : Cond.fieldLink RX7 24 (TX7 2).1 (TX7 2).2.1 (TX7 2).2.2.1 ∈ wsX7_understand := by decide +kernel
theorem lk_X7_understand_3 : Cond.fieldLink RX7 14 (TX7 0).1 (TX7 0).2.1 (TX7 0).2.2.1 ∈ wsX7_understand := by decide +kernel
set_option maxRecDepth 100000 in
theorem r_X7_understand_0 {X : Bn} (C : Cx X cX7_understand 2 RX7 wsX7_understand 5 120) (ad : Nat → Nat) (S : MS) (x1 : Int32) (h : ((x1 = 0) → (∃ (S2 : MS), (Fn X.l X.D X.E X.a1 X.a2 yX3_load wsX3_load 4 96 [.ref (ad 5), .ref (ad 1)] (cW X.E ad S) none (cW X.E ad S2)) ∧ (Ends X (none) none (cW X.E ad S2)))) ∧ (¬ x1 = 0 → (∃ (S1 : MS), (Fn X.l X.D X.E X.a1 X.a2 yX1_load wsX1_load 2 45 [.ref (ad 8), .ref (ad 3)] (cW X.E ad S) none (cW X.E ad S1)) ∧ (Ends X (none) none (cW X.E ad S1))))) : At X 2 (cW X.E ad S) 0 [(0, .ref (ad 0)), (1, .int x1)] [] := by
  refine at_iload_n C dX7_understand_0 rfl (j := 1) rfl ?_
  refine at_if_ne C dX7_understand_1 (tgt := 18) (by decide) (fun hc0 => ?_) (fun hc0 => ?_)
  · replace h := h.2 hc0
    refine at_aload_n C dX7_understand_18 rfl (j := 0) rfl ?_
    refine at_get C (K := RX7) (T := TX7) (N := 8) (ci := 6) (v := .ref (ad 8)) iw_X7_understand_X7 0 cW_c0 rfl 3 (by decide) lk_X7_understand_0 rfl dX7_understand_19 ?_
    refine at_aload_n C dX7_understand_22 rfl (j := 0) rfl ?_
    refine at_get C (K := RX7) (T := TX7) (N := 8) (ci := 6) (v := .ref (ad 3)) iw_X7_understand_X7 0 cW_c0 rfl 1 (by decide) lk_X7_understand_1 rfl dX7_understand_23 ?_
    obtain ⟨S1, hF1, h⟩ := h
    refine at_cV1v C 1 hF1 gX7_understand_X1_load rfl (by decide +kernel) ⟨rfl, rfl⟩ rfl rfl rfl 8 cW_c8 rfl dX7_understand_26 ?_
    exact at_vret C dX7_understand_29 h
  · replace h := h.1 hc0
    refine at_aload_n C dX7_understand_4 rfl (j := 0) rfl ?_
    refine at_get C (K := RX7) (T := TX7) (N := 8) (ci := 6) (v := .ref (ad 5)) iw_X7_understand_X7 0 cW_c0 rfl 2 (by decide) lk_X7_understand_2 rfl dX7_understand_5 ?_
    refine at_aload_n C dX7_understand_8 rfl (j := 0) rfl ?_
    refine at_get C (K := RX7) (T := TX7) (N := 8) (ci := 6) (v := .ref (ad 1)) iw_X7_understand_X7 0 cW_c0 rfl 0 (by decide) lk_X7_understand_3 rfl dX7_understand_9 ?_
    obtain ⟨S2, hF2, h⟩ := h
    refine at_cV1v C 1 hF2 gX7_understand_X3_load rfl (by decide +kernel) ⟨rfl, rfl⟩ rfl rfl rfl 5 cW_c5 rfl dX7_understand_12 ?_
    refine at_goto C dX7_understand_15 (tgt := 29) (by decide) ?_
    exact at_vret C dX7_understand_29 h
theorem pg_k {S : MS} {k i : Nat} {x : Int32} : (pg S k i x).1 k = upd (S.1 k) i x := by simp [pg, up]
theorem c_X7_understand0 (ad : Nat → Nat) (S : MS) {n : Nat} (hn : n ≤ 40) (e2 : S.1 2 0 = nI n) :
    ∃ S', ldS (hxv (S.1 0) 0 n) n S S' ∧ ∀ (l : Launch) (D : va_G) (E : Nat → ClassId) (a1 a2 : Nat), Fn l D E a1 a2 yX7_understand wsX7_understand 5 120 [.ref (ad 0), .int 0] (cW E ad S) none (cW E ad S') := by
  obtain ⟨S', h, hF⟩ := c_X3_load ad S hn e2
  refine ⟨S', h, fun l D E a1 a2 => ?_⟩
  refine Fn.of (cc := cX7_understand) (maxL := 2) (ret := none) (own := RX7) (by decide) rfl rfl (sameC _ _ _ _) (Nat.le_of_ble_eq_true rfl) (fun X q1 q2 q3 q4 q5 C hE => ?_)
  subst q1 q2 q3 q4 q5
  exact r_X7_understand_0 C ad S 0 ⟨fun _ => ⟨S', hF _ _ _ _ _, hE⟩, fun q => absurd rfl q⟩
theorem c_X7_understand1 (ad : Nat → Nat) (S : MS) {n : Nat} (hn : n ≤ 71) (e3 : S.1 3 0 = nI n) :
    ∃ S', ldH (hxv (S.1 1) 0 n) n S S' ∧ ∀ (l : Launch) (D : va_G) (E : Nat → ClassId) (a1 a2 : Nat), Fn l D E a1 a2 yX7_understand wsX7_understand 5 120 [.ref (ad 0), .int 1] (cW E ad S) none (cW E ad S') := by
  obtain ⟨S', h, hF⟩ := c_X1_load ad S hn e3
  refine ⟨S', h, fun l D E a1 a2 => ?_⟩
  refine Fn.of (cc := cX7_understand) (maxL := 2) (ret := none) (own := RX7) (by decide) rfl rfl (sameC _ _ _ _) (Nat.le_of_ble_eq_true rfl) (fun X q1 q2 q3 q4 q5 C hE => ?_)
  subst q1 q2 q3 q4 q5
  exact r_X7_understand_0 C ad S 1 ⟨fun q => absurd q (by decide), fun _ => ⟨S', hF _ _ _ _ _, hE⟩⟩
theorem append_y {S : MS} {k n : Nat} {x : Int32} (hn : n < txN k) (e : S.1 (2 + k) 0 = nI n) : f_X5_append S k x = true ∧ s_X5_append S k x = pg (pg S k n x) (2 + k) 0 (nI (n + 1)) := by
  have ht := txN_le k
  have h0 : ¬ nI n < 0 := Int32.not_lt.mpr ((nle (a := 0) (by decide) (by omega)).mpr (Nat.zero_le _))
  have h1 : nI n < Int32.ofNat (txN k) := (nlt (a := n) (b := txN k) (by omega) (by omega)).mpr hn
  have h2 : (pg S k n x).1 (2 + k) 0 = nI n := by rw [pg_o (by omega)]; exact e
  unfold f_X5_append s_X5_append
  rw [e, if_neg h0, if_pos h1, if_neg h0, if_pos h1, nI_clamp (by omega), h2, nI_1]
  exact ⟨rfl, rfl⟩
theorem append_n {S : MS} {k : Nat} {x : Int32} (e : S.1 (2 + k) 0 = nI (txN k)) : f_X5_append S k x = false ∧ s_X5_append S k x = S := by
  have ht := txN_le k
  have h0 : ¬ nI (txN k) < 0 := Int32.not_lt.mpr ((nle (a := 0) (by decide) (by omega)).mpr (Nat.zero_le _))
  have h1 : ¬ nI (txN k) < Int32.ofNat (txN k) := Int32.lt_irrefl
  unfold f_X5_append s_X5_append
  rw [e, if_neg h0, if_neg h1, if_neg h0, if_neg h1]
  exact ⟨rfl, rfl⟩
set_option maxRecDepth 20000 in
theorem ggX7_type_X7_textOf : GoodIn wsX7_type wsX7_textOf := goodIn_r _ [6, 7, 8, 83, 84, 85, 86, 87, 88, 89, 90] (by decide +kernel) (by decide +kernel)
set_option maxRecDepth 20000 in
theorem gX7_type_X7_textOf : GoodIn wsX7_type (wsV RX7 60 RX7 yX7_textOf wsX7_textOf) := goodIn_app (goodIn_of _ (by decide +kernel)) ggX7_type_X7_textOf
set_option maxRecDepth 20000 in
theorem ggX7_type_X7_within : GoodIn wsX7_type wsX7_within := goodIn_r _ [11] (by decide +kernel) (by decide +kernel)
set_option maxRecDepth 20000 in
theorem gX7_type_X7_within : GoodIn wsX7_type (va_wsS RX7 64 yX7_within wsX7_within) := goodIn_app (goodIn_of _ (by decide +kernel)) ggX7_type_X7_within
set_option maxRecDepth 20000 in
theorem ggX7_type_X5_append : GoodIn wsX7_type wsX5_append := goodIn_r _ [16, 17, 18, 81, 82] (by decide +kernel) (by decide +kernel)
set_option maxRecDepth 20000 in
theorem gX7_type_X5_append : GoodIn wsX7_type (wsV RX7 68 RX5 yX5_append wsX5_append) := goodIn_app (goodIn_of _ (by decide +kernel)) ggX7_type_X5_append
set_option maxRecDepth 20000 in
theorem ggX7_type_X7_understand : GoodIn wsX7_type wsX7_understand := goodIn_r _ [22, 23, 7, 24, 8, 25, 26, 27, 28, 29, 30, 31, 32, 33, 34, 35, 36, 37, 38, 15, 39, 17, 18, 40, 41, 42, 43, 44, 45, 46, 47, 48, 49, 50, 51, 52, 53, 54, 55, 56, 57, 58, 59, 60, 61, 62, 63, 64, 65, 66, 67, 68, 69, 70, 71, 72, 73, 74, 75, 76, 77, 78, 79, 80, 83, 84, 85, 86, 87, 88, 89, 90, 91, 92, 93, 94, 81, 82, 95, 96, 97, 98, 99, 100] (by decide +kernel) (by decide +kernel)
set_option maxRecDepth 20000 in
theorem gX7_type_X7_understand : GoodIn wsX7_type (wsV RX7 72 RX7 yX7_understand wsX7_understand) := goodIn_app (goodIn_of _ (by decide +kernel)) ggX7_type_X7_understand
theorem dX7_type_0 : decode cX7_type 0 = .ok (.aload_n 0, 1) := by decide +kernel
theorem dX7_type_1 : decode cX7_type 1 = .ok (.iload_n 1, 1) := by decide +kernel
theorem dX7_type_2 : decode cX7_type 2 = .ok (.invokevirtual 60, 3) := by decide +kernel
theorem dX7_type_5 : decode cX7_type 5 = .ok (.astore_n 3, 1) := by decide +kernel
theorem dX7_type_6 : decode cX7_type 6 = .ok (.aload_n 3, 1) := by decide +kernel
theorem dX7_type_7 : decode cX7_type 7 = .ok (.ifnull 13, 3) := by decide +kernel
theorem dX7_type_10 : decode cX7_type 10 = .ok (.iload_n 2, 1) := by decide +kernel
theorem dX7_type_11 : decode cX7_type 11 = .ok (.sipush 256, 3) := by decide +kernel
theorem dX7_type_14 : decode cX7_type 14 = .ok (.invokestatic 64, 3) := by decide +kernel
theorem dX7_type_17 : decode cX7_type 17 = .ok (.ifCond .ne 6, 3) := by decide +kernel
theorem dX7_type_20 : decode cX7_type 20 = .ok (.bipush (-2), 2) := by decide +kernel
theorem dX7_type_22 : decode cX7_type 22 = .ok (.ireturn, 1) := by decide +kernel
theorem dX7_type_23 : decode cX7_type 23 = .ok (.aload_n 3, 1) := by decide +kernel
theorem dX7_type_24 : decode cX7_type 24 = .ok (.iload_n 2, 1) := by decide +kernel
theorem dX7_type_25 : decode cX7_type 25 = .ok (.invokevirtual 68, 3) := by decide +kernel
theorem dX7_type_28 : decode cX7_type 28 = .ok (.ifCond .ne 6, 3) := by decide +kernel
theorem dX7_type_31 : decode cX7_type 31 = .ok (.bipush (-4), 2) := by decide +kernel
theorem dX7_type_33 : decode cX7_type 33 = .ok (.ireturn, 1) := by decide +kernel
theorem dX7_type_34 : decode cX7_type 34 = .ok (.aload_n 0, 1) := by decide +kernel
theorem dX7_type_35 : decode cX7_type 35 = .ok (.iload_n 1, 1) := by decide +kernel
theorem dX7_type_36 : decode cX7_type 36 = .ok (.invokevirtual 72, 3) := by decide +kernel
theorem dX7_type_39 : decode cX7_type 39 = .ok (.aload_n 3, 1) := by decide +kernel
theorem dX7_type_40 : decode cX7_type 40 = .ok (.getfield 75, 3) := by decide +kernel
theorem dX7_type_43 : decode cX7_type 43 = .ok (.ireturn, 1) := by decide +kernel
theorem iw_X7_type_X5 : ∀ w ∈ u_ws RX5 TX5 2, w ∈ wsX7_type := by decide +kernel
theorem lk_X7_type_0 : Cond.fieldLink RX7 75 (TX5 1).1 (TX5 1).2.1 (TX5 1).2.2.1 ∈ wsX7_type := by decide +kernel
set_option maxRecDepth 100000 in
theorem r_X7_type_0 {X : Bn} (C : Cx X cX7_type 4 RX7 wsX7_type 6 141) (ad : Nat → Nat) (S : MS) (x1 : Int32) (x2 : Int32) (h : (x1 = 0 → ((((f_X7_within x2 (256 : Int32)) = true) → ((((f_X5_append S 0 x2) = true) → (∃ (S1 : MS), (Fn X.l X.D X.E X.a1 X.a2 yX7_understand wsX7_understand 5 120 [.ref (ad 0), .int x1] (cW X.E ad (s_X5_append S 0 x2)) none (cW X.E ad S1)) ∧ (Ends X (some .int) (some (.int (S1.1 2 0))) (cW X.E ad S1)))) ∧ ((f_X5_append S 0 x2) = false → (Ends X (some .int) (some (.int (-4))) (cW X.E ad (s_X5_append S 0 x2)))))) ∧ ((f_X7_within x2 (256 : Int32)) = false → (Ends X (some .int) (some (.int (-2))) (cW X.E ad S))))) ∧ (x1 = 1 → ((((f_X7_within x2 (256 : Int32)) = true) → ((((f_X5_append S 1 x2) = true) → (∃ (S2 : MS), (Fn X.l X.D X.E X.a1 X.a2 yX7_understand wsX7_understand 5 120 [.ref (ad 0), .int x1] (cW X.E ad (s_X5_append S 1 x2)) none (cW X.E ad S2)) ∧ (Ends X (some .int) (some (.int (S2.1 3 0))) (cW X.E ad S2)))) ∧ ((f_X5_append S 1 x2) = false → (Ends X (some .int) (some (.int (-4))) (cW X.E ad (s_X5_append S 1 x2)))))) ∧ ((f_X7_within x2 (256 : Int32)) = false → (Ends X (some .int) (some (.int (-2))) (cW X.E ad S))))) ∧ (¬ x1 = 0 → ¬ x1 = 1 → (Ends X (some .int) (some (.int (-2))) (cW X.E ad S)))) : At X 4 (cW X.E ad S) 0 [(0, .ref (ad 0)), (1, .int x1), (2, .int x2)] [] := by
  refine at_aload_n C dX7_type_0 rfl (j := 0) rfl ?_
  refine at_iload_n C dX7_type_1 rfl (j := 1) rfl ?_
  refine at_cV1 C 1 (c_X7_textOf X.l X.D X.E X.a1 X.a2 ad S x1) gX7_type_X7_textOf rfl (by decide +kernel) ⟨rfl, rfl⟩ rfl rfl rfl 0 cW_c0 rfl dX7_type_2 ?_
  by_cases hk0 : x1 = 0
  · rw [txV_0 hk0]
    replace h := h.1 hk0
    refine at_astore_n C dX7_type_5 rfl (by decide) (lv' := [(3, .ref (ad 1)), (0, .ref (ad 0)), (1, .int x1), (2, .int x2)]) rfl ?_
    refine at_aload_n C dX7_type_6 rfl (j := 0) rfl ?_
    refine at_ifnull C dX7_type_7 ?_
    refine at_iload_n C dX7_type_10 rfl (j := 3) rfl ?_
    refine at_sipush C dX7_type_11 (v := 256) rfl ?_
    refine at_cS0 C 2 (c_X7_within X.l X.D X.E X.a1 X.a2 x2 (256 : Int32)) gX7_type_X7_within rfl (by decide +kernel) ⟨rfl, rfl⟩ rfl rfl rfl dX7_type_14 ?_
    refine at_ifB_ne C dX7_type_17 (tgt := 23) (by decide) (fun hc0 => ?_) (fun hc0 => ?_)
    · replace h := h.1 hc0
      refine at_aload_n C dX7_type_23 rfl (j := 0) rfl ?_
      refine at_iload_n C dX7_type_24 rfl (j := 3) rfl ?_
      refine at_cV1 C 1 (e_X5_append X.l X.D X.E X.a1 X.a2 ad S 0 (by decide) x2) gX7_type_X5_append rfl (by decide +kernel) ⟨rfl, rfl⟩ rfl rfl rfl 1 cW_c1 rfl dX7_type_25 ?_
      refine at_ifB_ne C dX7_type_28 (tgt := 34) (by decide) (fun hc1 => ?_) (fun hc1 => ?_)
      · replace h := h.1 hc1
        refine at_aload_n C dX7_type_34 rfl (j := 1) rfl ?_
        refine at_iload_n C dX7_type_35 rfl (j := 2) rfl ?_
        obtain ⟨S1, hF1, h⟩ := h
        refine at_cV1v C 1 hF1 gX7_type_X7_understand rfl (by decide +kernel) ⟨rfl, rfl⟩ rfl rfl rfl 0 cW_c0 rfl dX7_type_36 ?_
        refine at_aload_n C dX7_type_39 rfl (j := 0) rfl ?_
        refine at_get C (K := RX5) (T := TX5) (N := 2) (ci := 4) (v := .int (S1.1 2 0)) iw_X7_type_X5 1 cW_c1 rfl 1 (by decide) lk_X7_type_0 rfl dX7_type_40 ?_
        exact at_iret C dX7_type_43 h
      · replace h := h.2 hc1
        refine at_bipush C dX7_type_31 (v := (-4)) rfl ?_
        exact at_iret C dX7_type_33 h
    · replace h := h.2 hc0
      refine at_bipush C dX7_type_20 (v := (-2)) rfl ?_
      exact at_iret C dX7_type_22 h
  replace h := h.2
  by_cases hk1 : x1 = 1
  · rw [txV_1 hk1]
    replace h := h.1 hk1
    refine at_astore_n C dX7_type_5 rfl (by decide) (lv' := [(3, .ref (ad 3)), (0, .ref (ad 0)), (1, .int x1), (2, .int x2)]) rfl ?_
    refine at_aload_n C dX7_type_6 rfl (j := 0) rfl ?_
    refine at_ifnull C dX7_type_7 ?_
    refine at_iload_n C dX7_type_10 rfl (j := 3) rfl ?_
    refine at_sipush C dX7_type_11 (v := 256) rfl ?_
    refine at_cS0 C 2 (c_X7_within X.l X.D X.E X.a1 X.a2 x2 (256 : Int32)) gX7_type_X7_within rfl (by decide +kernel) ⟨rfl, rfl⟩ rfl rfl rfl dX7_type_14 ?_
    refine at_ifB_ne C dX7_type_17 (tgt := 23) (by decide) (fun hc2 => ?_) (fun hc2 => ?_)
    · replace h := h.1 hc2
      refine at_aload_n C dX7_type_23 rfl (j := 0) rfl ?_
      refine at_iload_n C dX7_type_24 rfl (j := 3) rfl ?_
      refine at_cV1 C 1 (e_X5_append X.l X.D X.E X.a1 X.a2 ad S 1 (by decide) x2) gX7_type_X5_append rfl (by decide +kernel) ⟨rfl, rfl⟩ rfl rfl rfl 3 cW_c3 rfl dX7_type_25 ?_
      refine at_ifB_ne C dX7_type_28 (tgt := 34) (by decide) (fun hc3 => ?_) (fun hc3 => ?_)
      · replace h := h.1 hc3
        refine at_aload_n C dX7_type_34 rfl (j := 1) rfl ?_
        refine at_iload_n C dX7_type_35 rfl (j := 2) rfl ?_
        obtain ⟨S2, hF2, h⟩ := h
        refine at_cV1v C 1 hF2 gX7_type_X7_understand rfl (by decide +kernel) ⟨rfl, rfl⟩ rfl rfl rfl 0 cW_c0 rfl dX7_type_36 ?_
        refine at_aload_n C dX7_type_39 rfl (j := 0) rfl ?_
        refine at_get C (K := RX5) (T := TX5) (N := 2) (ci := 4) (v := .int (S2.1 3 0)) iw_X7_type_X5 3 cW_c3 rfl 1 (by decide) lk_X7_type_0 rfl dX7_type_40 ?_
        exact at_iret C dX7_type_43 h
      · replace h := h.2 hc3
        refine at_bipush C dX7_type_31 (v := (-4)) rfl ?_
        exact at_iret C dX7_type_33 h
    · replace h := h.2 hc2
      refine at_bipush C dX7_type_20 (v := (-2)) rfl ?_
      exact at_iret C dX7_type_22 h
  replace h := h.2
  rw [txV_n hk0 hk1]
  replace h := h hk0 hk1
  refine at_astore_nN C dX7_type_5 rfl (by decide) (lv' := [(3, .null), (0, .ref (ad 0)), (1, .int x1), (2, .int x2)]) rfl ?_
  refine at_aload_nN C dX7_type_6 rfl (j := 0) rfl ?_
  refine at_ifnullN C dX7_type_7 (tgt := 20) (by decide) ?_
  refine at_bipush C dX7_type_20 (v := (-2)) rfl ?_
  exact at_iret C dX7_type_22 h
theorem c_X7_typeB (ad : Nat → Nat) (S : MS) (x1 x2 : Int32) (h : (¬ x1 = 0 ∧ ¬ x1 = 1) ∨ f_X7_within x2 256 = false) (l : Launch) (D : va_G) (E : Nat → ClassId) (a1 a2 : Nat) : Fn l D E a1 a2 yX7_type wsX7_type 6 141 [.ref (ad 0), .int x1, .int x2] (cW E ad S) (some (.int (-2))) (cW E ad S) := by
  refine Fn.of (cc := cX7_type) (maxL := 4) (ret := (some .int)) (own := RX7) (by decide) rfl rfl (sameC _ _ _ _) (Nat.le_of_ble_eq_true rfl) (fun X q1 q2 q3 q4 q5 C hE => ?_)
  subst q1 q2 q3 q4 q5
  refine r_X7_type_0 C ad S x1 x2 ⟨fun z => ⟨fun q => ?_, fun _ => hE⟩, fun z => ⟨fun q => ?_, fun _ => hE⟩, fun _ _ => hE⟩
  · rcases h with h | h
    · exact absurd z h.1
    · rw [h] at q; cases q
  · rcases h with h | h
    · exact absurd z h.2
    · rw [h] at q; cases q
theorem c_X7_typeF (ad : Nat → Nat) (S : MS) {k : Nat} (hk : k < 2) (x2 : Int32) (hb : f_X7_within x2 256 = true) (e : S.1 (2 + k) 0 = nI (txN k)) (l : Launch) (D : va_G) (E : Nat → ClassId) (a1 a2 : Nat) : Fn l D E a1 a2 yX7_type wsX7_type 6 141 [.ref (ad 0), .int (nI k), .int x2] (cW E ad S) (some (.int (-4))) (cW E ad S) := by
  refine Fn.of (cc := cX7_type) (maxL := 4) (ret := (some .int)) (own := RX7) (by decide) rfl rfl (sameC _ _ _ _) (Nat.le_of_ble_eq_true rfl) (fun X q1 q2 q3 q4 q5 C hE => ?_)
  subst q1 q2 q3 q4 q5
  obtain ⟨h1, h2⟩ := append_n (x := x2) e
  rcases (show k = 0 ∨ k = 1 by omega) with rfl | rfl
  · refine r_X7_type_0 C ad S _ x2 ⟨fun z => ⟨fun _ => ⟨fun q => (by rw [h1] at q; cases q), fun _ => ?_⟩, fun q => (by rw [hb] at q; cases q)⟩, fun z => absurd z (by decide), fun z => absurd rfl z⟩
    rw [h2]; exact hE
  · refine r_X7_type_0 C ad S _ x2 ⟨fun z => absurd z (by decide), fun z => ⟨fun _ => ⟨fun q => (by rw [h1] at q; cases q), fun _ => ?_⟩, fun q => (by rw [hb] at q; cases q)⟩, fun _ z => absurd rfl z⟩
    rw [h2]; exact hE
theorem c_X7_type0 (ad : Nat → Nat) (S : MS) {n : Nat} (hn : n < 40) (e : S.1 2 0 = nI n) (x2 : Int32) (hb : f_X7_within x2 256 = true) :
    ∃ S', ldS (hxv (upd (S.1 0) n x2) 0 (n + 1)) (n + 1) (pg (pg S 0 n x2) 2 0 (nI (n + 1))) S' ∧ ∀ (l : Launch) (D : va_G) (E : Nat → ClassId) (a1 a2 : Nat), Fn l D E a1 a2 yX7_type wsX7_type 6 141 [.ref (ad 0), .int 0, .int x2] (cW E ad S) (some (.int (nI (n + 1)))) (cW E ad S') := by
  obtain ⟨h1, h2⟩ := append_y (S := S) (k := 0) (x := x2) hn e
  obtain ⟨S', hl, hF⟩ := c_X7_understand0 ad (pg (pg S 0 n x2) 2 0 (nI (n + 1))) (n := n + 1) (by omega) pg_s
  rw [show (pg (pg S 0 n x2) 2 0 (nI (n + 1))).1 0 = upd (S.1 0) n x2 from by rw [pg_r (by decide), pg_k]] at hl
  refine ⟨S', hl, fun l D E a1 a2 => ?_⟩
  refine Fn.of (cc := cX7_type) (maxL := 4) (ret := (some .int)) (own := RX7) (by decide) rfl rfl (sameC _ _ _ _) (Nat.le_of_ble_eq_true rfl) (fun X q1 q2 q3 q4 q5 C hE => ?_)
  subst q1 q2 q3 q4 q5
  refine r_X7_type_0 C ad S 0 x2 ⟨fun z => ⟨fun _ => ⟨fun _ => ?_, fun q => (by rw [h1] at q; cases q)⟩, fun q => (by rw [hb] at q; cases q)⟩, fun z => absurd z (by decide), fun z => absurd rfl z⟩
  rw [h2]
  refine ⟨S', hF _ _ _ _ _, ?_⟩
  rw [hl.2.2.2.1 2 (by decide) (by decide) (by decide) (by decide), pg_s]
  exact hE
theorem c_X7_type1 (ad : Nat → Nat) (S : MS) {n : Nat} (hn : n < 71) (e : S.1 3 0 = nI n) (x2 : Int32) (hb : f_X7_within x2 256 = true) :
    ∃ S', ldH (hxv (upd (S.1 1) n x2) 0 (n + 1)) (n + 1) (pg (pg S 1 n x2) 3 0 (nI (n + 1))) S' ∧ ∀ (l : Launch) (D : va_G) (E : Nat → ClassId) (a1 a2 : Nat), Fn l D E a1 a2 yX7_type wsX7_type 6 141 [.ref (ad 0), .int 1, .int x2] (cW E ad S) (some (.int (nI (n + 1)))) (cW E ad S') := by
  obtain ⟨h1, h2⟩ := append_y (S := S) (k := 1) (x := x2) hn e
  obtain ⟨S', hl, hF⟩ := c_X7_understand1 ad (pg (pg S 1 n x2) 3 0 (nI (n + 1))) (n := n + 1) (by omega) pg_s
  rw [show (pg (pg S 1 n x2) 3 0 (nI (n + 1))).1 1 = upd (S.1 1) n x2 from by rw [pg_r (by decide), pg_k]] at hl
  refine ⟨S', hl, fun l D E a1 a2 => ?_⟩
  refine Fn.of (cc := cX7_type) (maxL := 4) (ret := (some .int)) (own := RX7) (by decide) rfl rfl (sameC _ _ _ _) (Nat.le_of_ble_eq_true rfl) (fun X q1 q2 q3 q4 q5 C hE => ?_)
  subst q1 q2 q3 q4 q5
  refine r_X7_type_0 C ad S 1 x2 ⟨fun z => absurd z (by decide), fun z => ⟨fun _ => ⟨fun _ => ?_, fun q => (by rw [h1] at q; cases q)⟩, fun q => (by rw [hb] at q; cases q)⟩, fun _ z => absurd rfl z⟩
  rw [h2]
  refine ⟨S', hF _ _ _ _ _, ?_⟩
  rw [hl.2.2.1 3 (by decide), pg_s]
  exact hE
set_option maxRecDepth 20000 in
theorem ggX7_wipe_X7_textOf : GoodIn wsX7_wipe wsX7_textOf := goodIn_r _ [6, 7, 8, 76, 77, 78, 79, 80, 81, 82, 83] (by decide +kernel) (by decide +kernel)
set_option maxRecDepth 20000 in
theorem gX7_wipe_X7_textOf : GoodIn wsX7_wipe (wsV RX7 60 RX7 yX7_textOf wsX7_textOf) := goodIn_app (goodIn_of _ (by decide +kernel)) ggX7_wipe_X7_textOf
set_option maxRecDepth 20000 in
theorem ggX7_wipe_X7_understand : GoodIn wsX7_wipe wsX7_understand := goodIn_r _ [12, 13, 7, 14, 8, 15, 16, 17, 18, 19, 20, 21, 22, 23, 24, 25, 26, 27, 28, 29, 30, 31, 32, 33, 34, 35, 36, 37, 38, 39, 40, 41, 42, 43, 44, 45, 46, 47, 48, 49, 50, 51, 52, 53, 54, 55, 56, 57, 58, 59, 60, 61, 62, 63, 64, 65, 66, 67, 68, 69, 70, 71, 72, 73, 76, 77, 78, 79, 80, 81, 82, 83, 84, 85, 86, 87, 74, 75, 88, 89, 90, 91, 92, 93] (by decide +kernel) (by decide +kernel)
set_option maxRecDepth 20000 in
theorem gX7_wipe_X7_understand : GoodIn wsX7_wipe (wsV RX7 72 RX7 yX7_understand wsX7_understand) := goodIn_app (goodIn_of _ (by decide +kernel)) ggX7_wipe_X7_understand
theorem dX7_wipe_0 : decode cX7_wipe 0 = .ok (.aload_n 0, 1) := by decide +kernel
theorem dX7_wipe_1 : decode cX7_wipe 1 = .ok (.iload_n 1, 1) := by decide +kernel
theorem dX7_wipe_2 : decode cX7_wipe 2 = .ok (.invokevirtual 60, 3) := by decide +kernel
theorem dX7_wipe_5 : decode cX7_wipe 5 = .ok (.astore_n 2, 1) := by decide +kernel
theorem dX7_wipe_6 : decode cX7_wipe 6 = .ok (.aload_n 2, 1) := by decide +kernel
theorem dX7_wipe_7 : decode cX7_wipe 7 = .ok (.ifnonnull 6, 3) := by decide +kernel
theorem dX7_wipe_10 : decode cX7_wipe 10 = .ok (.bipush (-2), 2) := by decide +kernel
theorem dX7_wipe_12 : decode cX7_wipe 12 = .ok (.ireturn, 1) := by decide +kernel
theorem dX7_wipe_13 : decode cX7_wipe 13 = .ok (.aload_n 2, 1) := by decide +kernel
theorem dX7_wipe_14 : decode cX7_wipe 14 = .ok (.getfield 75, 3) := by decide +kernel
theorem dX7_wipe_17 : decode cX7_wipe 17 = .ok (.istore_n 3, 1) := by decide +kernel
theorem dX7_wipe_18 : decode cX7_wipe 18 = .ok (.aload_n 2, 1) := by decide +kernel
theorem dX7_wipe_19 : decode cX7_wipe 19 = .ok (.iconst 0, 1) := by decide +kernel
theorem dX7_wipe_20 : decode cX7_wipe 20 = .ok (.putfield 75, 3) := by decide +kernel
theorem dX7_wipe_23 : decode cX7_wipe 23 = .ok (.aload_n 0, 1) := by decide +kernel
theorem dX7_wipe_24 : decode cX7_wipe 24 = .ok (.iload_n 1, 1) := by decide +kernel
theorem dX7_wipe_25 : decode cX7_wipe 25 = .ok (.invokevirtual 72, 3) := by decide +kernel
theorem dX7_wipe_28 : decode cX7_wipe 28 = .ok (.iload_n 3, 1) := by decide +kernel
theorem dX7_wipe_29 : decode cX7_wipe 29 = .ok (.ireturn, 1) := by decide +kernel
theorem iw_X7_wipe_X5 : ∀ w ∈ u_ws RX5 TX5 2, w ∈ wsX7_wipe := by decide +kernel
theorem lk_X7_wipe_0 : Cond.fieldLink RX7 75 (TX5 1).1 (TX5 1).2.1 (TX5 1).2.2.1 ∈ wsX7_wipe := by decide +kernel
set_option maxRecDepth 100000 in
theorem r_X7_wipe_0 {X : Bn} (C : Cx X cX7_wipe 4 RX7 wsX7_wipe 6 141) (ad : Nat → Nat) (S : MS) (x1 : Int32) (h : (x1 = 0 → (∃ (S1 : MS), (Fn X.l X.D X.E X.a1 X.a2 yX7_understand wsX7_understand 5 120 [.ref (ad 0), .int x1] (cW X.E ad (pg S 2 0 0)) none (cW X.E ad S1)) ∧ (Ends X (some .int) (some (.int (S.1 2 0))) (cW X.E ad S1)))) ∧ (x1 = 1 → (∃ (S2 : MS), (Fn X.l X.D X.E X.a1 X.a2 yX7_understand wsX7_understand 5 120 [.ref (ad 0), .int x1] (cW X.E ad (pg S 3 0 0)) none (cW X.E ad S2)) ∧ (Ends X (some .int) (some (.int (S.1 3 0))) (cW X.E ad S2)))) ∧ (¬ x1 = 0 → ¬ x1 = 1 → (Ends X (some .int) (some (.int (-2))) (cW X.E ad S)))) : At X 4 (cW X.E ad S) 0 [(0, .ref (ad 0)), (1, .int x1)] [] := by
  refine at_aload_n C dX7_wipe_0 rfl (j := 0) rfl ?_
  refine at_iload_n C dX7_wipe_1 rfl (j := 1) rfl ?_
  refine at_cV1 C 1 (c_X7_textOf X.l X.D X.E X.a1 X.a2 ad S x1) gX7_wipe_X7_textOf rfl (by decide +kernel) ⟨rfl, rfl⟩ rfl rfl rfl 0 cW_c0 rfl dX7_wipe_2 ?_
  by_cases hk0 : x1 = 0
  · rw [txV_0 hk0]
    replace h := h.1 hk0
    refine at_astore_n C dX7_wipe_5 rfl (by decide) (lv' := [(2, .ref (ad 1)), (0, .ref (ad 0)), (1, .int x1)]) rfl ?_
    refine at_aload_n C dX7_wipe_6 rfl (j := 0) rfl ?_
    refine at_ifnonnull C dX7_wipe_7 (tgt := 13) (by decide) ?_
    refine at_aload_n C dX7_wipe_13 rfl (j := 0) rfl ?_
    refine at_get C (K := RX5) (T := TX5) (N := 2) (ci := 4) (v := .int (S.1 2 0)) iw_X7_wipe_X5 1 cW_c1 rfl 1 (by decide) lk_X7_wipe_0 rfl dX7_wipe_14 ?_
    refine at_istore_n C dX7_wipe_17 rfl (by decide) (lv' := [(3, .int (S.1 2 0)), (2, .ref (ad 1)), (0, .ref (ad 0)), (1, .int x1)]) rfl ?_
    refine at_aload_n C dX7_wipe_18 rfl (j := 1) rfl ?_
    refine at_iconst C dX7_wipe_19 (v := 0) rfl ?_
    refine at_put C (K := RX5) (T := TX5) (N := 2) (ci := 4) (ty := .int) iw_X7_wipe_X5 tyX5 tyX5_ok nmX5 1 cW_c1 rfl 1 (by decide) lk_X7_wipe_0 rfl rfl rfl rfl (Nat.le_of_ble_eq_true rfl) cW_f1_1 dX7_wipe_20 ?_
    refine at_aload_n C dX7_wipe_23 rfl (j := 2) rfl ?_
    refine at_iload_n C dX7_wipe_24 rfl (j := 3) rfl ?_
    obtain ⟨S1, hF1, h⟩ := h
    refine at_cV1v C 1 hF1 gX7_wipe_X7_understand rfl (by decide +kernel) ⟨rfl, rfl⟩ rfl rfl rfl 0 cW_c0 rfl dX7_wipe_25 ?_
    refine at_iload_n C dX7_wipe_28 rfl (j := 0) rfl ?_
    exact at_iret C dX7_wipe_29 h
  replace h := h.2
  by_cases hk1 : x1 = 1
  · rw [txV_1 hk1]
    replace h := h.1 hk1
    refine at_astore_n C dX7_wipe_5 rfl (by decide) (lv' := [(2, .ref (ad 3)), (0, .ref (ad 0)), (1, .int x1)]) rfl ?_
    refine at_aload_n C dX7_wipe_6 rfl (j := 0) rfl ?_
    refine at_ifnonnull C dX7_wipe_7 (tgt := 13) (by decide) ?_
    refine at_aload_n C dX7_wipe_13 rfl (j := 0) rfl ?_
    refine at_get C (K := RX5) (T := TX5) (N := 2) (ci := 4) (v := .int (S.1 3 0)) iw_X7_wipe_X5 3 cW_c3 rfl 1 (by decide) lk_X7_wipe_0 rfl dX7_wipe_14 ?_
    refine at_istore_n C dX7_wipe_17 rfl (by decide) (lv' := [(3, .int (S.1 3 0)), (2, .ref (ad 3)), (0, .ref (ad 0)), (1, .int x1)]) rfl ?_
    refine at_aload_n C dX7_wipe_18 rfl (j := 1) rfl ?_
    refine at_iconst C dX7_wipe_19 (v := 0) rfl ?_
    refine at_put C (K := RX5) (T := TX5) (N := 2) (ci := 4) (ty := .int) iw_X7_wipe_X5 tyX5 tyX5_ok nmX5 3 cW_c3 rfl 1 (by decide) lk_X7_wipe_0 rfl rfl rfl rfl (Nat.le_of_ble_eq_true rfl) cW_f3_1 dX7_wipe_20 ?_
    refine at_aload_n C dX7_wipe_23 rfl (j := 2) rfl ?_
    refine at_iload_n C dX7_wipe_24 rfl (j := 3) rfl ?_
    obtain ⟨S2, hF2, h⟩ := h
    refine at_cV1v C 1 hF2 gX7_wipe_X7_understand rfl (by decide +kernel) ⟨rfl, rfl⟩ rfl rfl rfl 0 cW_c0 rfl dX7_wipe_25 ?_
    refine at_iload_n C dX7_wipe_28 rfl (j := 0) rfl ?_
    exact at_iret C dX7_wipe_29 h
  replace h := h.2
  rw [txV_n hk0 hk1]
  replace h := h hk0 hk1
  refine at_astore_nN C dX7_wipe_5 rfl (by decide) (lv' := [(2, .null), (0, .ref (ad 0)), (1, .int x1)]) rfl ?_
  refine at_aload_nN C dX7_wipe_6 rfl (j := 0) rfl ?_
  refine at_ifnonnullN C dX7_wipe_7 ?_
  refine at_bipush C dX7_wipe_10 (v := (-2)) rfl ?_
  exact at_iret C dX7_wipe_12 h
theorem c_X7_wipeB (ad : Nat → Nat) (S : MS) (x1 : Int32) (h0 : ¬ x1 = 0) (h1 : ¬ x1 = 1) (l : Launch) (D : va_G) (E : Nat → ClassId) (a1 a2 : Nat) : Fn l D E a1 a2 yX7_wipe wsX7_wipe 6 141 [.ref (ad 0), .int x1] (cW E ad S) (some (.int (-2))) (cW E ad S) := by
  refine Fn.of (cc := cX7_wipe) (maxL := 4) (ret := (some .int)) (own := RX7) (by decide) rfl rfl (sameC _ _ _ _) (Nat.le_of_ble_eq_true rfl) (fun X q1 q2 q3 q4 q5 C hE => ?_)
  subst q1 q2 q3 q4 q5
  exact r_X7_wipe_0 C ad S x1 ⟨fun z => absurd z h0, fun z => absurd z h1, fun _ _ => hE⟩
theorem c_X7_wipe0 (ad : Nat → Nat) (S : MS) :
    ∃ S', ldS (hxv (S.1 0) 0 0) 0 (pg S 2 0 0) S' ∧ ∀ (l : Launch) (D : va_G) (E : Nat → ClassId) (a1 a2 : Nat), Fn l D E a1 a2 yX7_wipe wsX7_wipe 6 141 [.ref (ad 0), .int 0] (cW E ad S) (some (.int (S.1 2 0))) (cW E ad S') := by
  obtain ⟨S', hl, hF⟩ := c_X7_understand0 ad (pg S 2 0 0) (n := 0) (by decide) pg_s
  rw [show (pg S 2 0 0).1 0 = S.1 0 from by rw [pg_r (by decide)]] at hl
  refine ⟨S', hl, fun l D E a1 a2 => ?_⟩
  refine Fn.of (cc := cX7_wipe) (maxL := 4) (ret := (some .int)) (own := RX7) (by decide) rfl rfl (sameC _ _ _ _) (Nat.le_of_ble_eq_true rfl) (fun X q1 q2 q3 q4 q5 C hE => ?_)
  subst q1 q2 q3 q4 q5
  exact r_X7_wipe_0 C ad S 0 ⟨fun _ => ⟨S', hF _ _ _ _ _, hE⟩, fun z => absurd z (by decide), fun z => absurd rfl z⟩
theorem c_X7_wipe1 (ad : Nat → Nat) (S : MS) :
    ∃ S', ldH (hxv (S.1 1) 0 0) 0 (pg S 3 0 0) S' ∧ ∀ (l : Launch) (D : va_G) (E : Nat → ClassId) (a1 a2 : Nat), Fn l D E a1 a2 yX7_wipe wsX7_wipe 6 141 [.ref (ad 0), .int 1] (cW E ad S) (some (.int (S.1 3 0))) (cW E ad S') := by
  obtain ⟨S', hl, hF⟩ := c_X7_understand1 ad (pg S 3 0 0) (n := 0) (by decide) pg_s
  rw [show (pg S 3 0 0).1 1 = S.1 1 from by rw [pg_r (by decide)]] at hl
  refine ⟨S', hl, fun l D E a1 a2 => ?_⟩
  refine Fn.of (cc := cX7_wipe) (maxL := 4) (ret := (some .int)) (own := RX7) (by decide) rfl rfl (sameC _ _ _ _) (Nat.le_of_ble_eq_true rfl) (fun X q1 q2 q3 q4 q5 C hE => ?_)
  subst q1 q2 q3 q4 q5
  exact r_X7_wipe_0 C ad S 1 ⟨fun z => absurd z (by decide), fun _ => ⟨S', hF _ _ _ _ _, hE⟩, fun _ z => absurd rfl z⟩
set_option maxRecDepth 20000 in
theorem ggX7_undo_X7_textOf : GoodIn wsX7_undo wsX7_textOf := goodIn_r _ [6, 7, 8, 76, 77, 78, 79, 80, 81, 82, 83] (by decide +kernel) (by decide +kernel)
set_option maxRecDepth 20000 in
theorem gX7_undo_X7_textOf : GoodIn wsX7_undo (wsV RX7 60 RX7 yX7_textOf wsX7_textOf) := goodIn_app (goodIn_of _ (by decide +kernel)) ggX7_undo_X7_textOf
set_option maxRecDepth 20000 in
theorem ggX7_undo_X7_understand : GoodIn wsX7_undo wsX7_understand := goodIn_r _ [12, 13, 7, 14, 8, 15, 16, 17, 18, 19, 20, 21, 22, 23, 24, 25, 26, 27, 28, 29, 30, 31, 32, 33, 34, 35, 36, 37, 38, 39, 40, 41, 42, 43, 44, 45, 46, 47, 48, 49, 50, 51, 52, 53, 54, 55, 56, 57, 58, 59, 60, 61, 62, 63, 64, 65, 66, 67, 68, 69, 70, 71, 72, 73, 76, 77, 78, 79, 80, 81, 82, 83, 84, 85, 86, 87, 74, 75, 88, 89, 90, 91, 92, 93] (by decide +kernel) (by decide +kernel)
set_option maxRecDepth 20000 in
theorem gX7_undo_X7_understand : GoodIn wsX7_undo (wsV RX7 72 RX7 yX7_understand wsX7_understand) := goodIn_app (goodIn_of _ (by decide +kernel)) ggX7_undo_X7_understand
theorem dX7_undo_0 : decode cX7_undo 0 = .ok (.aload_n 0, 1) := by decide +kernel
theorem dX7_undo_1 : decode cX7_undo 1 = .ok (.iload_n 1, 1) := by decide +kernel
theorem dX7_undo_2 : decode cX7_undo 2 = .ok (.invokevirtual 60, 3) := by decide +kernel
theorem dX7_undo_5 : decode cX7_undo 5 = .ok (.astore_n 2, 1) := by decide +kernel
theorem dX7_undo_6 : decode cX7_undo 6 = .ok (.aload_n 2, 1) := by decide +kernel
theorem dX7_undo_7 : decode cX7_undo 7 = .ok (.ifnonnull 6, 3) := by decide +kernel
theorem dX7_undo_10 : decode cX7_undo 10 = .ok (.bipush (-2), 2) := by decide +kernel
theorem dX7_undo_12 : decode cX7_undo 12 = .ok (.ireturn, 1) := by decide +kernel
theorem dX7_undo_13 : decode cX7_undo 13 = .ok (.aload_n 2, 1) := by decide +kernel
theorem dX7_undo_14 : decode cX7_undo 14 = .ok (.getfield 75, 3) := by decide +kernel
theorem dX7_undo_17 : decode cX7_undo 17 = .ok (.ifCond .ne 6, 3) := by decide +kernel
theorem dX7_undo_20 : decode cX7_undo 20 = .ok (.bipush (-3), 2) := by decide +kernel
theorem dX7_undo_22 : decode cX7_undo 22 = .ok (.ireturn, 1) := by decide +kernel
theorem dX7_undo_23 : decode cX7_undo 23 = .ok (.aload_n 2, 1) := by decide +kernel
theorem dX7_undo_24 : decode cX7_undo 24 = .ok (.dup, 1) := by decide +kernel
theorem dX7_undo_25 : decode cX7_undo 25 = .ok (.getfield 75, 3) := by decide +kernel
theorem dX7_undo_28 : decode cX7_undo 28 = .ok (.iconst 1, 1) := by decide +kernel
theorem dX7_undo_29 : decode cX7_undo 29 = .ok (.isub, 1) := by decide +kernel
theorem dX7_undo_30 : decode cX7_undo 30 = .ok (.putfield 75, 3) := by decide +kernel
theorem dX7_undo_33 : decode cX7_undo 33 = .ok (.aload_n 0, 1) := by decide +kernel
theorem dX7_undo_34 : decode cX7_undo 34 = .ok (.iload_n 1, 1) := by decide +kernel
theorem dX7_undo_35 : decode cX7_undo 35 = .ok (.invokevirtual 72, 3) := by decide +kernel
theorem dX7_undo_38 : decode cX7_undo 38 = .ok (.aload_n 2, 1) := by decide +kernel
theorem dX7_undo_39 : decode cX7_undo 39 = .ok (.getfield 75, 3) := by decide +kernel
theorem dX7_undo_42 : decode cX7_undo 42 = .ok (.ireturn, 1) := by decide +kernel
theorem iw_X7_undo_X5 : ∀ w ∈ u_ws RX5 TX5 2, w ∈ wsX7_undo := by decide +kernel
theorem lk_X7_undo_0 : Cond.fieldLink RX7 75 (TX5 1).1 (TX5 1).2.1 (TX5 1).2.2.1 ∈ wsX7_undo := by decide +kernel
set_option maxRecDepth 100000 in
theorem r_X7_undo_0 {X : Bn} (C : Cx X cX7_undo 3 RX7 wsX7_undo 6 141) (ad : Nat → Nat) (S : MS) (x1 : Int32) (h : (x1 = 0 → (((S.1 2 0 = 0) → (Ends X (some .int) (some (.int (-3))) (cW X.E ad S))) ∧ (¬ S.1 2 0 = 0 → (∃ (S1 : MS), (Fn X.l X.D X.E X.a1 X.a2 yX7_understand wsX7_understand 5 120 [.ref (ad 0), .int x1] (cW X.E ad (pg S 2 0 ((S.1 2 0) - 1))) none (cW X.E ad S1)) ∧ (Ends X (some .int) (some (.int (S1.1 2 0))) (cW X.E ad S1)))))) ∧ (x1 = 1 → (((S.1 3 0 = 0) → (Ends X (some .int) (some (.int (-3))) (cW X.E ad S))) ∧ (¬ S.1 3 0 = 0 → (∃ (S2 : MS), (Fn X.l X.D X.E X.a1 X.a2 yX7_understand wsX7_understand 5 120 [.ref (ad 0), .int x1] (cW X.E ad (pg S 3 0 ((S.1 3 0) - 1))) none (cW X.E ad S2)) ∧ (Ends X (some .int) (some (.int (S2.1 3 0))) (cW X.E ad S2)))))) ∧ (¬ x1 = 0 → ¬ x1 = 1 → (Ends X (some .int) (some (.int (-2))) (cW X.E ad S)))) : At X 3 (cW X.E ad S) 0 [(0, .ref (ad 0)), (1, .int x1)] [] := by
  refine at_aload_n C dX7_undo_0 rfl (j := 0) rfl ?_
  refine at_iload_n C dX7_undo_1 rfl (j := 1) rfl ?_
  refine at_cV1 C 1 (c_X7_textOf X.l X.D X.E X.a1 X.a2 ad S x1) gX7_undo_X7_textOf rfl (by decide +kernel) ⟨rfl, rfl⟩ rfl rfl rfl 0 cW_c0 rfl dX7_undo_2 ?_
  by_cases hk0 : x1 = 0
  · rw [txV_0 hk0]
    replace h := h.1 hk0
    refine at_astore_n C dX7_undo_5 rfl (by decide) (lv' := [(2, .ref (ad 1)), (0, .ref (ad 0)), (1, .int x1)]) rfl ?_
    refine at_aload_n C dX7_undo_6 rfl (j := 0) rfl ?_
    refine at_ifnonnull C dX7_undo_7 (tgt := 13) (by decide) ?_
    refine at_aload_n C dX7_undo_13 rfl (j := 0) rfl ?_
    refine at_get C (K := RX5) (T := TX5) (N := 2) (ci := 4) (v := .int (S.1 2 0)) iw_X7_undo_X5 1 cW_c1 rfl 1 (by decide) lk_X7_undo_0 rfl dX7_undo_14 ?_
    refine at_if_ne C dX7_undo_17 (tgt := 23) (by decide) (fun hc0 => ?_) (fun hc0 => ?_)
    · replace h := h.2 hc0
      refine at_aload_n C dX7_undo_23 rfl (j := 0) rfl ?_
      refine at_dup C dX7_undo_24 rfl ?_
      refine at_get C (K := RX5) (T := TX5) (N := 2) (ci := 4) (v := .int (S.1 2 0)) iw_X7_undo_X5 1 cW_c1 rfl 1 (by decide) lk_X7_undo_0 rfl dX7_undo_25 ?_
      refine at_iconst C dX7_undo_28 (v := 1) rfl ?_
      refine at_isub C dX7_undo_29 ?_
      refine at_put C (K := RX5) (T := TX5) (N := 2) (ci := 4) (ty := .int) iw_X7_undo_X5 tyX5 tyX5_ok nmX5 1 cW_c1 rfl 1 (by decide) lk_X7_undo_0 rfl rfl rfl rfl (Nat.le_of_ble_eq_true rfl) cW_f1_1 dX7_undo_30 ?_
      refine at_aload_n C dX7_undo_33 rfl (j := 1) rfl ?_
      refine at_iload_n C dX7_undo_34 rfl (j := 2) rfl ?_
      obtain ⟨S1, hF1, h⟩ := h
      refine at_cV1v C 1 hF1 gX7_undo_X7_understand rfl (by decide +kernel) ⟨rfl, rfl⟩ rfl rfl rfl 0 cW_c0 rfl dX7_undo_35 ?_
      refine at_aload_n C dX7_undo_38 rfl (j := 0) rfl ?_
      refine at_get C (K := RX5) (T := TX5) (N := 2) (ci := 4) (v := .int (S1.1 2 0)) iw_X7_undo_X5 1 cW_c1 rfl 1 (by decide) lk_X7_undo_0 rfl dX7_undo_39 ?_
      exact at_iret C dX7_undo_42 h
    · replace h := h.1 hc0
      refine at_bipush C dX7_undo_20 (v := (-3)) rfl ?_
      exact at_iret C dX7_undo_22 h
  replace h := h.2
  by_cases hk1 : x1 = 1
  · rw [txV_1 hk1]
    replace h := h.1 hk1
    refine at_astore_n C dX7_undo_5 rfl (by decide) (lv' := [(2, .ref (ad 3)), (0, .ref (ad 0)), (1, .int x1)]) rfl ?_
    refine at_aload_n C dX7_undo_6 rfl (j := 0) rfl ?_
    refine at_ifnonnull C dX7_undo_7 (tgt := 13) (by decide) ?_
    refine at_aload_n C dX7_undo_13 rfl (j := 0) rfl ?_
    refine at_get C (K := RX5) (T := TX5) (N := 2) (ci := 4) (v := .int (S.1 3 0)) iw_X7_undo_X5 3 cW_c3 rfl 1 (by decide) lk_X7_undo_0 rfl dX7_undo_14 ?_
    refine at_if_ne C dX7_undo_17 (tgt := 23) (by decide) (fun hc1 => ?_) (fun hc1 => ?_)
    · replace h := h.2 hc1
      refine at_aload_n C dX7_undo_23 rfl (j := 0) rfl ?_
      refine at_dup C dX7_undo_24 rfl ?_
      refine at_get C (K := RX5) (T := TX5) (N := 2) (ci := 4) (v := .int (S.1 3 0)) iw_X7_undo_X5 3 cW_c3 rfl 1 (by decide) lk_X7_undo_0 rfl dX7_undo_25 ?_
      refine at_iconst C dX7_undo_28 (v := 1) rfl ?_
      refine at_isub C dX7_undo_29 ?_
      refine at_put C (K := RX5) (T := TX5) (N := 2) (ci := 4) (ty := .int) iw_X7_undo_X5 tyX5 tyX5_ok nmX5 3 cW_c3 rfl 1 (by decide) lk_X7_undo_0 rfl rfl rfl rfl (Nat.le_of_ble_eq_true rfl) cW_f3_1 dX7_undo_30 ?_
      refine at_aload_n C dX7_undo_33 rfl (j := 1) rfl ?_
      refine at_iload_n C dX7_undo_34 rfl (j := 2) rfl ?_
      obtain ⟨S2, hF2, h⟩ := h
      refine at_cV1v C 1 hF2 gX7_undo_X7_understand rfl (by decide +kernel) ⟨rfl, rfl⟩ rfl rfl rfl 0 cW_c0 rfl dX7_undo_35 ?_
      refine at_aload_n C dX7_undo_38 rfl (j := 0) rfl ?_
      refine at_get C (K := RX5) (T := TX5) (N := 2) (ci := 4) (v := .int (S2.1 3 0)) iw_X7_undo_X5 3 cW_c3 rfl 1 (by decide) lk_X7_undo_0 rfl dX7_undo_39 ?_
      exact at_iret C dX7_undo_42 h
    · replace h := h.1 hc1
      refine at_bipush C dX7_undo_20 (v := (-3)) rfl ?_
      exact at_iret C dX7_undo_22 h
  replace h := h.2
  rw [txV_n hk0 hk1]
  replace h := h hk0 hk1
  refine at_astore_nN C dX7_undo_5 rfl (by decide) (lv' := [(2, .null), (0, .ref (ad 0)), (1, .int x1)]) rfl ?_
  refine at_aload_nN C dX7_undo_6 rfl (j := 0) rfl ?_
  refine at_ifnonnullN C dX7_undo_7 ?_
  refine at_bipush C dX7_undo_10 (v := (-2)) rfl ?_
  exact at_iret C dX7_undo_12 h
theorem c_X7_undoB (ad : Nat → Nat) (S : MS) (x1 : Int32) (h0 : ¬ x1 = 0) (h1 : ¬ x1 = 1) (l : Launch) (D : va_G) (E : Nat → ClassId) (a1 a2 : Nat) : Fn l D E a1 a2 yX7_undo wsX7_undo 6 141 [.ref (ad 0), .int x1] (cW E ad S) (some (.int (-2))) (cW E ad S) := by
  refine Fn.of (cc := cX7_undo) (maxL := 3) (ret := (some .int)) (own := RX7) (by decide) rfl rfl (sameC _ _ _ _) (Nat.le_of_ble_eq_true rfl) (fun X q1 q2 q3 q4 q5 C hE => ?_)
  subst q1 q2 q3 q4 q5
  exact r_X7_undo_0 C ad S x1 ⟨fun z => absurd z h0, fun z => absurd z h1, fun _ _ => hE⟩
theorem c_X7_undoN (ad : Nat → Nat) (S : MS) {k : Nat} (hk : k < 2) (e : S.1 (2 + k) 0 = 0) (l : Launch) (D : va_G) (E : Nat → ClassId) (a1 a2 : Nat) : Fn l D E a1 a2 yX7_undo wsX7_undo 6 141 [.ref (ad 0), .int (nI k)] (cW E ad S) (some (.int (-3))) (cW E ad S) := by
  refine Fn.of (cc := cX7_undo) (maxL := 3) (ret := (some .int)) (own := RX7) (by decide) rfl rfl (sameC _ _ _ _) (Nat.le_of_ble_eq_true rfl) (fun X q1 q2 q3 q4 q5 C hE => ?_)
  subst q1 q2 q3 q4 q5
  rcases (show k = 0 ∨ k = 1 by omega) with rfl | rfl
  · exact r_X7_undo_0 C ad S _ ⟨fun _ => ⟨fun _ => hE, fun q => absurd e q⟩, fun z => absurd z (by decide), fun z => absurd rfl z⟩
  · exact r_X7_undo_0 C ad S _ ⟨fun z => absurd z (by decide), fun _ => ⟨fun _ => hE, fun q => absurd e q⟩, fun _ z => absurd rfl z⟩
theorem pred_nI {n : Nat} : nI (n + 1) - 1 = nI n := by rw [show (1 : Int32) = nI 1 from rfl, pk_sub (by omega)]; rfl
theorem c_X7_undo0 (ad : Nat → Nat) (S : MS) {n : Nat} (hn : n < 40) (e : S.1 2 0 = nI (n + 1)) :
    ∃ S', ldS (hxv (S.1 0) 0 n) n (pg S 2 0 (nI n)) S' ∧ ∀ (l : Launch) (D : va_G) (E : Nat → ClassId) (a1 a2 : Nat), Fn l D E a1 a2 yX7_undo wsX7_undo 6 141 [.ref (ad 0), .int 0] (cW E ad S) (some (.int (nI n))) (cW E ad S') := by
  obtain ⟨S', hl, hF⟩ := c_X7_understand0 ad (pg S 2 0 (nI n)) (n := n) (by omega) pg_s
  rw [show (pg S 2 0 (nI n)).1 0 = S.1 0 from by rw [pg_r (by decide)]] at hl
  refine ⟨S', hl, fun l D E a1 a2 => ?_⟩
  refine Fn.of (cc := cX7_undo) (maxL := 3) (ret := (some .int)) (own := RX7) (by decide) rfl rfl (sameC _ _ _ _) (Nat.le_of_ble_eq_true rfl) (fun X q1 q2 q3 q4 q5 C hE => ?_)
  subst q1 q2 q3 q4 q5
  refine r_X7_undo_0 C ad S 0 ⟨fun _ => ?_, fun z => absurd z (by decide), fun z => absurd rfl z⟩
  rw [e, pred_nI]
  refine ⟨fun q => absurd ((nI_eq (b := 0) (by omega) (by decide)).mp q) (by omega), fun _ => ⟨S', hF _ _ _ _ _, ?_⟩⟩
  rw [hl.2.2.2.1 2 (by decide) (by decide) (by decide) (by decide), pg_s]
  exact hE
theorem c_X7_undo1 (ad : Nat → Nat) (S : MS) {n : Nat} (hn : n < 71) (e : S.1 3 0 = nI (n + 1)) :
    ∃ S', ldH (hxv (S.1 1) 0 n) n (pg S 3 0 (nI n)) S' ∧ ∀ (l : Launch) (D : va_G) (E : Nat → ClassId) (a1 a2 : Nat), Fn l D E a1 a2 yX7_undo wsX7_undo 6 141 [.ref (ad 0), .int 1] (cW E ad S) (some (.int (nI n))) (cW E ad S') := by
  obtain ⟨S', hl, hF⟩ := c_X7_understand1 ad (pg S 3 0 (nI n)) (n := n) (by omega) pg_s
  rw [show (pg S 3 0 (nI n)).1 1 = S.1 1 from by rw [pg_r (by decide)]] at hl
  refine ⟨S', hl, fun l D E a1 a2 => ?_⟩
  refine Fn.of (cc := cX7_undo) (maxL := 3) (ret := (some .int)) (own := RX7) (by decide) rfl rfl (sameC _ _ _ _) (Nat.le_of_ble_eq_true rfl) (fun X q1 q2 q3 q4 q5 C hE => ?_)
  subst q1 q2 q3 q4 q5
  refine r_X7_undo_0 C ad S 1 ⟨fun z => absurd z (by decide), fun _ => ?_, fun _ z => absurd rfl z⟩
  rw [e, pred_nI]
  refine ⟨fun q => absurd ((nI_eq (b := 0) (by omega) (by decide)).mp q) (by omega), fun _ => ⟨S', hF _ _ _ _ _, ?_⟩⟩
  rw [hl.2.2.1 3 (by decide), pg_s]
  exact hE
set_option maxRecDepth 20000 in
theorem ggX7_through_X7_isStand : GoodIn wsX7_through wsX7_isStand := goodIn_r _ [8, 9, 10, 11, 7, 12, 13, 14, 15, 16, 2, 17, 18, 19, 20, 77, 78, 79, 80, 81, 82, 83, 84, 85, 86, 87, 88] (by decide +kernel) (by decide +kernel)
set_option maxRecDepth 20000 in
theorem gX7_through_X7_isStand : GoodIn wsX7_through (wsV RX7 126 RX7 yX7_isStand wsX7_isStand) := goodIn_app (goodIn_of _ (by decide +kernel)) ggX7_through_X7_isStand
set_option maxRecDepth 20000 in
theorem ggX7_through_X7_canStand : GoodIn wsX7_through wsX7_canStand := goodIn_r _ [24, 3, 2, 25, 26, 27, 28, 29, 30, 31, 32, 33, 34, 35, 36, 37, 38, 39, 40, 41, 42, 43, 44, 45, 46, 19, 7, 20, 77, 78, 79, 80, 81, 82, 83, 84, 85, 86, 87, 88, 89, 90, 91, 92, 93, 94] (by decide +kernel) (by decide +kernel)
set_option maxRecDepth 20000 in
theorem gX7_through_X7_canStand : GoodIn wsX7_through (wsV RX7 130 RX7 yX7_canStand wsX7_canStand) := goodIn_app (goodIn_of _ (by decide +kernel)) ggX7_through_X7_canStand
set_option maxRecDepth 20000 in
theorem ggX7_through_X6_begin : GoodIn wsX7_through wsX6_begin := goodIn_r _ [51, 52, 53, 54, 55, 26, 27, 28, 29, 30, 56, 32, 33, 34, 35, 36, 37, 38, 39, 40, 41, 42, 43, 95, 96, 97, 98, 85, 86, 87, 88, 89, 90, 91, 92, 93, 94] (by decide +kernel) (by decide +kernel)
set_option maxRecDepth 20000 in
theorem gX7_through_X6_begin : GoodIn wsX7_through (wsV RX7 133 RX6 yX6_begin wsX6_begin) := goodIn_app (goodIn_of _ (by decide +kernel)) ggX7_through_X6_begin
set_option maxRecDepth 20000 in
theorem ggX7_through_X6_fewestSteps : GoodIn wsX7_through wsX6_fewestSteps := goodIn_r _ [60, 53, 61, 62, 63, 50, 64, 54, 19, 7, 20, 65, 45, 34, 46, 66, 67, 68, 69, 70, 52, 71, 72, 73, 74, 75, 76, 95, 96, 97, 98] (by decide +kernel) (by decide +kernel)
set_option maxRecDepth 20000 in
theorem gX7_through_X6_fewestSteps : GoodIn wsX7_through (wsV RX7 137 RX6 yX6_fewestSteps wsX6_fewestSteps) := goodIn_app (goodIn_of _ (by decide +kernel)) ggX7_through_X6_fewestSteps
theorem dX7_through_0 : decode cX7_through 0 = .ok (.aload_n 0, 1) := by decide +kernel
theorem dX7_through_1 : decode cX7_through 1 = .ok (.iload_n 1, 1) := by decide +kernel
theorem dX7_through_2 : decode cX7_through 2 = .ok (.iload_n 2, 1) := by decide +kernel
theorem dX7_through_3 : decode cX7_through 3 = .ok (.iload_n 3, 1) := by decide +kernel
theorem dX7_through_4 : decode cX7_through 4 = .ok (.invokevirtual 126, 3) := by decide +kernel
theorem dX7_through_7 : decode cX7_through 7 = .ok (.ifCond .eq 15, 3) := by decide +kernel
theorem dX7_through_10 : decode cX7_through 10 = .ok (.aload_n 0, 1) := by decide +kernel
theorem dX7_through_11 : decode cX7_through 11 = .ok (.iload_n 1, 1) := by decide +kernel
theorem dX7_through_12 : decode cX7_through 12 = .ok (.iload 4, 2) := by decide +kernel
theorem dX7_through_14 : decode cX7_through 14 = .ok (.iload 5, 2) := by decide +kernel
theorem dX7_through_16 : decode cX7_through 16 = .ok (.invokevirtual 126, 3) := by decide +kernel
theorem dX7_through_19 : decode cX7_through 19 = .ok (.ifCond .ne 6, 3) := by decide +kernel
theorem dX7_through_22 : decode cX7_through 22 = .ok (.bipush (-2), 2) := by decide +kernel
theorem dX7_through_24 : decode cX7_through 24 = .ok (.ireturn, 1) := by decide +kernel
theorem dX7_through_25 : decode cX7_through 25 = .ok (.aload_n 0, 1) := by decide +kernel
theorem dX7_through_26 : decode cX7_through 26 = .ok (.iload_n 1, 1) := by decide +kernel
theorem dX7_through_27 : decode cX7_through 27 = .ok (.iload_n 2, 1) := by decide +kernel
theorem dX7_through_28 : decode cX7_through 28 = .ok (.iload_n 3, 1) := by decide +kernel
theorem dX7_through_29 : decode cX7_through 29 = .ok (.invokevirtual 130, 3) := by decide +kernel
theorem dX7_through_32 : decode cX7_through 32 = .ok (.ifCond .eq 15, 3) := by decide +kernel
theorem dX7_through_35 : decode cX7_through 35 = .ok (.aload_n 0, 1) := by decide +kernel
theorem dX7_through_36 : decode cX7_through 36 = .ok (.iload_n 1, 1) := by decide +kernel
theorem dX7_through_37 : decode cX7_through 37 = .ok (.iload 4, 2) := by decide +kernel
theorem dX7_through_39 : decode cX7_through 39 = .ok (.iload 5, 2) := by decide +kernel
theorem dX7_through_41 : decode cX7_through 41 = .ok (.invokevirtual 130, 3) := by decide +kernel
theorem dX7_through_44 : decode cX7_through 44 = .ok (.ifCond .ne 6, 3) := by decide +kernel
theorem dX7_through_47 : decode cX7_through 47 = .ok (.bipush (-3), 2) := by decide +kernel
theorem dX7_through_49 : decode cX7_through 49 = .ok (.ireturn, 1) := by decide +kernel
theorem dX7_through_50 : decode cX7_through 50 = .ok (.aload_n 0, 1) := by decide +kernel
theorem dX7_through_51 : decode cX7_through 51 = .ok (.getfield 38, 3) := by decide +kernel
theorem dX7_through_54 : decode cX7_through 54 = .ok (.aload_n 0, 1) := by decide +kernel
theorem dX7_through_55 : decode cX7_through 55 = .ok (.getfield 24, 3) := by decide +kernel
theorem dX7_through_58 : decode cX7_through 58 = .ok (.aload_n 0, 1) := by decide +kernel
theorem dX7_through_59 : decode cX7_through 59 = .ok (.getfield 31, 3) := by decide +kernel
theorem dX7_through_62 : decode cX7_through 62 = .ok (.iload_n 1, 1) := by decide +kernel
theorem dX7_through_63 : decode cX7_through 63 = .ok (.invokevirtual 133, 3) := by decide +kernel
theorem dX7_through_66 : decode cX7_through 66 = .ok (.aload_n 0, 1) := by decide +kernel
theorem dX7_through_67 : decode cX7_through 67 = .ok (.getfield 38, 3) := by decide +kernel
theorem dX7_through_70 : decode cX7_through 70 = .ok (.iload_n 2, 1) := by decide +kernel
theorem dX7_through_71 : decode cX7_through 71 = .ok (.iload_n 3, 1) := by decide +kernel
theorem dX7_through_72 : decode cX7_through 72 = .ok (.iload 4, 2) := by decide +kernel
theorem dX7_through_74 : decode cX7_through 74 = .ok (.iload 5, 2) := by decide +kernel
theorem dX7_through_76 : decode cX7_through 76 = .ok (.invokevirtual 137, 3) := by decide +kernel
theorem dX7_through_79 : decode cX7_through 79 = .ok (.ireturn, 1) := by decide +kernel
theorem iw_X7_through_X7 : ∀ w ∈ u_ws RX7 TX7 8, w ∈ wsX7_through := by decide +kernel
theorem lk_X7_through_0 : Cond.fieldLink RX7 38 (TX7 4).1 (TX7 4).2.1 (TX7 4).2.2.1 ∈ wsX7_through := by decide +kernel
theorem lk_X7_through_1 : Cond.fieldLink RX7 24 (TX7 2).1 (TX7 2).2.1 (TX7 2).2.2.1 ∈ wsX7_through := by decide +kernel
theorem lk_X7_through_2 : Cond.fieldLink RX7 31 (TX7 3).1 (TX7 3).2.1 (TX7 3).2.2.1 ∈ wsX7_through := by decide +kernel
set_option maxRecDepth 100000 in
theorem r_X7_through_0 {X : Bn} (C : Cx X cX7_through 6 RX7 wsX7_through 4 87) (ad : Nat → Nat) (S : MS) (x1 : Int32) (x2 : Int32) (x3 : Int32) (x4 : Int32) (x5 : Int32) (h : (((f_X7_isStand S x1 x2 x3) = true) → ((((f_X7_isStand S x1 x4 x5) = true) → ((((f_X7_canStand S x1 x2 x3) = true) → ((((f_X7_canStand S x1 x4 x5) = true) → (∃ (S1 : MS), (Fn X.l X.D X.E X.a1 X.a2 yX6_begin wsX6_begin 2 48 [.ref (ad 10), .ref (ad 5), .ref (ad 8), .int x1] (cW X.E ad S) none (cW X.E ad S1)) ∧ (∃ (r2 : Int32) (S2 : MS), (Fn X.l X.D X.E X.a1 X.a2 yX6_fewestSteps wsX6_fewestSteps 2 48 [.ref (ad 10), .int x2, .int x3, .int x4, .int x5] (cW X.E ad S1) (some (.int r2)) (cW X.E ad S2)) ∧ (Ends X (some .int) (some (.int r2)) (cW X.E ad S2))))) ∧ ((f_X7_canStand S x1 x4 x5) = false → (Ends X (some .int) (some (.int (-3))) (cW X.E ad S))))) ∧ ((f_X7_canStand S x1 x2 x3) = false → (Ends X (some .int) (some (.int (-3))) (cW X.E ad S))))) ∧ ((f_X7_isStand S x1 x4 x5) = false → (Ends X (some .int) (some (.int (-2))) (cW X.E ad S))))) ∧ ((f_X7_isStand S x1 x2 x3) = false → (Ends X (some .int) (some (.int (-2))) (cW X.E ad S)))) : At X 6 (cW X.E ad S) 0 [(0, .ref (ad 0)), (1, .int x1), (2, .int x2), (3, .int x3), (4, .int x4), (5, .int x5)] [] := by
  refine at_aload_n C dX7_through_0 rfl (j := 0) rfl ?_
  refine at_iload_n C dX7_through_1 rfl (j := 1) rfl ?_
  refine at_iload_n C dX7_through_2 rfl (j := 2) rfl ?_
  refine at_iload_n C dX7_through_3 rfl (j := 3) rfl ?_
  refine at_cV1 C 3 (c_X7_isStand X.l X.D X.E X.a1 X.a2 ad S x1 x2 x3) gX7_through_X7_isStand rfl (by decide +kernel) ⟨rfl, rfl⟩ rfl rfl rfl 0 cW_c0 rfl dX7_through_4 ?_
  refine at_ifB_eq C dX7_through_7 (tgt := 22) (by decide) (fun hc0 => ?_) (fun hc0 => ?_)
  · replace h := h.2 hc0
    refine at_bipush C dX7_through_22 (v := (-2)) rfl ?_
    exact at_iret C dX7_through_24 h
  · replace h := h.1 hc0
    refine at_aload_n C dX7_through_10 rfl (j := 0) rfl ?_
    refine at_iload_n C dX7_through_11 rfl (j := 1) rfl ?_
    refine at_iload C dX7_through_12 (j := 4) rfl ?_
    refine at_iload C dX7_through_14 (j := 5) rfl ?_
    refine at_cV1 C 3 (c_X7_isStand X.l X.D X.E X.a1 X.a2 ad S x1 x4 x5) gX7_through_X7_isStand rfl (by decide +kernel) ⟨rfl, rfl⟩ rfl rfl rfl 0 cW_c0 rfl dX7_through_16 ?_
    refine at_ifB_ne C dX7_through_19 (tgt := 25) (by decide) (fun hc1 => ?_) (fun hc1 => ?_)
    · replace h := h.1 hc1
      refine at_aload_n C dX7_through_25 rfl (j := 0) rfl ?_
      refine at_iload_n C dX7_through_26 rfl (j := 1) rfl ?_
      refine at_iload_n C dX7_through_27 rfl (j := 2) rfl ?_
      refine at_iload_n C dX7_through_28 rfl (j := 3) rfl ?_
      refine at_cV1 C 3 (c_X7_canStand X.l X.D X.E X.a1 X.a2 ad S x1 x2 x3) gX7_through_X7_canStand rfl (by decide +kernel) ⟨rfl, rfl⟩ rfl rfl rfl 0 cW_c0 rfl dX7_through_29 ?_
      refine at_ifB_eq C dX7_through_32 (tgt := 47) (by decide) (fun hc2 => ?_) (fun hc2 => ?_)
      · replace h := h.2 hc2
        refine at_bipush C dX7_through_47 (v := (-3)) rfl ?_
        exact at_iret C dX7_through_49 h
      · replace h := h.1 hc2
        refine at_aload_n C dX7_through_35 rfl (j := 0) rfl ?_
        refine at_iload_n C dX7_through_36 rfl (j := 1) rfl ?_
        refine at_iload C dX7_through_37 (j := 4) rfl ?_
        refine at_iload C dX7_through_39 (j := 5) rfl ?_
        refine at_cV1 C 3 (c_X7_canStand X.l X.D X.E X.a1 X.a2 ad S x1 x4 x5) gX7_through_X7_canStand rfl (by decide +kernel) ⟨rfl, rfl⟩ rfl rfl rfl 0 cW_c0 rfl dX7_through_41 ?_
        refine at_ifB_ne C dX7_through_44 (tgt := 50) (by decide) (fun hc3 => ?_) (fun hc3 => ?_)
        · replace h := h.1 hc3
          refine at_aload_n C dX7_through_50 rfl (j := 0) rfl ?_
          refine at_get C (K := RX7) (T := TX7) (N := 8) (ci := 6) (v := .ref (ad 10)) iw_X7_through_X7 0 cW_c0 rfl 4 (by decide) lk_X7_through_0 rfl dX7_through_51 ?_
          refine at_aload_n C dX7_through_54 rfl (j := 0) rfl ?_
          refine at_get C (K := RX7) (T := TX7) (N := 8) (ci := 6) (v := .ref (ad 5)) iw_X7_through_X7 0 cW_c0 rfl 2 (by decide) lk_X7_through_1 rfl dX7_through_55 ?_
          refine at_aload_n C dX7_through_58 rfl (j := 0) rfl ?_
          refine at_get C (K := RX7) (T := TX7) (N := 8) (ci := 6) (v := .ref (ad 8)) iw_X7_through_X7 0 cW_c0 rfl 3 (by decide) lk_X7_through_2 rfl dX7_through_59 ?_
          refine at_iload_n C dX7_through_62 rfl (j := 1) rfl ?_
          obtain ⟨S1, hF1, h⟩ := h
          refine at_cV1v C 3 hF1 gX7_through_X6_begin rfl (by decide +kernel) ⟨rfl, rfl⟩ rfl rfl rfl 10 cW_c10 rfl dX7_through_63 ?_
          refine at_aload_n C dX7_through_66 rfl (j := 0) rfl ?_
          refine at_get C (K := RX7) (T := TX7) (N := 8) (ci := 6) (v := .ref (ad 10)) iw_X7_through_X7 0 cW_c0 rfl 4 (by decide) lk_X7_through_0 rfl dX7_through_67 ?_
          refine at_iload_n C dX7_through_70 rfl (j := 2) rfl ?_
          refine at_iload_n C dX7_through_71 rfl (j := 3) rfl ?_
          refine at_iload C dX7_through_72 (j := 4) rfl ?_
          refine at_iload C dX7_through_74 (j := 5) rfl ?_
          obtain ⟨r2, S2, hF2, h⟩ := h
          refine at_cV1 C 4 hF2 gX7_through_X6_fewestSteps rfl (by decide +kernel) ⟨rfl, rfl⟩ rfl rfl rfl 10 cW_c10 rfl dX7_through_76 ?_
          exact at_iret C dX7_through_79 h
        · replace h := h.2 hc3
          refine at_bipush C dX7_through_47 (v := (-3)) rfl ?_
          exact at_iret C dX7_through_49 h
    · replace h := h.2 hc1
      refine at_bipush C dX7_through_22 (v := (-2)) rfl ?_
      exact at_iret C dX7_through_24 h
theorem cShape_iff {S : MS} {cnt : Nat} (hc : cnt ≤ 8) (e6 : S.1 6 0 = nI cnt) (x : Int32) : f_X7_isShape S x = true ↔ ∃ s, s < cnt ∧ x = nI s := by
  unfold f_X7_isShape
  rw [e6]
  exact within_iff (by omega)
theorem cStand_iff {S : MS} {cnt : Nat} (hc : cnt ≤ 8) (e6 : S.1 6 0 = nI cnt) (x y z : Int32) : f_X7_isStand S x y z = true ↔ ∃ s t c, (s < cnt ∧ t < 4 ∧ c < 64) ∧ x = nI s ∧ y = nI t ∧ z = nI c := by
  unfold f_X7_isStand f_X7_isTurnedShape
  constructor
  · intro h
    by_cases h1 : f_X7_isShape S x = true
    · rw [if_pos h1] at h
      by_cases h2 : f_X7_within y 4 = true
      · rw [if_pos h2] at h
        by_cases h3 : f_X7_within z 64 = true
        · obtain ⟨s, hs, rfl⟩ := (cShape_iff hc e6 x).mp h1
          obtain ⟨t, ht, rfl⟩ := (within_iff (n := 4) (by decide)).mp h2
          obtain ⟨c, hcc, rfl⟩ := (within_iff (n := 64) (by decide)).mp h3
          exact ⟨s, t, c, ⟨hs, ht, hcc⟩, rfl, rfl, rfl⟩
        · rw [if_pos rfl, if_neg h3] at h; cases h
      · rw [if_neg h2] at h; cases h
    · rw [if_neg h1] at h; cases h
  · rintro ⟨s, t, c, ⟨hs, ht, hcc⟩, rfl, rfl, rfl⟩
    rw [if_pos ((cShape_iff hc e6 _).mpr ⟨s, hs, rfl⟩), if_pos (show f_X7_within (nI t) 4 = true from within_y (n := 4) (by decide) ht), if_pos rfl, if_pos (show f_X7_within (nI c) 64 = true from within_y (n := 64) (by decide) hcc)]
def okT (S : MS) (s σ : Nat) : Bool := tbL (f_X1_standsFor S (f_X3_rowsOf S (nI s) (nI (σ / 64)))) (σ % 64)
theorem canT {S : MS} {s t c : Nat} (hc : c < 64) : f_X7_canStand S (nI s) (nI t) (nI c) = okT S s (64 * t + c) := by
  unfold f_X7_canStand okT
  rw [has_eq hc, show (64 * t + c) / 64 = t by omega, show (64 * t + c) % 64 = c by omega]
theorem bg_stN {S S' : MS} {s : Nat} (h : bgS S s S') : stN (okT S s) S' := fun t ht => by
  obtain ⟨h1, h2, h3⟩ := h.1 t ht
  refine ⟨h2, h3, fun c hc => ?_⟩
  rw [h1]; unfold okT
  rw [show (64 * t + c) / 64 = t by omega, show (64 * t + c) % 64 = c by omega]
theorem bg_keep {S S' : MS} {s : Nat} (h : bgS S s S') : keepW S S' := ⟨h.2.1, fun k k2 k3 k4 _ => h.2.2 k k2 k3 k4⟩
def thruC (S : MS) (x1 x2 x3 x4 x5 r : Int32) : Prop := if f_X7_isStand S x1 x2 x3 = true ∧ f_X7_isStand S x1 x4 x5 = true then thrR (okT S x1.toNatClampNeg) (64 * x2.toNatClampNeg + x3.toNatClampNeg) (64 * x4.toNatClampNeg + x5.toNatClampNeg) r else r = -2
theorem c_X7_through (ad : Nat → Nat) (S : MS) {cnt : Nat} (hc : cnt ≤ 8) (e6 : S.1 6 0 = nI cnt) (x1 x2 x3 x4 x5 : Int32) :
    ∃ r S', thruC S x1 x2 x3 x4 x5 r ∧ keepW S S' ∧ ∀ (l : Launch) (D : va_G) (E : Nat → ClassId) (a1 a2 : Nat), Fn l D E a1 a2 yX7_through wsX7_through 4 87 [.ref (ad 0), .int x1, .int x2, .int x3, .int x4, .int x5] (cW E ad S) (some (.int r)) (cW E ad S') := by
  by_cases h1 : f_X7_isStand S x1 x2 x3 = true
  · by_cases h2 : f_X7_isStand S x1 x4 x5 = true
    · obtain ⟨s, t, c, ⟨hs, ht, hcc⟩, rfl, rfl, rfl⟩ := (cStand_iff hc e6 _ _ _).mp h1
      obtain ⟨s', u, to, ⟨hs', hu, hto⟩, es, rfl, rfl⟩ := (cStand_iff hc e6 _ _ _).mp h2
      have hv : ∀ r, thrR (okT S s) (64 * t + c) (64 * u + to) r → thruC S (nI s) (nI t) (nI c) (nI u) (nI to) r := fun r h => by
        rw [thruC, if_pos ⟨h1, h2⟩, nI_clamp (by omega), nI_clamp (by omega), nI_clamp (by omega), nI_clamp (by omega), nI_clamp (by omega)]; exact h
      have c1 := canT (S := S) (s := s) (t := t) hcc
      have c2 := canT (S := S) (s := s) (t := u) hto
      by_cases o1 : okT S s (64 * t + c) = true
      · by_cases o2 : okT S s (64 * u + to) = true
        · obtain ⟨S1, hb, hF1⟩ := c_X6_begin ad S s
          obtain ⟨r, S2, hr, hk, hF2⟩ := c_X6_fewestSteps ad S1 (bg_stN hb) ht hcc hu hto
          refine ⟨r, S2, hv r (Or.inl ⟨⟨o1, o2⟩, hr⟩), (bg_keep hb).tr hk, fun l D E a1 a2 => ?_⟩
          refine Fn.of (cc := cX7_through) (maxL := 6) (ret := (some .int)) (own := RX7) (by decide) rfl rfl (sameC _ _ _ _) (Nat.le_of_ble_eq_true rfl) (fun X q1 q2 q3 q4 q5 C hE => ?_)
          subst q1 q2 q3 q4 q5
          refine r_X7_through_0 C ad S _ _ _ _ _ ⟨fun _ => ⟨fun _ => ⟨fun _ => ⟨fun _ => ⟨S1, hF1 _ _ _ _ _, r, S2, hF2 _ _ _ _ _, hE⟩, fun q => ?_⟩, fun q => ?_⟩, fun q => (by rw [h2] at q; cases q)⟩, fun q => (by rw [h1] at q; cases q)⟩
          · rw [c2, o2] at q; cases q
          · rw [c1, o1] at q; cases q
        · refine ⟨-3, S, hv _ (Or.inr ⟨fun q => o2 q.2, rfl⟩), keepW.rf S, fun l D E a1 a2 => ?_⟩
          refine Fn.of (cc := cX7_through) (maxL := 6) (ret := (some .int)) (own := RX7) (by decide) rfl rfl (sameC _ _ _ _) (Nat.le_of_ble_eq_true rfl) (fun X q1 q2 q3 q4 q5 C hE => ?_)
          subst q1 q2 q3 q4 q5
          refine r_X7_through_0 C ad S _ _ _ _ _ ⟨fun _ => ⟨fun _ => ⟨fun _ => ⟨fun q => ?_, fun _ => hE⟩, fun _ => hE⟩, fun q => (by rw [h2] at q; cases q)⟩, fun q => (by rw [h1] at q; cases q)⟩
          exact absurd (c2.symm.trans q) o2
      · refine ⟨-3, S, hv _ (Or.inr ⟨fun q => o1 q.1, rfl⟩), keepW.rf S, fun l D E a1 a2 => ?_⟩
        refine Fn.of (cc := cX7_through) (maxL := 6) (ret := (some .int)) (own := RX7) (by decide) rfl rfl (sameC _ _ _ _) (Nat.le_of_ble_eq_true rfl) (fun X q1 q2 q3 q4 q5 C hE => ?_)
        subst q1 q2 q3 q4 q5
        refine r_X7_through_0 C ad S _ _ _ _ _ ⟨fun _ => ⟨fun _ => ⟨fun q => ?_, fun _ => hE⟩, fun q => (by rw [h2] at q; cases q)⟩, fun q => (by rw [h1] at q; cases q)⟩
        exact absurd (c1.symm.trans q) o1
    · refine ⟨-2, S, by rw [thruC, if_neg (fun z => h2 z.2)], keepW.rf S, fun l D E a1 a2 => ?_⟩
      refine Fn.of (cc := cX7_through) (maxL := 6) (ret := (some .int)) (own := RX7) (by decide) rfl rfl (sameC _ _ _ _) (Nat.le_of_ble_eq_true rfl) (fun X q1 q2 q3 q4 q5 C hE => ?_)
      subst q1 q2 q3 q4 q5
      exact r_X7_through_0 C ad S _ _ _ _ _ ⟨fun _ => ⟨fun q => absurd q h2, fun _ => hE⟩, fun q => (by rw [h1] at q; cases q)⟩
  · refine ⟨-2, S, by rw [thruC, if_neg (fun z => h1 z.1)], keepW.rf S, fun l D E a1 a2 => ?_⟩
    refine Fn.of (cc := cX7_through) (maxL := 6) (ret := (some .int)) (own := RX7) (by decide) rfl rfl (sameC _ _ _ _) (Nat.le_of_ble_eq_true rfl) (fun X q1 q2 q3 q4 q5 C hE => ?_)
    subst q1 q2 q3 q4 q5
    exact r_X7_through_0 C ad S _ _ _ _ _ ⟨fun q => absurd q h1, fun _ => hE⟩
set_option maxRecDepth 20000 in
theorem ggX7_reach_X7_isStand : GoodIn wsX7_reach wsX7_isStand := goodIn_r _ [8, 9, 10, 11, 7, 12, 13, 14, 15, 16, 2, 17, 18, 19, 20, 83, 84, 85, 86, 87, 88, 89, 90, 91, 92, 93, 94] (by decide +kernel) (by decide +kernel)
set_option maxRecDepth 20000 in
theorem gX7_reach_X7_isStand : GoodIn wsX7_reach (wsV RX7 126 RX7 yX7_isStand wsX7_isStand) := goodIn_app (goodIn_of _ (by decide +kernel)) ggX7_reach_X7_isStand
set_option maxRecDepth 20000 in
theorem ggX7_reach_X7_canStand : GoodIn wsX7_reach wsX7_canStand := goodIn_r _ [24, 3, 2, 25, 26, 27, 28, 29, 30, 31, 32, 33, 34, 35, 36, 37, 38, 39, 40, 41, 42, 43, 44, 45, 46, 19, 7, 20, 83, 84, 85, 86, 87, 88, 89, 90, 91, 92, 93, 94, 95, 96, 97, 98, 99, 100] (by decide +kernel) (by decide +kernel)
set_option maxRecDepth 20000 in
theorem gX7_reach_X7_canStand : GoodIn wsX7_reach (wsV RX7 130 RX7 yX7_canStand wsX7_canStand) := goodIn_app (goodIn_of _ (by decide +kernel)) ggX7_reach_X7_canStand
set_option maxRecDepth 20000 in
theorem ggX7_reach_X6_begin : GoodIn wsX7_reach wsX6_begin := goodIn_r _ [51, 52, 53, 54, 55, 26, 27, 28, 29, 30, 56, 32, 33, 34, 35, 36, 37, 38, 39, 40, 41, 42, 43, 101, 102, 103, 104, 91, 92, 93, 94, 95, 96, 97, 98, 99, 100] (by decide +kernel) (by decide +kernel)
set_option maxRecDepth 20000 in
theorem gX7_reach_X6_begin : GoodIn wsX7_reach (wsV RX7 133 RX6 yX6_begin wsX6_begin) := goodIn_app (goodIn_of _ (by decide +kernel)) ggX7_reach_X6_begin
set_option maxRecDepth 20000 in
theorem ggX7_reach_X6_cellsReached : GoodIn wsX7_reach wsX6_cellsReached := goodIn_r _ [60, 53, 61, 62, 63, 50, 64, 54, 19, 7, 20, 65, 66, 67, 68, 69, 52, 70, 71, 72, 73, 74, 75, 76, 77, 78, 79, 80, 81, 82, 101, 102, 103, 104] (by decide +kernel) (by decide +kernel)
set_option maxRecDepth 20000 in
theorem gX7_reach_X6_cellsReached : GoodIn wsX7_reach (wsV RX7 141 RX6 yX6_cellsReached wsX6_cellsReached) := goodIn_app (goodIn_of _ (by decide +kernel)) ggX7_reach_X6_cellsReached
theorem dX7_reach_0 : decode cX7_reach 0 = .ok (.aload_n 0, 1) := by decide +kernel
theorem dX7_reach_1 : decode cX7_reach 1 = .ok (.iload_n 1, 1) := by decide +kernel
theorem dX7_reach_2 : decode cX7_reach 2 = .ok (.iload_n 2, 1) := by decide +kernel
theorem dX7_reach_3 : decode cX7_reach 3 = .ok (.iload_n 3, 1) := by decide +kernel
theorem dX7_reach_4 : decode cX7_reach 4 = .ok (.invokevirtual 126, 3) := by decide +kernel
theorem dX7_reach_7 : decode cX7_reach 7 = .ok (.ifCond .ne 6, 3) := by decide +kernel
theorem dX7_reach_10 : decode cX7_reach 10 = .ok (.bipush (-2), 2) := by decide +kernel
theorem dX7_reach_12 : decode cX7_reach 12 = .ok (.ireturn, 1) := by decide +kernel
theorem dX7_reach_13 : decode cX7_reach 13 = .ok (.aload_n 0, 1) := by decide +kernel
theorem dX7_reach_14 : decode cX7_reach 14 = .ok (.iload_n 1, 1) := by decide +kernel
theorem dX7_reach_15 : decode cX7_reach 15 = .ok (.iload_n 2, 1) := by decide +kernel
theorem dX7_reach_16 : decode cX7_reach 16 = .ok (.iload_n 3, 1) := by decide +kernel
theorem dX7_reach_17 : decode cX7_reach 17 = .ok (.invokevirtual 130, 3) := by decide +kernel
theorem dX7_reach_20 : decode cX7_reach 20 = .ok (.ifCond .ne 6, 3) := by decide +kernel
theorem dX7_reach_23 : decode cX7_reach 23 = .ok (.bipush (-3), 2) := by decide +kernel
theorem dX7_reach_25 : decode cX7_reach 25 = .ok (.ireturn, 1) := by decide +kernel
theorem dX7_reach_26 : decode cX7_reach 26 = .ok (.aload_n 0, 1) := by decide +kernel
theorem dX7_reach_27 : decode cX7_reach 27 = .ok (.getfield 38, 3) := by decide +kernel
theorem dX7_reach_30 : decode cX7_reach 30 = .ok (.aload_n 0, 1) := by decide +kernel
theorem dX7_reach_31 : decode cX7_reach 31 = .ok (.getfield 24, 3) := by decide +kernel
theorem dX7_reach_34 : decode cX7_reach 34 = .ok (.aload_n 0, 1) := by decide +kernel
theorem dX7_reach_35 : decode cX7_reach 35 = .ok (.getfield 31, 3) := by decide +kernel
theorem dX7_reach_38 : decode cX7_reach 38 = .ok (.iload_n 1, 1) := by decide +kernel
theorem dX7_reach_39 : decode cX7_reach 39 = .ok (.invokevirtual 133, 3) := by decide +kernel
theorem dX7_reach_42 : decode cX7_reach 42 = .ok (.aload_n 0, 1) := by decide +kernel
theorem dX7_reach_43 : decode cX7_reach 43 = .ok (.getfield 38, 3) := by decide +kernel
theorem dX7_reach_46 : decode cX7_reach 46 = .ok (.iload_n 2, 1) := by decide +kernel
theorem dX7_reach_47 : decode cX7_reach 47 = .ok (.iload_n 3, 1) := by decide +kernel
theorem dX7_reach_48 : decode cX7_reach 48 = .ok (.invokevirtual 141, 3) := by decide +kernel
theorem dX7_reach_51 : decode cX7_reach 51 = .ok (.ireturn, 1) := by decide +kernel
theorem iw_X7_reach_X7 : ∀ w ∈ u_ws RX7 TX7 8, w ∈ wsX7_reach := by decide +kernel
theorem lk_X7_reach_0 : Cond.fieldLink RX7 38 (TX7 4).1 (TX7 4).2.1 (TX7 4).2.2.1 ∈ wsX7_reach := by decide +kernel
theorem lk_X7_reach_1 : Cond.fieldLink RX7 24 (TX7 2).1 (TX7 2).2.1 (TX7 2).2.2.1 ∈ wsX7_reach := by decide +kernel
theorem lk_X7_reach_2 : Cond.fieldLink RX7 31 (TX7 3).1 (TX7 3).2.1 (TX7 3).2.2.1 ∈ wsX7_reach := by decide +kernel
set_option maxRecDepth 100000 in
theorem r_X7_reach_0 {X : Bn} (C : Cx X cX7_reach 4 RX7 wsX7_reach 4 87) (ad : Nat → Nat) (S : MS) (x1 : Int32) (x2 : Int32) (x3 : Int32) (h : (((f_X7_isStand S x1 x2 x3) = true) → ((((f_X7_canStand S x1 x2 x3) = true) → (∃ (S1 : MS), (Fn X.l X.D X.E X.a1 X.a2 yX6_begin wsX6_begin 2 48 [.ref (ad 10), .ref (ad 5), .ref (ad 8), .int x1] (cW X.E ad S) none (cW X.E ad S1)) ∧ (∃ (r2 : Int32) (S2 : MS), (Fn X.l X.D X.E X.a1 X.a2 yX6_cellsReached wsX6_cellsReached 2 48 [.ref (ad 10), .int x2, .int x3] (cW X.E ad S1) (some (.int r2)) (cW X.E ad S2)) ∧ (Ends X (some .int) (some (.int r2)) (cW X.E ad S2))))) ∧ ((f_X7_canStand S x1 x2 x3) = false → (Ends X (some .int) (some (.int (-3))) (cW X.E ad S))))) ∧ ((f_X7_isStand S x1 x2 x3) = false → (Ends X (some .int) (some (.int (-2))) (cW X.E ad S)))) : At X 4 (cW X.E ad S) 0 [(0, .ref (ad 0)), (1, .int x1), (2, .int x2), (3, .int x3)] [] := by
  refine at_aload_n C dX7_reach_0 rfl (j := 0) rfl ?_
  refine at_iload_n C dX7_reach_1 rfl (j := 1) rfl ?_
  refine at_iload_n C dX7_reach_2 rfl (j := 2) rfl ?_
  refine at_iload_n C dX7_reach_3 rfl (j := 3) rfl ?_
  refine at_cV1 C 3 (c_X7_isStand X.l X.D X.E X.a1 X.a2 ad S x1 x2 x3) gX7_reach_X7_isStand rfl (by decide +kernel) ⟨rfl, rfl⟩ rfl rfl rfl 0 cW_c0 rfl dX7_reach_4 ?_
  refine at_ifB_ne C dX7_reach_7 (tgt := 13) (by decide) (fun hc0 => ?_) (fun hc0 => ?_)
  · replace h := h.1 hc0
    refine at_aload_n C dX7_reach_13 rfl (j := 0) rfl ?_
    refine at_iload_n C dX7_reach_14 rfl (j := 1) rfl ?_
    refine at_iload_n C dX7_reach_15 rfl (j := 2) rfl ?_
    refine at_iload_n C dX7_reach_16 rfl (j := 3) rfl ?_
    refine at_cV1 C 3 (c_X7_canStand X.l X.D X.E X.a1 X.a2 ad S x1 x2 x3) gX7_reach_X7_canStand rfl (by decide +kernel) ⟨rfl, rfl⟩ rfl rfl rfl 0 cW_c0 rfl dX7_reach_17 ?_
    refine at_ifB_ne C dX7_reach_20 (tgt := 26) (by decide) (fun hc1 => ?_) (fun hc1 => ?_)
    · replace h := h.1 hc1
      refine at_aload_n C dX7_reach_26 rfl (j := 0) rfl ?_
      refine at_get C (K := RX7) (T := TX7) (N := 8) (ci := 6) (v := .ref (ad 10)) iw_X7_reach_X7 0 cW_c0 rfl 4 (by decide) lk_X7_reach_0 rfl dX7_reach_27 ?_
      refine at_aload_n C dX7_reach_30 rfl (j := 0) rfl ?_
      refine at_get C (K := RX7) (T := TX7) (N := 8) (ci := 6) (v := .ref (ad 5)) iw_X7_reach_X7 0 cW_c0 rfl 2 (by decide) lk_X7_reach_1 rfl dX7_reach_31 ?_
      refine at_aload_n C dX7_reach_34 rfl (j := 0) rfl ?_
      refine at_get C (K := RX7) (T := TX7) (N := 8) (ci := 6) (v := .ref (ad 8)) iw_X7_reach_X7 0 cW_c0 rfl 3 (by decide) lk_X7_reach_2 rfl dX7_reach_35 ?_
      refine at_iload_n C dX7_reach_38 rfl (j := 1) rfl ?_
      obtain ⟨S1, hF1, h⟩ := h
      refine at_cV1v C 3 hF1 gX7_reach_X6_begin rfl (by decide +kernel) ⟨rfl, rfl⟩ rfl rfl rfl 10 cW_c10 rfl dX7_reach_39 ?_
      refine at_aload_n C dX7_reach_42 rfl (j := 0) rfl ?_
      refine at_get C (K := RX7) (T := TX7) (N := 8) (ci := 6) (v := .ref (ad 10)) iw_X7_reach_X7 0 cW_c0 rfl 4 (by decide) lk_X7_reach_0 rfl dX7_reach_43 ?_
      refine at_iload_n C dX7_reach_46 rfl (j := 2) rfl ?_
      refine at_iload_n C dX7_reach_47 rfl (j := 3) rfl ?_
      obtain ⟨r2, S2, hF2, h⟩ := h
      refine at_cV1 C 2 hF2 gX7_reach_X6_cellsReached rfl (by decide +kernel) ⟨rfl, rfl⟩ rfl rfl rfl 10 cW_c10 rfl dX7_reach_48 ?_
      exact at_iret C dX7_reach_51 h
    · replace h := h.2 hc1
      refine at_bipush C dX7_reach_23 (v := (-3)) rfl ?_
      exact at_iret C dX7_reach_25 h
  · replace h := h.2 hc0
    refine at_bipush C dX7_reach_10 (v := (-2)) rfl ?_
    exact at_iret C dX7_reach_12 h
def rchC (ok : Nat → Bool) (st : Nat) (r : Int32) : Prop := (ok st = true ∧ ∃ v, (∀ d, d < 64 → (tbL v d = true ↔ ∃ u n, u < 4 ∧ rch ok st n (64 * u + d))) ∧ r = f_J13_bitCount_95d88 v) ∨ (¬ ok st = true ∧ r = -3)
def reaC (S : MS) (x1 x2 x3 r : Int32) : Prop := if f_X7_isStand S x1 x2 x3 = true then rchC (okT S x1.toNatClampNeg) (64 * x2.toNatClampNeg + x3.toNatClampNeg) r else r = -2
theorem c_X7_reach (ad : Nat → Nat) (S : MS) {cnt : Nat} (hc : cnt ≤ 8) (e6 : S.1 6 0 = nI cnt) (x1 x2 x3 : Int32) :
    ∃ r S', reaC S x1 x2 x3 r ∧ keepW S S' ∧ ∀ (l : Launch) (D : va_G) (E : Nat → ClassId) (a1 a2 : Nat), Fn l D E a1 a2 yX7_reach wsX7_reach 4 87 [.ref (ad 0), .int x1, .int x2, .int x3] (cW E ad S) (some (.int r)) (cW E ad S') := by
  by_cases h1 : f_X7_isStand S x1 x2 x3 = true
  · obtain ⟨s, t, c, ⟨hs, ht, hcc⟩, rfl, rfl, rfl⟩ := (cStand_iff hc e6 _ _ _).mp h1
    have hv : ∀ r, rchC (okT S s) (64 * t + c) r → reaC S (nI s) (nI t) (nI c) r := fun r h => by
      rw [reaC, if_pos h1, nI_clamp (by omega), nI_clamp (by omega), nI_clamp (by omega)]; exact h
    have c1 := canT (S := S) (s := s) (t := t) hcc
    by_cases o1 : okT S s (64 * t + c) = true
    · obtain ⟨S1, hb, hF1⟩ := c_X6_begin ad S s
      obtain ⟨v, S2, hr, hk, hF2⟩ := c_X6_cellsReached ad S1 (bg_stN hb) ht hcc
      refine ⟨_, S2, hv _ (Or.inl ⟨o1, v, hr, rfl⟩), (bg_keep hb).tr hk, fun l D E a1 a2 => ?_⟩
      refine Fn.of (cc := cX7_reach) (maxL := 4) (ret := (some .int)) (own := RX7) (by decide) rfl rfl (sameC _ _ _ _) (Nat.le_of_ble_eq_true rfl) (fun X q1 q2 q3 q4 q5 C hE => ?_)
      subst q1 q2 q3 q4 q5
      refine r_X7_reach_0 C ad S _ _ _ ⟨fun _ => ⟨fun _ => ⟨S1, hF1 _ _ _ _ _, _, S2, hF2 _ _ _ _ _, hE⟩, fun q => ?_⟩, fun q => (by rw [h1] at q; cases q)⟩
      rw [c1, o1] at q; cases q
    · refine ⟨-3, S, hv _ (Or.inr ⟨o1, rfl⟩), keepW.rf S, fun l D E a1 a2 => ?_⟩
      refine Fn.of (cc := cX7_reach) (maxL := 4) (ret := (some .int)) (own := RX7) (by decide) rfl rfl (sameC _ _ _ _) (Nat.le_of_ble_eq_true rfl) (fun X q1 q2 q3 q4 q5 C hE => ?_)
      subst q1 q2 q3 q4 q5
      refine r_X7_reach_0 C ad S _ _ _ ⟨fun _ => ⟨fun q => ?_, fun _ => hE⟩, fun q => (by rw [h1] at q; cases q)⟩
      exact absurd (c1.symm.trans q) o1
  · refine ⟨-2, S, by rw [reaC, if_neg h1], keepW.rf S, fun l D E a1 a2 => ?_⟩
    refine Fn.of (cc := cX7_reach) (maxL := 4) (ret := (some .int)) (own := RX7) (by decide) rfl rfl (sameC _ _ _ _) (Nat.le_of_ble_eq_true rfl) (fun X q1 q2 q3 q4 q5 C hE => ?_)
    subst q1 q2 q3 q4 q5
    exact r_X7_reach_0 C ad S _ _ _ ⟨fun q => absurd q h1, fun _ => hE⟩
set_option maxRecDepth 20000 in
theorem ggX7_look_X7_within : GoodIn wsX7_look wsX7_within := goodIn_r _ [6] (by decide +kernel) (by decide +kernel)
set_option maxRecDepth 20000 in
theorem gX7_look_X7_within : GoodIn wsX7_look (va_wsS RX7 64 yX7_within wsX7_within) := goodIn_app (goodIn_of _ (by decide +kernel)) ggX7_look_X7_within
set_option maxRecDepth 20000 in
theorem ggX7_look_X0_fittingPairs : GoodIn wsX7_look wsX0_fittingPairs := goodIn_r _ [11, 12, 13, 14, 15, 10, 16, 17, 18, 19, 20, 21, 22, 23, 24, 25, 54, 55, 56, 57, 58, 59, 60, 61] (by decide +kernel) (by decide +kernel)
set_option maxRecDepth 20000 in
theorem gX7_look_X0_fittingPairs : GoodIn wsX7_look (wsV RX7 157 RX0 yX0_fittingPairs wsX0_fittingPairs) := goodIn_app (goodIn_of _ (by decide +kernel)) ggX7_look_X0_fittingPairs
set_option maxRecDepth 20000 in
theorem ggX7_look_X0_leftAtWorst : GoodIn wsX7_look wsX0_leftAtWorst := goodIn_r _ [29, 30, 12, 31, 32, 33, 34, 13, 14, 15, 10, 16, 17, 18, 19, 20, 21, 22, 23, 24, 25, 35, 36, 37, 38, 39, 40, 41, 42, 43, 44, 45, 58, 59, 60, 61, 54, 55, 56, 57] (by decide +kernel) (by decide +kernel)
set_option maxRecDepth 20000 in
theorem gX7_look_X0_leftAtWorst : GoodIn wsX7_look (wsV RX7 164 RX0 yX0_leftAtWorst wsX0_leftAtWorst) := goodIn_app (goodIn_of _ (by decide +kernel)) ggX7_look_X0_leftAtWorst
theorem dX7_look_0 : decode cX7_look 0 = .ok (.iload_n 1, 1) := by decide +kernel
theorem dX7_look_1 : decode cX7_look 1 = .ok (.iconst 2, 1) := by decide +kernel
theorem dX7_look_2 : decode cX7_look 2 = .ok (.invokestatic 64, 3) := by decide +kernel
theorem dX7_look_5 : decode cX7_look 5 = .ok (.ifCond .ne 6, 3) := by decide +kernel
theorem dX7_look_8 : decode cX7_look 8 = .ok (.bipush (-2), 2) := by decide +kernel
theorem dX7_look_10 : decode cX7_look 10 = .ok (.ireturn, 1) := by decide +kernel
theorem dX7_look_11 : decode cX7_look 11 = .ok (.aload_n 0, 1) := by decide +kernel
theorem dX7_look_12 : decode cX7_look 12 = .ok (.getfield 45, 3) := by decide +kernel
theorem dX7_look_15 : decode cX7_look 15 = .ok (.aload_n 0, 1) := by decide +kernel
theorem dX7_look_16 : decode cX7_look 16 = .ok (.getfield 24, 3) := by decide +kernel
theorem dX7_look_19 : decode cX7_look 19 = .ok (.invokevirtual 157, 3) := by decide +kernel
theorem dX7_look_22 : decode cX7_look 22 = .ok (.ifCond .ne 6, 3) := by decide +kernel
theorem dX7_look_25 : decode cX7_look 25 = .ok (.bipush (-3), 2) := by decide +kernel
theorem dX7_look_27 : decode cX7_look 27 = .ok (.ireturn, 1) := by decide +kernel
theorem dX7_look_28 : decode cX7_look 28 = .ok (.iconst 0, 1) := by decide +kernel
theorem dX7_look_29 : decode cX7_look 29 = .ok (.istore_n 2, 1) := by decide +kernel
theorem dX7_look_30 : decode cX7_look 30 = .ok (.aload_n 0, 1) := by decide +kernel
theorem dX7_look_31 : decode cX7_look 31 = .ok (.getfield 45, 3) := by decide +kernel
theorem dX7_look_34 : decode cX7_look 34 = .ok (.aload_n 0, 1) := by decide +kernel
theorem dX7_look_35 : decode cX7_look 35 = .ok (.getfield 24, 3) := by decide +kernel
theorem dX7_look_38 : decode cX7_look 38 = .ok (.iconst 0, 1) := by decide +kernel
theorem dX7_look_39 : decode cX7_look 39 = .ok (.invokevirtual 164, 3) := by decide +kernel
theorem dX7_look_42 : decode cX7_look 42 = .ok (.istore_n 3, 1) := by decide +kernel
theorem dX7_look_43 : decode cX7_look 43 = .ok (.iconst 1, 1) := by decide +kernel
theorem dX7_look_44 : decode cX7_look 44 = .ok (.istore 4, 2) := by decide +kernel
theorem dX7_look_46 : decode cX7_look 46 = .ok (.iload 4, 2) := by decide +kernel
theorem dX7_look_48 : decode cX7_look 48 = .ok (.iconst 4, 1) := by decide +kernel
theorem dX7_look_49 : decode cX7_look 49 = .ok (.if_icmp .ge 36, 3) := by decide +kernel
theorem dX7_look_52 : decode cX7_look 52 = .ok (.aload_n 0, 1) := by decide +kernel
theorem dX7_look_53 : decode cX7_look 53 = .ok (.getfield 45, 3) := by decide +kernel
theorem dX7_look_56 : decode cX7_look 56 = .ok (.aload_n 0, 1) := by decide +kernel
theorem dX7_look_57 : decode cX7_look 57 = .ok (.getfield 24, 3) := by decide +kernel
theorem dX7_look_60 : decode cX7_look 60 = .ok (.iload 4, 2) := by decide +kernel
theorem dX7_look_62 : decode cX7_look 62 = .ok (.invokevirtual 164, 3) := by decide +kernel
theorem dX7_look_65 : decode cX7_look 65 = .ok (.istore 5, 2) := by decide +kernel
theorem dX7_look_67 : decode cX7_look 67 = .ok (.iload 5, 2) := by decide +kernel
theorem dX7_look_69 : decode cX7_look 69 = .ok (.iload_n 3, 1) := by decide +kernel
theorem dX7_look_70 : decode cX7_look 70 = .ok (.if_icmp .ge 9, 3) := by decide +kernel
theorem dX7_look_73 : decode cX7_look 73 = .ok (.iload 4, 2) := by decide +kernel
theorem dX7_look_75 : decode cX7_look 75 = .ok (.istore_n 2, 1) := by decide +kernel
theorem dX7_look_76 : decode cX7_look 76 = .ok (.iload 5, 2) := by decide +kernel
theorem dX7_look_78 : decode cX7_look 78 = .ok (.istore_n 3, 1) := by decide +kernel
theorem dX7_look_79 : decode cX7_look 79 = .ok (.iinc 4 1, 3) := by decide +kernel
theorem dX7_look_82 : decode cX7_look 82 = .ok (.goto (-36), 3) := by decide +kernel
theorem dX7_look_85 : decode cX7_look 85 = .ok (.iload_n 1, 1) := by decide +kernel
theorem dX7_look_86 : decode cX7_look 86 = .ok (.ifCond .ne 7, 3) := by decide +kernel
theorem dX7_look_89 : decode cX7_look 89 = .ok (.iload_n 2, 1) := by decide +kernel
theorem dX7_look_90 : decode cX7_look 90 = .ok (.goto 4, 3) := by decide +kernel
theorem dX7_look_93 : decode cX7_look 93 = .ok (.iload_n 3, 1) := by decide +kernel
theorem dX7_look_94 : decode cX7_look 94 = .ok (.ireturn, 1) := by decide +kernel
theorem iw_X7_look_X7 : ∀ w ∈ u_ws RX7 TX7 8, w ∈ wsX7_look := by decide +kernel
theorem lk_X7_look_0 : Cond.fieldLink RX7 45 (TX7 5).1 (TX7 5).2.1 (TX7 5).2.2.1 ∈ wsX7_look := by decide +kernel
theorem lk_X7_look_1 : Cond.fieldLink RX7 24 (TX7 2).1 (TX7 2).2.1 (TX7 2).2.2.1 ∈ wsX7_look := by decide +kernel
set_option maxRecDepth 100000 in
theorem r_X7_look_0 {X : Bn} (C : Cx X cX7_look 6 RX7 wsX7_look 3 74) (ad : Nat → Nat) (S : MS) (x1 : Int32) (h : (((f_X7_within x1 (2 : Int32)) = true) → ((okC S ∧ okK S) ∧ (((f_X0_fittingPairs S = 0) → (Ends X (some .int) (some (.int (-3))) (cW X.E ad S))) ∧ (¬ f_X0_fittingPairs S = 0 → (∃ (r1 : Int32) (S1 : MS), (Fn X.l X.D X.E X.a1 X.a2 yX0_leftAtWorst wsX0_leftAtWorst 2 48 [.ref (ad 15), .ref (ad 5), .int 0] (cW X.E ad S) (some (.int r1)) (cW X.E ad S1)) ∧ (At X 6 (cW X.E ad S1) 46 [(0, .ref (ad 0)), (1, .int x1), (2, .int 0), (3, .int r1), (4, .int 1)] [])))))) ∧ ((f_X7_within x1 (2 : Int32)) = false → (Ends X (some .int) (some (.int (-2))) (cW X.E ad S)))) : At X 6 (cW X.E ad S) 0 [(0, .ref (ad 0)), (1, .int x1)] [] := by
  refine at_iload_n C dX7_look_0 rfl (j := 1) rfl ?_
  refine at_iconst C dX7_look_1 (v := 2) rfl ?_
  refine at_cS0 C 2 (c_X7_within X.l X.D X.E X.a1 X.a2 x1 (2 : Int32)) gX7_look_X7_within rfl (by decide +kernel) ⟨rfl, rfl⟩ rfl rfl rfl dX7_look_2 ?_
  refine at_ifB_ne C dX7_look_5 (tgt := 11) (by decide) (fun hc0 => ?_) (fun hc0 => ?_)
  · replace h := h.1 hc0
    refine at_aload_n C dX7_look_11 rfl (j := 0) rfl ?_
    refine at_get C (K := RX7) (T := TX7) (N := 8) (ci := 6) (v := .ref (ad 15)) iw_X7_look_X7 0 cW_c0 rfl 5 (by decide) lk_X7_look_0 rfl dX7_look_12 ?_
    refine at_aload_n C dX7_look_15 rfl (j := 0) rfl ?_
    refine at_get C (K := RX7) (T := TX7) (N := 8) (ci := 6) (v := .ref (ad 5)) iw_X7_look_X7 0 cW_c0 rfl 2 (by decide) lk_X7_look_1 rfl dX7_look_16 ?_
    refine at_cV1 C 1 (c_X0_fittingPairs X.l X.D X.E X.a1 X.a2 ad S h.1) gX7_look_X0_fittingPairs rfl (by decide +kernel) ⟨rfl, rfl⟩ rfl rfl rfl 15 cW_c15 rfl dX7_look_19 ?_
    replace h := h.2
    refine at_if_ne C dX7_look_22 (tgt := 28) (by decide) (fun hc1 => ?_) (fun hc1 => ?_)
    · replace h := h.2 hc1
      refine at_iconst C dX7_look_28 (v := 0) rfl ?_
      refine at_istore_n C dX7_look_29 rfl (by decide) (lv' := [(2, .int 0), (0, .ref (ad 0)), (1, .int x1)]) rfl ?_
      refine at_aload_n C dX7_look_30 rfl (j := 1) rfl ?_
      refine at_get C (K := RX7) (T := TX7) (N := 8) (ci := 6) (v := .ref (ad 15)) iw_X7_look_X7 0 cW_c0 rfl 5 (by decide) lk_X7_look_0 rfl dX7_look_31 ?_
      refine at_aload_n C dX7_look_34 rfl (j := 1) rfl ?_
      refine at_get C (K := RX7) (T := TX7) (N := 8) (ci := 6) (v := .ref (ad 5)) iw_X7_look_X7 0 cW_c0 rfl 2 (by decide) lk_X7_look_1 rfl dX7_look_35 ?_
      refine at_iconst C dX7_look_38 (v := 0) rfl ?_
      obtain ⟨r1, S1, hF1, h⟩ := h
      refine at_cV1 C 2 hF1 gX7_look_X0_leftAtWorst rfl (by decide +kernel) ⟨rfl, rfl⟩ rfl rfl rfl 15 cW_c15 rfl dX7_look_39 ?_
      refine at_istore_n C dX7_look_42 rfl (by decide) (lv' := [(3, .int r1), (2, .int 0), (0, .ref (ad 0)), (1, .int x1)]) rfl ?_
      refine at_iconst C dX7_look_43 (v := 1) rfl ?_
      refine at_istore C dX7_look_44 (by decide) (lv' := [(4, .int 1), (3, .int r1), (2, .int 0), (0, .ref (ad 0)), (1, .int x1)]) rfl ?_
      refine at_lv [3, 4, 2, 1, 0] rfl ?_
      exact h
    · replace h := h.1 hc1
      refine at_bipush C dX7_look_25 (v := (-3)) rfl ?_
      exact at_iret C dX7_look_27 h
  · replace h := h.2 hc0
    refine at_bipush C dX7_look_8 (v := (-2)) rfl ?_
    exact at_iret C dX7_look_10 h
set_option maxRecDepth 100000 in
theorem r_X7_look_46 {X : Bn} (C : Cx X cX7_look 6 RX7 wsX7_look 3 74) (ad : Nat → Nat) (S : MS) (x1 : Int32) (x2 : Int32) (x3 : Int32) (x4 : Int32) (h : ((4 ≤ x4) → (Ends X (some .int) (some (.int (if x1 = 0 then x2 else x3))) (cW X.E ad S))) ∧ (¬ 4 ≤ x4 → (∃ (r2 : Int32) (S2 : MS), (Fn X.l X.D X.E X.a1 X.a2 yX0_leftAtWorst wsX0_leftAtWorst 2 48 [.ref (ad 15), .ref (ad 5), .int x4] (cW X.E ad S) (some (.int r2)) (cW X.E ad S2)) ∧ (At X 6 (cW X.E ad S2) 46 [(0, .ref (ad 0)), (1, .int x1), (2, .int (if x3 ≤ r2 then x2 else x4)), (3, .int (if x3 ≤ r2 then x3 else r2)), (4, .int (x4 + 1))] [])))) : At X 6 (cW X.E ad S) 46 [(0, .ref (ad 0)), (1, .int x1), (2, .int x2), (3, .int x3), (4, .int x4)] [] := by
  refine at_iload C dX7_look_46 (j := 4) rfl ?_
  refine at_iconst C dX7_look_48 (v := 4) rfl ?_
  refine at_icmp_ge C dX7_look_49 (tgt := 85) (by decide) (fun hc2 => ?_) (fun hc2 => ?_)
  · replace h := h.1 hc2
    refine at_iload_n C dX7_look_85 rfl (j := 1) rfl ?_
    have K : At X 6 (cW X.E ad S) 94 [] [.int (if x1 = 0 then x2 else x3)] := by
      exact at_iret C dX7_look_94 h
    refine at_if_ne C dX7_look_86 (tgt := 93) (by decide) (fun hc3 => ?_) (fun hc3 => ?_)
    · skip
      refine at_iload_n C dX7_look_93 rfl (j := 3) rfl ?_
      refine at_lv [] rfl ?_
      first | (simp only [if_neg hc3] at K; exact K) | exact K
    · skip
      refine at_iload_n C dX7_look_89 rfl (j := 2) rfl ?_
      refine at_goto C dX7_look_90 (tgt := 94) (by decide) ?_
      refine at_lv [] rfl ?_
      first | (simp only [if_pos hc3] at K; exact K) | exact K
  · replace h := h.2 hc2
    refine at_aload_n C dX7_look_52 rfl (j := 0) rfl ?_
    refine at_get C (K := RX7) (T := TX7) (N := 8) (ci := 6) (v := .ref (ad 15)) iw_X7_look_X7 0 cW_c0 rfl 5 (by decide) lk_X7_look_0 rfl dX7_look_53 ?_
    refine at_aload_n C dX7_look_56 rfl (j := 0) rfl ?_
    refine at_get C (K := RX7) (T := TX7) (N := 8) (ci := 6) (v := .ref (ad 5)) iw_X7_look_X7 0 cW_c0 rfl 2 (by decide) lk_X7_look_1 rfl dX7_look_57 ?_
    refine at_iload C dX7_look_60 (j := 4) rfl ?_
    obtain ⟨r2, S2, hF2, h⟩ := h
    refine at_cV1 C 2 hF2 gX7_look_X0_leftAtWorst rfl (by decide +kernel) ⟨rfl, rfl⟩ rfl rfl rfl 15 cW_c15 rfl dX7_look_62 ?_
    refine at_istore C dX7_look_65 (by decide) (lv' := [(5, .int r2), (0, .ref (ad 0)), (1, .int x1), (2, .int x2), (3, .int x3), (4, .int x4)]) rfl ?_
    refine at_iload C dX7_look_67 (j := 0) rfl ?_
    refine at_iload_n C dX7_look_69 rfl (j := 4) rfl ?_
    have K : At X 6 (cW X.E ad S2) 79 [(0, .ref (ad 0)), (1, .int x1), (2, .int (if x3 ≤ r2 then x2 else x4)), (3, .int (if x3 ≤ r2 then x3 else r2)), (4, .int x4)] [] := by
      refine at_iinc C dX7_look_79 (j := 4) (v := x4 + 1) rfl rfl (by decide) (lv' := [(4, .int (x4 + 1)), (0, .ref (ad 0)), (1, .int x1), (2, .int (if x3 ≤ r2 then x2 else x4)), (3, .int (if x3 ≤ r2 then x3 else r2))]) rfl ?_
      refine at_goto C dX7_look_82 (tgt := 46) (by decide) ?_
      refine at_lv [1, 2, 3, 4, 0] rfl ?_
      exact h
    refine at_icmp_ge C dX7_look_70 (tgt := 79) (by decide) (fun hc3 => ?_) (fun hc3 => ?_)
    · skip
      refine at_lv [1, 2, 3, 4, 5] rfl ?_
      first | (simp only [if_pos hc3] at K; exact K) | exact K
    · skip
      refine at_iload C dX7_look_73 (j := 5) rfl ?_
      refine at_istore_n C dX7_look_75 rfl (by decide) (lv' := [(2, .int x4), (5, .int r2), (0, .ref (ad 0)), (1, .int x1), (3, .int x3), (4, .int x4)]) rfl ?_
      refine at_iload C dX7_look_76 (j := 1) rfl ?_
      refine at_istore_n C dX7_look_78 rfl (by decide) (lv' := [(3, .int r2), (2, .int x4), (5, .int r2), (0, .ref (ad 0)), (1, .int x1), (4, .int x4)]) rfl ?_
      refine at_lv [3, 4, 1, 0, 5] rfl ?_
      first | (simp only [if_neg hc3] at K; exact K) | exact K
def lkL (S : MS) (side : Nat) : Int32 := lwV (lwT S (nI side))
def lkStepC (S : MS) (side : Nat) (p : Int32 × Int32) : Int32 × Int32 := if p.2 ≤ lkL S side then p else (nI side, lkL S side)
def lkP (S : MS) : Int32 × Int32 := itF (fun side p => lkStepC S side p) 1 3 (0, lkL S 0)
def f_X7_look (S : MS) (x1 : Int32) : Int32 := if f_X7_within x1 2 = true then (if f_X0_fittingPairs S = 0 then -3 else (if x1 = 0 then (lkP S).1 else (lkP S).2)) else -2
theorem lwT_set (S : MS) (f : Nat → Int32) (side : Int32) : lwT (setF S 14 f) side = lwT S side := by
  funext p
  unfold lwT f_X0_isFitting fitC f_X3_sightOf
  rw [setF_o (by decide), setF_o (by decide), setF_o (by decide), setF_o (by decide), setF_o (by decide)]
theorem okK_set {S : MS} (h : okK S) (f : Nat → Int32) : okK (setF S 14 f) := by
  obtain ⟨cnt, h1, h2⟩ := h
  exact ⟨cnt, h1, by rw [setF_o (by decide)]; exact h2⟩
theorem c_X7_look (ad : Nat → Nat) (S : MS) (hC : okC S) (hK : okK S) (x1 : Int32) :
    ∃ f, ∀ (l : Launch) (D : va_G) (E : Nat → ClassId) (a1 a2 : Nat), Fn l D E a1 a2 yX7_look wsX7_look 3 74 [.ref (ad 0), .int x1] (cW E ad S) (some (.int (f_X7_look S x1))) (cW E ad (setF S 14 f)) := by
  by_cases h1 : f_X7_within x1 2 = true
  · by_cases h2 : f_X0_fittingPairs S = 0
    · refine ⟨S.1 14, fun l D E a1 a2 => ?_⟩
      rw [setF_self]
      refine Fn.of (cc := cX7_look) (maxL := 6) (ret := (some .int)) (own := RX7) (by decide) rfl rfl (sameC _ _ _ _) (Nat.le_of_ble_eq_true rfl) (fun X q1 q2 q3 q4 q5 C hE => ?_)
      subst q1 q2 q3 q4 q5
      rw [f_X7_look, if_pos h1, if_pos h2] at hE
      exact r_X7_look_0 C ad S x1 ⟨fun _ => ⟨⟨hC, hK⟩, fun _ => hE, fun q => absurd h2 q⟩, fun q => (by rw [h1] at q; cases q)⟩
    · have fold : ∀ (k i : Nat) (f : Nat → Int32) (p : Int32 × Int32), i + k = 4 → itF (fun side p => lkStepC S side p) i k p = lkP S → ∃ f', ∀ X : Bn, Cx X cX7_look 6 RX7 wsX7_look 3 74 → Ends X (some .int) (some (.int (if x1 = 0 then (lkP S).1 else (lkP S).2))) (cW X.E ad (setF S 14 f')) → At X 6 (cW X.E ad (setF S 14 f)) 46 [(0, .ref (ad 0)), (1, .int x1), (2, .int p.1), (3, .int p.2), (4, .int (nI i))] [] := by
        intro k
        induction k with
        | zero =>
          intro i f p hi e
          have : i = 4 := by omega
          subst this
          have e : p = lkP S := e
          subst e
          exact ⟨f, fun X C hE => r_X7_look_46 C ad _ x1 _ _ (nI 4) ⟨fun _ => hE, fun q => nle_no q⟩⟩
        | succ k ih =>
          intro i f p hi e
          obtain ⟨g, hF⟩ := c_X0_leftAtWorst ad (setF S 14 f) (okK_set hK f) (nI i)
          rw [setF_set, lwT_set] at hF
          obtain ⟨f', hgo⟩ := ih (i + 1) g (lkStepC S i p) (by omega) e
          refine ⟨f', fun X C hE => ?_⟩
          refine r_X7_look_46 C ad _ x1 _ _ (nI i) ⟨fun q => nlt_no (a := i) (b := 4) (by decide) (by omega) q, fun _ => ⟨_, _, hF _ _ _ _ _, ?_⟩⟩
          have e1 : (if p.2 ≤ lwV (lwT S (nI i)) then p.1 else nI i) = (lkStepC S i p).1 := by
            unfold lkStepC lkL; split <;> rfl
          have e2 : (if p.2 ≤ lwV (lwT S (nI i)) then p.2 else lwV (lwT S (nI i))) = (lkStepC S i p).2 := by
            unfold lkStepC lkL; split <;> rfl
          rw [e1, e2, nI_1]
          exact hgo X C hE
      obtain ⟨g, hF⟩ := c_X0_leftAtWorst ad S hK 0
      obtain ⟨f', hgo⟩ := fold 3 1 g (0, lkL S 0) rfl rfl
      refine ⟨f', fun l D E a1 a2 => ?_⟩
      refine Fn.of (cc := cX7_look) (maxL := 6) (ret := (some .int)) (own := RX7) (by decide) rfl rfl (sameC _ _ _ _) (Nat.le_of_ble_eq_true rfl) (fun X q1 q2 q3 q4 q5 C hE => ?_)
      subst q1 q2 q3 q4 q5
      rw [f_X7_look, if_pos h1, if_neg h2] at hE
      exact r_X7_look_0 C ad S x1 ⟨fun _ => ⟨⟨hC, hK⟩, fun q => absurd q h2, fun _ => ⟨_, _, hF _ _ _ _ _, hgo X C hE⟩⟩, fun q => (by rw [h1] at q; cases q)⟩
  · refine ⟨S.1 14, fun l D E a1 a2 => ?_⟩
    rw [setF_self]
    refine Fn.of (cc := cX7_look) (maxL := 6) (ret := (some .int)) (own := RX7) (by decide) rfl rfl (sameC _ _ _ _) (Nat.le_of_ble_eq_true rfl) (fun X q1 q2 q3 q4 q5 C hE => ?_)
    subst q1 q2 q3 q4 q5
    rw [f_X7_look, if_neg h1] at hE
    exact r_X7_look_0 C ad S x1 ⟨fun q => absurd q h1, fun _ => hE⟩
set_option maxRecDepth 20000 in
theorem ggX7_watchers_X7_within : GoodIn wsX7_watchers wsX7_within := goodIn_r _ [8] (by decide +kernel) (by decide +kernel)
set_option maxRecDepth 20000 in
theorem gX7_watchers_X7_within : GoodIn wsX7_watchers (va_wsS RX7 64 yX7_within wsX7_within) := goodIn_app (goodIn_of _ (by decide +kernel)) ggX7_watchers_X7_within
set_option maxRecDepth 20000 in
theorem ggX7_watchers_X1_findWatchers : GoodIn wsX7_watchers wsX1_findWatchers := goodIn_r _ [13, 14, 15, 16, 17, 18, 19, 20, 21, 12, 22, 23, 24, 25, 6, 7, 8, 26, 27, 28, 29, 30, 31, 32, 33, 34, 35, 36, 37, 38, 39, 48, 49, 50, 51, 52, 53] (by decide +kernel) (by decide +kernel)
set_option maxRecDepth 20000 in
theorem gX7_watchers_X1_findWatchers : GoodIn wsX7_watchers (wsV RX7 184 RX1 yX1_findWatchers wsX1_findWatchers) := goodIn_app (goodIn_of _ (by decide +kernel)) ggX7_watchers_X1_findWatchers
theorem dX7_watchers_0 : decode cX7_watchers 0 = .ok (.iload_n 1, 1) := by decide +kernel
theorem dX7_watchers_1 : decode cX7_watchers 1 = .ok (.iconst 3, 1) := by decide +kernel
theorem dX7_watchers_2 : decode cX7_watchers 2 = .ok (.invokestatic 64, 3) := by decide +kernel
theorem dX7_watchers_5 : decode cX7_watchers 5 = .ok (.ifCond .ne 6, 3) := by decide +kernel
theorem dX7_watchers_8 : decode cX7_watchers 8 = .ok (.bipush (-2), 2) := by decide +kernel
theorem dX7_watchers_10 : decode cX7_watchers 10 = .ok (.ireturn, 1) := by decide +kernel
theorem dX7_watchers_11 : decode cX7_watchers 11 = .ok (.aload_n 0, 1) := by decide +kernel
theorem dX7_watchers_12 : decode cX7_watchers 12 = .ok (.getfield 31, 3) := by decide +kernel
theorem dX7_watchers_15 : decode cX7_watchers 15 = .ok (.invokevirtual 184, 3) := by decide +kernel
theorem dX7_watchers_18 : decode cX7_watchers 18 = .ok (.iload_n 1, 1) := by decide +kernel
theorem dX7_watchers_19 : decode cX7_watchers 19 = .ok (.lookupswitch 41 #[(0, 25), (1, 33)], 25) := by decide +kernel
theorem dX7_watchers_44 : decode cX7_watchers 44 = .ok (.aload_n 0, 1) := by decide +kernel
theorem dX7_watchers_45 : decode cX7_watchers 45 = .ok (.getfield 31, 3) := by decide +kernel
theorem dX7_watchers_48 : decode cX7_watchers 48 = .ok (.getfield 187, 3) := by decide +kernel
theorem dX7_watchers_51 : decode cX7_watchers 51 = .ok (.ireturn, 1) := by decide +kernel
theorem dX7_watchers_52 : decode cX7_watchers 52 = .ok (.aload_n 0, 1) := by decide +kernel
theorem dX7_watchers_53 : decode cX7_watchers 53 = .ok (.getfield 31, 3) := by decide +kernel
theorem dX7_watchers_56 : decode cX7_watchers 56 = .ok (.getfield 190, 3) := by decide +kernel
theorem dX7_watchers_59 : decode cX7_watchers 59 = .ok (.ireturn, 1) := by decide +kernel
theorem dX7_watchers_60 : decode cX7_watchers 60 = .ok (.aload_n 0, 1) := by decide +kernel
theorem dX7_watchers_61 : decode cX7_watchers 61 = .ok (.getfield 31, 3) := by decide +kernel
theorem dX7_watchers_64 : decode cX7_watchers 64 = .ok (.getfield 193, 3) := by decide +kernel
theorem dX7_watchers_67 : decode cX7_watchers 67 = .ok (.ireturn, 1) := by decide +kernel
theorem iw_X7_watchers_X1 : ∀ w ∈ u_ws RX1 TX1 6, w ∈ wsX7_watchers := by decide +kernel
theorem iw_X7_watchers_X7 : ∀ w ∈ u_ws RX7 TX7 8, w ∈ wsX7_watchers := by decide +kernel
theorem lk_X7_watchers_0 : Cond.fieldLink RX7 31 (TX7 3).1 (TX7 3).2.1 (TX7 3).2.2.1 ∈ wsX7_watchers := by decide +kernel
theorem lk_X7_watchers_1 : Cond.fieldLink RX7 187 (TX1 3).1 (TX1 3).2.1 (TX1 3).2.2.1 ∈ wsX7_watchers := by decide +kernel
theorem lk_X7_watchers_2 : Cond.fieldLink RX7 190 (TX1 4).1 (TX1 4).2.1 (TX1 4).2.2.1 ∈ wsX7_watchers := by decide +kernel
theorem lk_X7_watchers_3 : Cond.fieldLink RX7 193 (TX1 5).1 (TX1 5).2.1 (TX1 5).2.2.1 ∈ wsX7_watchers := by decide +kernel
set_option maxRecDepth 100000 in
theorem r_X7_watchers_0 {X : Bn} (C : Cx X cX7_watchers 2 RX7 wsX7_watchers 4 96) (ad : Nat → Nat) (S : MS) (x1 : Int32) (h : (((f_X7_within x1 (3 : Int32)) = true) → (∃ (S1 : MS), (Fn X.l X.D X.E X.a1 X.a2 yX1_findWatchers wsX1_findWatchers 3 75 [.ref (ad 8)] (cW X.E ad S) none (cW X.E ad S1)) ∧ ((x1 = 0 → (Ends X (some .int) (some (.int (S1.1 9 0))) (cW X.E ad S1))) ∧ (x1 = 1 → (Ends X (some .int) (some (.int (S1.1 10 0))) (cW X.E ad S1))) ∧ (¬ x1 = 0 → ¬ x1 = 1 → (Ends X (some .int) (some (.int (S1.1 11 0))) (cW X.E ad S1)))))) ∧ ((f_X7_within x1 (3 : Int32)) = false → (Ends X (some .int) (some (.int (-2))) (cW X.E ad S)))) : At X 2 (cW X.E ad S) 0 [(0, .ref (ad 0)), (1, .int x1)] [] := by
  refine at_iload_n C dX7_watchers_0 rfl (j := 1) rfl ?_
  refine at_iconst C dX7_watchers_1 (v := 3) rfl ?_
  refine at_cS0 C 2 (c_X7_within X.l X.D X.E X.a1 X.a2 x1 (3 : Int32)) gX7_watchers_X7_within rfl (by decide +kernel) ⟨rfl, rfl⟩ rfl rfl rfl dX7_watchers_2 ?_
  refine at_ifB_ne C dX7_watchers_5 (tgt := 11) (by decide) (fun hc0 => ?_) (fun hc0 => ?_)
  · replace h := h.1 hc0
    refine at_aload_n C dX7_watchers_11 rfl (j := 0) rfl ?_
    refine at_get C (K := RX7) (T := TX7) (N := 8) (ci := 6) (v := .ref (ad 8)) iw_X7_watchers_X7 0 cW_c0 rfl 3 (by decide) lk_X7_watchers_0 rfl dX7_watchers_12 ?_
    obtain ⟨S1, hF1, h⟩ := h
    refine at_cV1v C 0 hF1 gX7_watchers_X1_findWatchers rfl (by decide +kernel) ⟨rfl, rfl⟩ rfl rfl rfl 8 cW_c8 rfl dX7_watchers_15 ?_
    refine at_iload_n C dX7_watchers_18 rfl (j := 1) rfl ?_
    by_cases hk0 : x1 = 0
    · refine at_look C dX7_watchers_19 rfl (off := 25) (by rw [hk0] <;> rfl) (tgt := 44) (by decide) ?_
      replace h := h.1 hk0
      refine at_aload_n C dX7_watchers_44 rfl (j := 0) rfl ?_
      refine at_get C (K := RX7) (T := TX7) (N := 8) (ci := 6) (v := .ref (ad 8)) iw_X7_watchers_X7 0 cW_c0 rfl 3 (by decide) lk_X7_watchers_0 rfl dX7_watchers_45 ?_
      refine at_get C (K := RX1) (T := TX1) (N := 6) (ci := 1) (v := .int (S1.1 9 0)) iw_X7_watchers_X1 8 cW_c8 rfl 3 (by decide) lk_X7_watchers_1 rfl dX7_watchers_48 ?_
      exact at_iret C dX7_watchers_51 h
    replace h := h.2
    by_cases hk1 : x1 = 1
    · refine at_look C dX7_watchers_19 rfl (off := 33) (by rw [hk1] <;> rfl) (tgt := 52) (by decide) ?_
      replace h := h.1 hk1
      refine at_aload_n C dX7_watchers_52 rfl (j := 0) rfl ?_
      refine at_get C (K := RX7) (T := TX7) (N := 8) (ci := 6) (v := .ref (ad 8)) iw_X7_watchers_X7 0 cW_c0 rfl 3 (by decide) lk_X7_watchers_0 rfl dX7_watchers_53 ?_
      refine at_get C (K := RX1) (T := TX1) (N := 6) (ci := 1) (v := .int (S1.1 10 0)) iw_X7_watchers_X1 8 cW_c8 rfl 4 (by decide) lk_X7_watchers_2 rfl dX7_watchers_56 ?_
      exact at_iret C dX7_watchers_59 h
    replace h := h.2
    refine at_look C dX7_watchers_19 rfl (off := 41) ((lv_osw (a := 0) hk0 rfl).trans ((lv_osw (a := 1) hk1 rfl).trans rfl)) (tgt := 60) (by decide) ?_
    replace h := h hk0 hk1
    refine at_aload_n C dX7_watchers_60 rfl (j := 0) rfl ?_
    refine at_get C (K := RX7) (T := TX7) (N := 8) (ci := 6) (v := .ref (ad 8)) iw_X7_watchers_X7 0 cW_c0 rfl 3 (by decide) lk_X7_watchers_0 rfl dX7_watchers_61 ?_
    refine at_get C (K := RX1) (T := TX1) (N := 6) (ci := 1) (v := .int (S1.1 11 0)) iw_X7_watchers_X1 8 cW_c8 rfl 5 (by decide) lk_X7_watchers_3 rfl dX7_watchers_64 ?_
    exact at_iret C dX7_watchers_67 h
  · replace h := h.2 hc0
    refine at_bipush C dX7_watchers_8 (v := (-2)) rfl ?_
    exact at_iret C dX7_watchers_10 h
def f_X7_watchers (S : MS) (x1 : Int32) : Int32 := if f_X7_within x1 3 = true then (if x1 = 0 then (wtC (vwC S) (S.2 1 0)).1 else (if x1 = 1 then (wtC (vwC S) (S.2 1 0)).2.1 else (wtC (vwC S) (S.2 1 0)).2.2)) else -2
def keepV (S S' : MS) : Prop := (∀ k, k ≠ 9 → k ≠ 10 → k ≠ 11 → S'.1 k = S.1 k) ∧ ∀ k, k ≠ 0 → S'.2 k = S.2 k
theorem c_X7_watchers (ad : Nat → Nat) (S : MS) (x1 : Int32) :
    ∃ S', keepV S S' ∧ ∀ (l : Launch) (D : va_G) (E : Nat → ClassId) (a1 a2 : Nat), Fn l D E a1 a2 yX7_watchers wsX7_watchers 4 96 [.ref (ad 0), .int x1] (cW E ad S) (some (.int (f_X7_watchers S x1))) (cW E ad S') := by
  by_cases h1 : f_X7_within x1 3 = true
  · obtain ⟨S', ⟨hw, hk⟩, hF⟩ := c_X1_findWatchers ad S
    refine ⟨S', hk, fun l D E a1 a2 => ?_⟩
    refine Fn.of (cc := cX7_watchers) (maxL := 2) (ret := (some .int)) (own := RX7) (by decide) rfl rfl (sameC _ _ _ _) (Nat.le_of_ble_eq_true rfl) (fun X q1 q2 q3 q4 q5 C hE => ?_)
    subst q1 q2 q3 q4 q5
    rw [f_X7_watchers, if_pos h1, ← hw] at hE
    refine r_X7_watchers_0 C ad S x1 ⟨fun _ => ⟨S', hF _ _ _ _ _, fun z => ?_, fun z => ?_, fun z0 z1 => ?_⟩, fun q => (by rw [h1] at q; cases q)⟩
    · rw [if_pos z] at hE; exact hE
    · rw [if_neg (by rw [z]; decide), if_pos z] at hE; exact hE
    · rw [if_neg z0, if_neg z1] at hE; exact hE
  · refine ⟨S, ⟨fun _ _ _ _ => rfl, fun _ _ => rfl⟩, fun l D E a1 a2 => ?_⟩
    refine Fn.of (cc := cX7_watchers) (maxL := 2) (ret := (some .int)) (own := RX7) (by decide) rfl rfl (sameC _ _ _ _) (Nat.le_of_ble_eq_true rfl) (fun X q1 q2 q3 q4 q5 C hE => ?_)
    subst q1 q2 q3 q4 q5
    rw [f_X7_watchers, if_neg h1] at hE
    exact r_X7_watchers_0 C ad S x1 ⟨fun q => absurd q h1, fun _ => hE⟩
set_option maxRecDepth 20000 in
theorem ggX7_echoes_X7_isEcho : GoodIn wsX7_echoes wsX7_isEcho := goodIn_r _ [5, 6, 7, 4, 8] (by decide +kernel) (by decide +kernel)
set_option maxRecDepth 20000 in
theorem gX7_echoes_X7_isEcho : GoodIn wsX7_echoes (va_wsS RX7 196 yX7_isEcho wsX7_isEcho) := goodIn_app (goodIn_of _ (by decide +kernel)) ggX7_echoes_X7_isEcho
set_option maxRecDepth 20000 in
theorem ggX7_echoes_X7_within : GoodIn wsX7_echoes wsX7_within := goodIn_r _ [8] (by decide +kernel) (by decide +kernel)
set_option maxRecDepth 20000 in
theorem gX7_echoes_X7_within : GoodIn wsX7_echoes (va_wsS RX7 64 yX7_within wsX7_within) := goodIn_app (goodIn_of _ (by decide +kernel)) ggX7_echoes_X7_within
set_option maxRecDepth 20000 in
theorem ggX7_echoes_X1_isFree : GoodIn wsX7_echoes wsX1_isFree := goodIn_r _ [13, 14, 15, 16, 12, 17, 7, 4, 8, 36, 37, 38, 39, 40, 41] (by decide +kernel) (by decide +kernel)
set_option maxRecDepth 20000 in
theorem gX7_echoes_X1_isFree : GoodIn wsX7_echoes (wsV RX7 168 RX1 yX1_isFree wsX1_isFree) := goodIn_app (goodIn_of _ (by decide +kernel)) ggX7_echoes_X1_isFree
set_option maxRecDepth 20000 in
theorem ggX7_echoes_X1_echoesWell : GoodIn wsX7_echoes wsX1_echoesWell := goodIn_r _ [21, 22, 23, 24, 12, 25, 26, 27, 14, 7, 4, 8, 36, 37, 38, 39, 40, 41] (by decide +kernel) (by decide +kernel)
set_option maxRecDepth 20000 in
theorem gX7_echoes_X1_echoesWell : GoodIn wsX7_echoes (wsV RX7 199 RX1 yX1_echoesWell wsX1_echoesWell) := goodIn_app (goodIn_of _ (by decide +kernel)) ggX7_echoes_X1_echoesWell
theorem dX7_echoes_0 : decode cX7_echoes 0 = .ok (.iload_n 1, 1) := by decide +kernel
theorem dX7_echoes_1 : decode cX7_echoes 1 = .ok (.invokestatic 196, 3) := by decide +kernel
theorem dX7_echoes_4 : decode cX7_echoes 4 = .ok (.ifCond .eq 34, 3) := by decide +kernel
theorem dX7_echoes_7 : decode cX7_echoes 7 = .ok (.iload_n 2, 1) := by decide +kernel
theorem dX7_echoes_8 : decode cX7_echoes 8 = .ok (.invokestatic 196, 3) := by decide +kernel
theorem dX7_echoes_11 : decode cX7_echoes 11 = .ok (.ifCond .eq 27, 3) := by decide +kernel
theorem dX7_echoes_14 : decode cX7_echoes 14 = .ok (.iload_n 3, 1) := by decide +kernel
theorem dX7_echoes_15 : decode cX7_echoes 15 = .ok (.invokestatic 196, 3) := by decide +kernel
theorem dX7_echoes_18 : decode cX7_echoes 18 = .ok (.ifCond .eq 20, 3) := by decide +kernel
theorem dX7_echoes_21 : decode cX7_echoes 21 = .ok (.iload 4, 2) := by decide +kernel
theorem dX7_echoes_23 : decode cX7_echoes 23 = .ok (.invokestatic 196, 3) := by decide +kernel
theorem dX7_echoes_26 : decode cX7_echoes 26 = .ok (.ifCond .eq 12, 3) := by decide +kernel
theorem dX7_echoes_29 : decode cX7_echoes 29 = .ok (.iload 5, 2) := by decide +kernel
theorem dX7_echoes_31 : decode cX7_echoes 31 = .ok (.iconst 2, 1) := by decide +kernel
theorem dX7_echoes_32 : decode cX7_echoes 32 = .ok (.invokestatic 64, 3) := by decide +kernel
theorem dX7_echoes_35 : decode cX7_echoes 35 = .ok (.ifCond .ne 6, 3) := by decide +kernel
theorem dX7_echoes_38 : decode cX7_echoes 38 = .ok (.bipush (-2), 2) := by decide +kernel
theorem dX7_echoes_40 : decode cX7_echoes 40 = .ok (.ireturn, 1) := by decide +kernel
theorem dX7_echoes_41 : decode cX7_echoes 41 = .ok (.iconst 0, 1) := by decide +kernel
theorem dX7_echoes_42 : decode cX7_echoes 42 = .ok (.istore 6, 2) := by decide +kernel
theorem dX7_echoes_44 : decode cX7_echoes 44 = .ok (.iconst (-1), 1) := by decide +kernel
theorem dX7_echoes_45 : decode cX7_echoes 45 = .ok (.istore 7, 2) := by decide +kernel
theorem dX7_echoes_47 : decode cX7_echoes 47 = .ok (.iconst 0, 1) := by decide +kernel
theorem dX7_echoes_48 : decode cX7_echoes 48 = .ok (.istore 8, 2) := by decide +kernel
theorem dX7_echoes_50 : decode cX7_echoes 50 = .ok (.iload 8, 2) := by decide +kernel
theorem dX7_echoes_52 : decode cX7_echoes 52 = .ok (.bipush 64, 2) := by decide +kernel
theorem dX7_echoes_54 : decode cX7_echoes 54 = .ok (.if_icmp .ge 95, 3) := by decide +kernel
theorem dX7_echoes_57 : decode cX7_echoes 57 = .ok (.aload_n 0, 1) := by decide +kernel
theorem dX7_echoes_58 : decode cX7_echoes 58 = .ok (.getfield 31, 3) := by decide +kernel
theorem dX7_echoes_61 : decode cX7_echoes 61 = .ok (.iload 8, 2) := by decide +kernel
theorem dX7_echoes_63 : decode cX7_echoes 63 = .ok (.invokevirtual 168, 3) := by decide +kernel
theorem dX7_echoes_66 : decode cX7_echoes 66 = .ok (.ifCond .eq 77, 3) := by decide +kernel
theorem dX7_echoes_69 : decode cX7_echoes 69 = .ok (.aload_n 0, 1) := by decide +kernel
theorem dX7_echoes_70 : decode cX7_echoes 70 = .ok (.getfield 31, 3) := by decide +kernel
theorem dX7_echoes_73 : decode cX7_echoes 73 = .ok (.iload 8, 2) := by decide +kernel
theorem dX7_echoes_75 : decode cX7_echoes 75 = .ok (.iconst 0, 1) := by decide +kernel
theorem dX7_echoes_76 : decode cX7_echoes 76 = .ok (.iload_n 1, 1) := by decide +kernel
theorem dX7_echoes_77 : decode cX7_echoes 77 = .ok (.invokevirtual 199, 3) := by decide +kernel
theorem dX7_echoes_80 : decode cX7_echoes 80 = .ok (.ifCond .eq 63, 3) := by decide +kernel
theorem dX7_echoes_83 : decode cX7_echoes 83 = .ok (.aload_n 0, 1) := by decide +kernel
theorem dX7_echoes_84 : decode cX7_echoes 84 = .ok (.getfield 31, 3) := by decide +kernel
theorem dX7_echoes_87 : decode cX7_echoes 87 = .ok (.iload 8, 2) := by decide +kernel
theorem dX7_echoes_89 : decode cX7_echoes 89 = .ok (.iconst 1, 1) := by decide +kernel
theorem dX7_echoes_90 : decode cX7_echoes 90 = .ok (.iload_n 2, 1) := by decide +kernel
theorem dX7_echoes_91 : decode cX7_echoes 91 = .ok (.invokevirtual 199, 3) := by decide +kernel
theorem dX7_echoes_94 : decode cX7_echoes 94 = .ok (.ifCond .eq 49, 3) := by decide +kernel
theorem dX7_echoes_97 : decode cX7_echoes 97 = .ok (.aload_n 0, 1) := by decide +kernel
theorem dX7_echoes_98 : decode cX7_echoes 98 = .ok (.getfield 31, 3) := by decide +kernel
theorem dX7_echoes_101 : decode cX7_echoes 101 = .ok (.iload 8, 2) := by decide +kernel
theorem dX7_echoes_103 : decode cX7_echoes 103 = .ok (.iconst 2, 1) := by decide +kernel
theorem dX7_echoes_104 : decode cX7_echoes 104 = .ok (.iload_n 3, 1) := by decide +kernel
theorem dX7_echoes_105 : decode cX7_echoes 105 = .ok (.invokevirtual 199, 3) := by decide +kernel
theorem dX7_echoes_108 : decode cX7_echoes 108 = .ok (.ifCond .eq 35, 3) := by decide +kernel
theorem dX7_echoes_111 : decode cX7_echoes 111 = .ok (.aload_n 0, 1) := by decide +kernel
theorem dX7_echoes_112 : decode cX7_echoes 112 = .ok (.getfield 31, 3) := by decide +kernel
theorem dX7_echoes_115 : decode cX7_echoes 115 = .ok (.iload 8, 2) := by decide +kernel
theorem dX7_echoes_117 : decode cX7_echoes 117 = .ok (.iconst 3, 1) := by decide +kernel
theorem dX7_echoes_118 : decode cX7_echoes 118 = .ok (.iload 4, 2) := by decide +kernel
theorem dX7_echoes_120 : decode cX7_echoes 120 = .ok (.invokevirtual 199, 3) := by decide +kernel
theorem dX7_echoes_123 : decode cX7_echoes 123 = .ok (.ifCond .eq 20, 3) := by decide +kernel
theorem dX7_echoes_126 : decode cX7_echoes 126 = .ok (.iload 6, 2) := by decide +kernel
theorem dX7_echoes_128 : decode cX7_echoes 128 = .ok (.ifCond .ne 8, 3) := by decide +kernel
theorem dX7_echoes_131 : decode cX7_echoes 131 = .ok (.iload 8, 2) := by decide +kernel
theorem dX7_echoes_133 : decode cX7_echoes 133 = .ok (.goto 5, 3) := by decide +kernel
theorem dX7_echoes_136 : decode cX7_echoes 136 = .ok (.iload 7, 2) := by decide +kernel
theorem dX7_echoes_138 : decode cX7_echoes 138 = .ok (.istore 7, 2) := by decide +kernel
theorem dX7_echoes_140 : decode cX7_echoes 140 = .ok (.iinc 6 1, 3) := by decide +kernel
theorem dX7_echoes_143 : decode cX7_echoes 143 = .ok (.iinc 8 1, 3) := by decide +kernel
theorem dX7_echoes_146 : decode cX7_echoes 146 = .ok (.goto (-96), 3) := by decide +kernel
theorem dX7_echoes_149 : decode cX7_echoes 149 = .ok (.iload 5, 2) := by decide +kernel
theorem dX7_echoes_151 : decode cX7_echoes 151 = .ok (.ifCond .ne 8, 3) := by decide +kernel
theorem dX7_echoes_154 : decode cX7_echoes 154 = .ok (.iload 6, 2) := by decide +kernel
theorem dX7_echoes_156 : decode cX7_echoes 156 = .ok (.goto 5, 3) := by decide +kernel
theorem dX7_echoes_159 : decode cX7_echoes 159 = .ok (.iload 7, 2) := by decide +kernel
theorem dX7_echoes_161 : decode cX7_echoes 161 = .ok (.ireturn, 1) := by decide +kernel
theorem iw_X7_echoes_X7 : ∀ w ∈ u_ws RX7 TX7 8, w ∈ wsX7_echoes := by decide +kernel
theorem lk_X7_echoes_0 : Cond.fieldLink RX7 31 (TX7 3).1 (TX7 3).2.1 (TX7 3).2.2.1 ∈ wsX7_echoes := by decide +kernel
set_option maxRecDepth 100000 in
theorem r_X7_echoes_0 {X : Bn} (C : Cx X cX7_echoes 9 RX7 wsX7_echoes 3 71) (ad : Nat → Nat) (S : MS) (x1 : Int32) (x2 : Int32) (x3 : Int32) (x4 : Int32) (x5 : Int32) (h : (((f_X7_isEcho x1) = true) → ((((f_X7_isEcho x2) = true) → ((((f_X7_isEcho x3) = true) → ((((f_X7_isEcho x4) = true) → ((((f_X7_within x5 (2 : Int32)) = true) → (At X 9 (cW X.E ad S) 50 [(0, .ref (ad 0)), (1, .int x1), (2, .int x2), (3, .int x3), (4, .int x4), (5, .int x5), (6, .int 0), (7, .int (-1)), (8, .int 0)] [])) ∧ ((f_X7_within x5 (2 : Int32)) = false → (Ends X (some .int) (some (.int (-2))) (cW X.E ad S))))) ∧ ((f_X7_isEcho x4) = false → (Ends X (some .int) (some (.int (-2))) (cW X.E ad S))))) ∧ ((f_X7_isEcho x3) = false → (Ends X (some .int) (some (.int (-2))) (cW X.E ad S))))) ∧ ((f_X7_isEcho x2) = false → (Ends X (some .int) (some (.int (-2))) (cW X.E ad S))))) ∧ ((f_X7_isEcho x1) = false → (Ends X (some .int) (some (.int (-2))) (cW X.E ad S)))) : At X 9 (cW X.E ad S) 0 [(0, .ref (ad 0)), (1, .int x1), (2, .int x2), (3, .int x3), (4, .int x4), (5, .int x5)] [] := by
  refine at_iload_n C dX7_echoes_0 rfl (j := 1) rfl ?_
  refine at_cS0 C 1 (c_X7_isEcho X.l X.D X.E X.a1 X.a2 x1) gX7_echoes_X7_isEcho rfl (by decide +kernel) ⟨rfl, rfl⟩ rfl rfl rfl dX7_echoes_1 ?_
  refine at_ifB_eq C dX7_echoes_4 (tgt := 38) (by decide) (fun hc0 => ?_) (fun hc0 => ?_)
  · replace h := h.2 hc0
    refine at_bipush C dX7_echoes_38 (v := (-2)) rfl ?_
    exact at_iret C dX7_echoes_40 h
  · replace h := h.1 hc0
    refine at_iload_n C dX7_echoes_7 rfl (j := 2) rfl ?_
    refine at_cS0 C 1 (c_X7_isEcho X.l X.D X.E X.a1 X.a2 x2) gX7_echoes_X7_isEcho rfl (by decide +kernel) ⟨rfl, rfl⟩ rfl rfl rfl dX7_echoes_8 ?_
    refine at_ifB_eq C dX7_echoes_11 (tgt := 38) (by decide) (fun hc1 => ?_) (fun hc1 => ?_)
    · replace h := h.2 hc1
      refine at_bipush C dX7_echoes_38 (v := (-2)) rfl ?_
      exact at_iret C dX7_echoes_40 h
    · replace h := h.1 hc1
      refine at_iload_n C dX7_echoes_14 rfl (j := 3) rfl ?_
      refine at_cS0 C 1 (c_X7_isEcho X.l X.D X.E X.a1 X.a2 x3) gX7_echoes_X7_isEcho rfl (by decide +kernel) ⟨rfl, rfl⟩ rfl rfl rfl dX7_echoes_15 ?_
      refine at_ifB_eq C dX7_echoes_18 (tgt := 38) (by decide) (fun hc2 => ?_) (fun hc2 => ?_)
      · replace h := h.2 hc2
        refine at_bipush C dX7_echoes_38 (v := (-2)) rfl ?_
        exact at_iret C dX7_echoes_40 h
      · replace h := h.1 hc2
        refine at_iload C dX7_echoes_21 (j := 4) rfl ?_
        refine at_cS0 C 1 (c_X7_isEcho X.l X.D X.E X.a1 X.a2 x4) gX7_echoes_X7_isEcho rfl (by decide +kernel) ⟨rfl, rfl⟩ rfl rfl rfl dX7_echoes_23 ?_
        refine at_ifB_eq C dX7_echoes_26 (tgt := 38) (by decide) (fun hc3 => ?_) (fun hc3 => ?_)
        · replace h := h.2 hc3
          refine at_bipush C dX7_echoes_38 (v := (-2)) rfl ?_
          exact at_iret C dX7_echoes_40 h
        · replace h := h.1 hc3
          refine at_iload C dX7_echoes_29 (j := 5) rfl ?_
          refine at_iconst C dX7_echoes_31 (v := 2) rfl ?_
          refine at_cS0 C 2 (c_X7_within X.l X.D X.E X.a1 X.a2 x5 (2 : Int32)) gX7_echoes_X7_within rfl (by decide +kernel) ⟨rfl, rfl⟩ rfl rfl rfl dX7_echoes_32 ?_
          refine at_ifB_ne C dX7_echoes_35 (tgt := 41) (by decide) (fun hc4 => ?_) (fun hc4 => ?_)
          · replace h := h.1 hc4
            refine at_iconst C dX7_echoes_41 (v := 0) rfl ?_
            refine at_istore C dX7_echoes_42 (by decide) (lv' := [(6, .int 0), (0, .ref (ad 0)), (1, .int x1), (2, .int x2), (3, .int x3), (4, .int x4), (5, .int x5)]) rfl ?_
            refine at_iconst C dX7_echoes_44 (v := (-1)) rfl ?_
            refine at_istore C dX7_echoes_45 (by decide) (lv' := [(7, .int (-1)), (6, .int 0), (0, .ref (ad 0)), (1, .int x1), (2, .int x2), (3, .int x3), (4, .int x4), (5, .int x5)]) rfl ?_
            refine at_iconst C dX7_echoes_47 (v := 0) rfl ?_
            refine at_istore C dX7_echoes_48 (by decide) (lv' := [(8, .int 0), (7, .int (-1)), (6, .int 0), (0, .ref (ad 0)), (1, .int x1), (2, .int x2), (3, .int x3), (4, .int x4), (5, .int x5)]) rfl ?_
            refine at_lv [3, 4, 5, 6, 7, 8, 2, 1, 0] rfl ?_
            exact h
          · replace h := h.2 hc4
            refine at_bipush C dX7_echoes_38 (v := (-2)) rfl ?_
            exact at_iret C dX7_echoes_40 h
set_option maxRecDepth 100000 in
theorem r_X7_echoes_50 {X : Bn} (C : Cx X cX7_echoes 9 RX7 wsX7_echoes 3 71) (ad : Nat → Nat) (S : MS) (x1 : Int32) (x2 : Int32) (x3 : Int32) (x4 : Int32) (x5 : Int32) (x6 : Int32) (x7 : Int32) (x8 : Int32) (h : ((64 ≤ x8) → (Ends X (some .int) (some (.int (if x5 = 0 then x6 else x7))) (cW X.E ad S))) ∧ (¬ 64 ≤ x8 → (((((f_X1_isFree S x8) = true) → (p_X1_echoesWell S x8 (0 : Int32) x1) ∧ (((f_X1_echoesWell S x8 (0 : Int32) x1) = true) → (p_X1_echoesWell S x8 (1 : Int32) x2) ∧ (((f_X1_echoesWell S x8 (1 : Int32) x2) = true) → (p_X1_echoesWell S x8 (2 : Int32) x3) ∧ (((f_X1_echoesWell S x8 (2 : Int32) x3) = true) → (p_X1_echoesWell S x8 (3 : Int32) x4)))))) ∧ (At X 9 (cW X.E ad S) 50 [(0, .ref (ad 0)), (1, .int x1), (2, .int x2), (3, .int x3), (4, .int x4), (5, .int x5), (6, .int (if (f_X1_isFree S x8) then (if (f_X1_echoesWell S x8 (0 : Int32) x1) then (if (f_X1_echoesWell S x8 (1 : Int32) x2) then (if (f_X1_echoesWell S x8 (2 : Int32) x3) then (if (f_X1_echoesWell S x8 (3 : Int32) x4) then x6 + 1 else x6) else x6) else x6) else x6) else x6)), (7, .int (if (f_X1_isFree S x8) then (if (f_X1_echoesWell S x8 (0 : Int32) x1) then (if (f_X1_echoesWell S x8 (1 : Int32) x2) then (if (f_X1_echoesWell S x8 (2 : Int32) x3) then (if (f_X1_echoesWell S x8 (3 : Int32) x4) then (if x6 = 0 then x8 else x7) else x7) else x7) else x7) else x7) else x7)), (8, .int (x8 + 1))] [])))) : At X 9 (cW X.E ad S) 50 [(0, .ref (ad 0)), (1, .int x1), (2, .int x2), (3, .int x3), (4, .int x4), (5, .int x5), (6, .int x6), (7, .int x7), (8, .int x8)] [] := by
  refine at_iload C dX7_echoes_50 (j := 8) rfl ?_
  refine at_bipush C dX7_echoes_52 (v := 64) rfl ?_
  refine at_icmp_ge C dX7_echoes_54 (tgt := 149) (by decide) (fun hc5 => ?_) (fun hc5 => ?_)
  · replace h := h.1 hc5
    refine at_iload C dX7_echoes_149 (j := 5) rfl ?_
    have K : At X 9 (cW X.E ad S) 161 [] [.int (if x5 = 0 then x6 else x7)] := by
      exact at_iret C dX7_echoes_161 h
    refine at_if_ne C dX7_echoes_151 (tgt := 159) (by decide) (fun hc6 => ?_) (fun hc6 => ?_)
    · skip
      refine at_iload C dX7_echoes_159 (j := 7) rfl ?_
      refine at_lv [] rfl ?_
      first | (simp only [if_neg hc6] at K; exact K) | exact K
    · skip
      refine at_iload C dX7_echoes_154 (j := 6) rfl ?_
      refine at_goto C dX7_echoes_156 (tgt := 161) (by decide) ?_
      refine at_lv [] rfl ?_
      first | (simp only [if_pos hc6] at K; exact K) | exact K
  · replace h := h.2 hc5
    refine at_aload_n C dX7_echoes_57 rfl (j := 0) rfl ?_
    refine at_get C (K := RX7) (T := TX7) (N := 8) (ci := 6) (v := .ref (ad 8)) iw_X7_echoes_X7 0 cW_c0 rfl 3 (by decide) lk_X7_echoes_0 rfl dX7_echoes_58 ?_
    refine at_iload C dX7_echoes_61 (j := 8) rfl ?_
    refine at_cV1 C 1 (c_X1_isFree X.l X.D X.E X.a1 X.a2 ad S x8) gX7_echoes_X1_isFree rfl (by decide +kernel) ⟨rfl, rfl⟩ rfl rfl rfl 8 cW_c8 rfl dX7_echoes_63 ?_
    have hq := h.1
    replace h := h.2
    have K : At X 9 (cW X.E ad S) 143 [(0, .ref (ad 0)), (1, .int x1), (2, .int x2), (3, .int x3), (4, .int x4), (5, .int x5), (6, .int (if (f_X1_isFree S x8) then (if (f_X1_echoesWell S x8 (0 : Int32) x1) then (if (f_X1_echoesWell S x8 (1 : Int32) x2) then (if (f_X1_echoesWell S x8 (2 : Int32) x3) then (if (f_X1_echoesWell S x8 (3 : Int32) x4) then x6 + 1 else x6) else x6) else x6) else x6) else x6)), (7, .int (if (f_X1_isFree S x8) then (if (f_X1_echoesWell S x8 (0 : Int32) x1) then (if (f_X1_echoesWell S x8 (1 : Int32) x2) then (if (f_X1_echoesWell S x8 (2 : Int32) x3) then (if (f_X1_echoesWell S x8 (3 : Int32) x4) then (if x6 = 0 then x8 else x7) else x7) else x7) else x7) else x7) else x7)), (8, .int x8)] [] := by
      refine at_iinc C dX7_echoes_143 (j := 8) (v := x8 + 1) rfl rfl (by decide) (lv' := [(8, .int (x8 + 1)), (0, .ref (ad 0)), (1, .int x1), (2, .int x2), (3, .int x3), (4, .int x4), (5, .int x5), (6, .int (if (f_X1_isFree S x8) then (if (f_X1_echoesWell S x8 (0 : Int32) x1) then (if (f_X1_echoesWell S x8 (1 : Int32) x2) then (if (f_X1_echoesWell S x8 (2 : Int32) x3) then (if (f_X1_echoesWell S x8 (3 : Int32) x4) then x6 + 1 else x6) else x6) else x6) else x6) else x6)), (7, .int (if (f_X1_isFree S x8) then (if (f_X1_echoesWell S x8 (0 : Int32) x1) then (if (f_X1_echoesWell S x8 (1 : Int32) x2) then (if (f_X1_echoesWell S x8 (2 : Int32) x3) then (if (f_X1_echoesWell S x8 (3 : Int32) x4) then (if x6 = 0 then x8 else x7) else x7) else x7) else x7) else x7) else x7))]) rfl ?_
      refine at_goto C dX7_echoes_146 (tgt := 50) (by decide) ?_
      refine at_lv [1, 2, 3, 4, 5, 6, 7, 8, 0] rfl ?_
      exact h
    replace h := hq
    refine at_ifB_eq C dX7_echoes_66 (tgt := 143) (by decide) (fun hc6 => ?_) (fun hc6 => ?_)
    · skip
      first | (simp only [if_neg (show ¬ (f_X1_isFree S x8) = true by rw [hc6]; decide)] at K; exact K) | exact K
    · replace h := h hc6
      refine at_aload_n C dX7_echoes_69 rfl (j := 0) rfl ?_
      refine at_get C (K := RX7) (T := TX7) (N := 8) (ci := 6) (v := .ref (ad 8)) iw_X7_echoes_X7 0 cW_c0 rfl 3 (by decide) lk_X7_echoes_0 rfl dX7_echoes_70 ?_
      refine at_iload C dX7_echoes_73 (j := 8) rfl ?_
      refine at_iconst C dX7_echoes_75 (v := 0) rfl ?_
      refine at_iload_n C dX7_echoes_76 rfl (j := 1) rfl ?_
      refine at_cV1 C 3 (c_X1_echoesWell X.l X.D X.E X.a1 X.a2 ad S x8 (0 : Int32) x1 h.1) gX7_echoes_X1_echoesWell rfl (by decide +kernel) ⟨rfl, rfl⟩ rfl rfl rfl 8 cW_c8 rfl dX7_echoes_77 ?_
      replace h := h.2
      refine at_ifB_eq C dX7_echoes_80 (tgt := 143) (by decide) (fun hc7 => ?_) (fun hc7 => ?_)
      · skip
        first | (simp only [if_pos hc6, if_neg (show ¬ (f_X1_echoesWell S x8 (0 : Int32) x1) = true by rw [hc7]; decide)] at K; exact K) | exact K
      · replace h := h hc7
        refine at_aload_n C dX7_echoes_83 rfl (j := 0) rfl ?_
        refine at_get C (K := RX7) (T := TX7) (N := 8) (ci := 6) (v := .ref (ad 8)) iw_X7_echoes_X7 0 cW_c0 rfl 3 (by decide) lk_X7_echoes_0 rfl dX7_echoes_84 ?_
        refine at_iload C dX7_echoes_87 (j := 8) rfl ?_
        refine at_iconst C dX7_echoes_89 (v := 1) rfl ?_
        refine at_iload_n C dX7_echoes_90 rfl (j := 2) rfl ?_
        refine at_cV1 C 3 (c_X1_echoesWell X.l X.D X.E X.a1 X.a2 ad S x8 (1 : Int32) x2 h.1) gX7_echoes_X1_echoesWell rfl (by decide +kernel) ⟨rfl, rfl⟩ rfl rfl rfl 8 cW_c8 rfl dX7_echoes_91 ?_
        replace h := h.2
        refine at_ifB_eq C dX7_echoes_94 (tgt := 143) (by decide) (fun hc8 => ?_) (fun hc8 => ?_)
        · skip
          first | (simp only [if_pos hc6, if_pos hc7, if_neg (show ¬ (f_X1_echoesWell S x8 (1 : Int32) x2) = true by rw [hc8]; decide)] at K; exact K) | exact K
        · replace h := h hc8
          refine at_aload_n C dX7_echoes_97 rfl (j := 0) rfl ?_
          refine at_get C (K := RX7) (T := TX7) (N := 8) (ci := 6) (v := .ref (ad 8)) iw_X7_echoes_X7 0 cW_c0 rfl 3 (by decide) lk_X7_echoes_0 rfl dX7_echoes_98 ?_
          refine at_iload C dX7_echoes_101 (j := 8) rfl ?_
          refine at_iconst C dX7_echoes_103 (v := 2) rfl ?_
          refine at_iload_n C dX7_echoes_104 rfl (j := 3) rfl ?_
          refine at_cV1 C 3 (c_X1_echoesWell X.l X.D X.E X.a1 X.a2 ad S x8 (2 : Int32) x3 h.1) gX7_echoes_X1_echoesWell rfl (by decide +kernel) ⟨rfl, rfl⟩ rfl rfl rfl 8 cW_c8 rfl dX7_echoes_105 ?_
          replace h := h.2
          refine at_ifB_eq C dX7_echoes_108 (tgt := 143) (by decide) (fun hc9 => ?_) (fun hc9 => ?_)
          · skip
            first | (simp only [if_pos hc6, if_pos hc7, if_pos hc8, if_neg (show ¬ (f_X1_echoesWell S x8 (2 : Int32) x3) = true by rw [hc9]; decide)] at K; exact K) | exact K
          · replace h := h hc9
            refine at_aload_n C dX7_echoes_111 rfl (j := 0) rfl ?_
            refine at_get C (K := RX7) (T := TX7) (N := 8) (ci := 6) (v := .ref (ad 8)) iw_X7_echoes_X7 0 cW_c0 rfl 3 (by decide) lk_X7_echoes_0 rfl dX7_echoes_112 ?_
            refine at_iload C dX7_echoes_115 (j := 8) rfl ?_
            refine at_iconst C dX7_echoes_117 (v := 3) rfl ?_
            refine at_iload C dX7_echoes_118 (j := 4) rfl ?_
            refine at_cV1 C 3 (c_X1_echoesWell X.l X.D X.E X.a1 X.a2 ad S x8 (3 : Int32) x4 h) gX7_echoes_X1_echoesWell rfl (by decide +kernel) ⟨rfl, rfl⟩ rfl rfl rfl 8 cW_c8 rfl dX7_echoes_120 ?_
            refine at_ifB_eq C dX7_echoes_123 (tgt := 143) (by decide) (fun hc10 => ?_) (fun hc10 => ?_)
            · skip
              first | (simp only [if_pos hc6, if_pos hc7, if_pos hc8, if_pos hc9, if_neg (show ¬ (f_X1_echoesWell S x8 (3 : Int32) x4) = true by rw [hc10]; decide)] at K; exact K) | exact K
            · skip
              refine at_iload C dX7_echoes_126 (j := 6) rfl ?_
              have K : At X 9 (cW X.E ad S) 138 [(0, .ref (ad 0)), (1, .int x1), (2, .int x2), (3, .int x3), (4, .int x4), (5, .int x5), (6, .int x6), (8, .int x8)] [.int (if x6 = 0 then x8 else x7)] := by
                refine at_istore C dX7_echoes_138 (by decide) (lv' := [(7, .int (if x6 = 0 then x8 else x7)), (0, .ref (ad 0)), (1, .int x1), (2, .int x2), (3, .int x3), (4, .int x4), (5, .int x5), (6, .int x6), (8, .int x8)]) rfl ?_
                refine at_iinc C dX7_echoes_140 (j := 7) (v := x6 + 1) rfl rfl (by decide) (lv' := [(6, .int (x6 + 1)), (7, .int (if x6 = 0 then x8 else x7)), (0, .ref (ad 0)), (1, .int x1), (2, .int x2), (3, .int x3), (4, .int x4), (5, .int x5), (8, .int x8)]) rfl ?_
                refine at_lv [2, 3, 4, 5, 6, 7, 0, 1, 8] rfl ?_
                first | (simp only [if_pos hc6, if_pos hc7, if_pos hc8, if_pos hc9, if_pos hc10] at K; exact K) | exact K
              refine at_if_ne C dX7_echoes_128 (tgt := 136) (by decide) (fun hc11 => ?_) (fun hc11 => ?_)
              · skip
                refine at_iload C dX7_echoes_136 (j := 7) rfl ?_
                refine at_lv [0, 1, 2, 3, 4, 5, 6, 8] rfl ?_
                first | (simp only [if_neg hc11] at K; exact K) | exact K
              · skip
                refine at_iload C dX7_echoes_131 (j := 8) rfl ?_
                refine at_goto C dX7_echoes_133 (tgt := 138) (by decide) ?_
                refine at_lv [0, 1, 2, 3, 4, 5, 6, 8] rfl ?_
                first | (simp only [if_pos hc11] at K; exact K) | exact K
def hitC (S : MS) (u r d l : Int32) (c : Nat) : Bool := f_X1_isFree S (nI c) && (f_X1_echoesWell S (nI c) 0 u && (f_X1_echoesWell S (nI c) 1 r && (f_X1_echoesWell S (nI c) 2 d && f_X1_echoesWell S (nI c) 3 l)))
def ecC (S : MS) (u r d l : Int32) (c : Nat) (p : Int32 × Int32) : Int32 × Int32 := if hitC S u r d l c then (p.1 + 1, if p.1 = 0 then nI c else p.2) else p
def ecPC (S : MS) (u r d l : Int32) : Int32 × Int32 := itF (fun c p => ecC S u r d l c p) 0 64 (0, -1)
def echOK (u r d l w : Int32) : Bool := f_X7_isEcho u && (f_X7_isEcho r && (f_X7_isEcho d && (f_X7_isEcho l && f_X7_within w 2)))
def f_X7_echoes (S : MS) (u r d l w : Int32) : Int32 := if echOK u r d l w then (if w = 0 then (ecPC S u r d l).1 else (ecPC S u r d l).2) else -2
theorem if5 {α : Type} {a b c d e : Bool} {x y : α} : (if a then (if b then (if c then (if d then (if e then x else y) else y) else y) else y) else y) = (if (a && (b && (c && (d && e)))) then x else y) := by
  cases a <;> cases b <;> cases c <;> cases d <;> cases e <;> rfl
set_option maxRecDepth 100000 in
theorem c_X7_echoes (l : Launch) (D : va_G) (E : Nat → ClassId) (a1 a2 : Nat) (ad : Nat → Nat) (S : MS) (x1 x2 x3 x4 x5 : Int32) : Fn l D E a1 a2 yX7_echoes wsX7_echoes 3 71 [.ref (ad 0), .int x1, .int x2, .int x3, .int x4, .int x5] (cW E ad S) (some (.int (f_X7_echoes S x1 x2 x3 x4 x5))) (cW E ad S) := by
  refine Fn.of (cc := cX7_echoes) (maxL := 9) (ret := (some .int)) (own := RX7) (by decide) rfl rfl (sameC _ _ _ _) (Nat.le_of_ble_eq_true rfl) (fun X h1 h2 h3 h4 h5 C hE => ?_)
  subst h1 h2 h3 h4 h5
  have body : Ends X (some .int) (some (.int (if x5 = 0 then (ecPC S x1 x2 x3 x4).1 else (ecPC S x1 x2 x3 x4).2))) (cW X.E ad S) → At X 9 (cW X.E ad S) 50 [(0, .ref (ad 0)), (1, .int x1), (2, .int x2), (3, .int x3), (4, .int x4), (5, .int x5), (6, .int 0), (7, .int (-1)), (8, .int 0)] [] := by
    intro hE
    refine for_go (P := fun c p => At X 9 (cW X.E ad S) 50 [(0, .ref (ad 0)), (1, .int x1), (2, .int x2), (3, .int x3), (4, .int x4), (5, .int x5), (6, .int p.1), (7, .int p.2), (8, .int (nI c))] []) (N := 64) (fun c p => ecC S x1 x2 x3 x4 c p) (fun c p hc h => ?_) 64 0 (0, -1) rfl ?_
    · have pe : ∀ (w : Nat) (x : Int32), w < 4 → p_X1_echoesWell S (nI c) (nI w) x := fun w x hw _ => ⟨c, w, hc, hw, rfl, rfl⟩
      refine r_X7_echoes_50 C ad S x1 x2 x3 x4 x5 p.1 p.2 (nI c) ⟨fun q => nlt_no (by decide) hc q, fun _ => ⟨fun _ => ⟨pe 0 x1 (by decide), fun _ => ⟨pe 1 x2 (by decide), fun _ => ⟨pe 2 x3 (by decide), fun _ => pe 3 x4 (by decide)⟩⟩⟩, ?_⟩⟩
      rw [if5, if5, nI_1]
      have e1 : (if hitC S x1 x2 x3 x4 c then p.1 + 1 else p.1) = (ecC S x1 x2 x3 x4 c p).1 := by unfold ecC; split <;> rfl
      have e2 : (if hitC S x1 x2 x3 x4 c then (if p.1 = 0 then nI c else p.2) else p.2) = (ecC S x1 x2 x3 x4 c p).2 := by unfold ecC; split <;> rfl
      have e1' : (if (f_X1_isFree S (nI c) && (f_X1_echoesWell S (nI c) 0 x1 && (f_X1_echoesWell S (nI c) 1 x2 && (f_X1_echoesWell S (nI c) 2 x3 && f_X1_echoesWell S (nI c) 3 x4)))) = true then p.1 + 1 else p.1) = (ecC S x1 x2 x3 x4 c p).1 := e1
      have e2' : (if (f_X1_isFree S (nI c) && (f_X1_echoesWell S (nI c) 0 x1 && (f_X1_echoesWell S (nI c) 1 x2 && (f_X1_echoesWell S (nI c) 2 x3 && f_X1_echoesWell S (nI c) 3 x4)))) = true then (if p.1 = 0 then nI c else p.2) else p.2) = (ecC S x1 x2 x3 x4 c p).2 := e2
      rw [e1', e2']
      exact h
    · exact r_X7_echoes_50 C ad S x1 x2 x3 x4 x5 _ _ (nI 64) ⟨fun _ => hE, fun q => nle_no q⟩
  rw [f_X7_echoes, echOK] at hE
  refine r_X7_echoes_0 C ad S x1 x2 x3 x4 x5 ⟨fun z1 => ⟨fun z2 => ⟨fun z3 => ⟨fun z4 => ⟨fun z5 => ?_, fun z5 => ?_⟩, fun z4 => ?_⟩, fun z3 => ?_⟩, fun z2 => ?_⟩, fun z1 => ?_⟩
  · rw [z1, z2, z3, z4, z5] at hE; exact body hE
  · rw [z5] at hE; simp only [Bool.and_false] at hE; exact hE
  · rw [z4] at hE; simp only [Bool.false_and, Bool.and_false] at hE; exact hE
  · rw [z3] at hE; simp only [Bool.false_and, Bool.and_false] at hE; exact hE
  · rw [z2] at hE; simp only [Bool.false_and, Bool.and_false] at hE; exact hE
  · rw [z1] at hE; simp only [Bool.false_and] at hE; exact hE
set_option maxRecDepth 20000 in
theorem ggX7_fog_X1_isFree : GoodIn wsX7_fog wsX1_isFree := goodIn_r _ [9, 10, 11, 12, 8, 13, 14, 15, 16, 44, 45, 46, 47, 48, 49] (by decide +kernel) (by decide +kernel)
set_option maxRecDepth 20000 in
theorem gX7_fog_X1_isFree : GoodIn wsX7_fog (wsV RX7 168 RX1 yX1_isFree wsX1_isFree) := goodIn_app (goodIn_of _ (by decide +kernel)) ggX7_fog_X1_isFree
set_option maxRecDepth 20000 in
theorem ggX7_fog_X7_within : GoodIn wsX7_fog wsX7_within := goodIn_r _ [16] (by decide +kernel) (by decide +kernel)
set_option maxRecDepth 20000 in
theorem gX7_fog_X7_within : GoodIn wsX7_fog (va_wsS RX7 64 yX7_within wsX7_within) := goodIn_app (goodIn_of _ (by decide +kernel)) ggX7_fog_X7_within
set_option maxRecDepth 20000 in
theorem ggX7_fog_X1_viewFrom : GoodIn wsX7_fog wsX1_viewFrom := goodIn_r _ [21, 22, 23, 24, 25, 26, 8, 27, 10, 14, 15, 16, 44, 45, 46, 47, 48, 49] (by decide +kernel) (by decide +kernel)
set_option maxRecDepth 20000 in
theorem gX7_fog_X1_viewFrom : GoodIn wsX7_fog (wsV RX7 171 RX1 yX1_viewFrom wsX1_viewFrom) := goodIn_app (goodIn_of _ (by decide +kernel)) ggX7_fog_X1_viewFrom
set_option maxRecDepth 20000 in
theorem ggX7_fog_X1_has : GoodIn wsX7_fog wsX1_has := goodIn_r _ [13, 14, 15, 16] (by decide +kernel) (by decide +kernel)
set_option maxRecDepth 20000 in
theorem gX7_fog_X1_has : GoodIn wsX7_fog (va_wsS RX7 180 yX1_has wsX1_has) := goodIn_app (goodIn_of _ (by decide +kernel)) ggX7_fog_X1_has
set_option maxRecDepth 20000 in
theorem ggX7_fog_X1_stepsBetween : GoodIn wsX7_fog wsX1_stepsBetween := goodIn_r _ [31, 32, 33, 34, 35] (by decide +kernel) (by decide +kernel)
set_option maxRecDepth 20000 in
theorem gX7_fog_X1_stepsBetween : GoodIn wsX7_fog (va_wsS RX7 204 yX1_stepsBetween wsX1_stepsBetween) := goodIn_app (goodIn_of _ (by decide +kernel)) ggX7_fog_X1_stepsBetween
theorem dX7_fog_0 : decode cX7_fog 0 = .ok (.aload_n 0, 1) := by decide +kernel
theorem dX7_fog_1 : decode cX7_fog 1 = .ok (.getfield 31, 3) := by decide +kernel
theorem dX7_fog_4 : decode cX7_fog 4 = .ok (.iload_n 1, 1) := by decide +kernel
theorem dX7_fog_5 : decode cX7_fog 5 = .ok (.invokevirtual 168, 3) := by decide +kernel
theorem dX7_fog_8 : decode cX7_fog 8 = .ok (.ifCond .eq 32, 3) := by decide +kernel
theorem dX7_fog_11 : decode cX7_fog 11 = .ok (.aload_n 0, 1) := by decide +kernel
theorem dX7_fog_12 : decode cX7_fog 12 = .ok (.getfield 31, 3) := by decide +kernel
theorem dX7_fog_15 : decode cX7_fog 15 = .ok (.iload_n 2, 1) := by decide +kernel
theorem dX7_fog_16 : decode cX7_fog 16 = .ok (.invokevirtual 168, 3) := by decide +kernel
theorem dX7_fog_19 : decode cX7_fog 19 = .ok (.ifCond .eq 21, 3) := by decide +kernel
theorem dX7_fog_22 : decode cX7_fog 22 = .ok (.iload_n 3, 1) := by decide +kernel
theorem dX7_fog_23 : decode cX7_fog 23 = .ok (.bipush 17, 2) := by decide +kernel
theorem dX7_fog_25 : decode cX7_fog 25 = .ok (.invokestatic 64, 3) := by decide +kernel
theorem dX7_fog_28 : decode cX7_fog 28 = .ok (.ifCond .eq 12, 3) := by decide +kernel
theorem dX7_fog_31 : decode cX7_fog 31 = .ok (.iload 4, 2) := by decide +kernel
theorem dX7_fog_33 : decode cX7_fog 33 = .ok (.iconst 2, 1) := by decide +kernel
theorem dX7_fog_34 : decode cX7_fog 34 = .ok (.invokestatic 64, 3) := by decide +kernel
theorem dX7_fog_37 : decode cX7_fog 37 = .ok (.ifCond .ne 7, 3) := by decide +kernel
theorem dX7_fog_40 : decode cX7_fog 40 = .ok (.ldc2_w 202, 3) := by decide +kernel
theorem dX7_fog_43 : decode cX7_fog 43 = .ok (.lreturn, 1) := by decide +kernel
theorem dX7_fog_44 : decode cX7_fog 44 = .ok (.aload_n 0, 1) := by decide +kernel
theorem dX7_fog_45 : decode cX7_fog 45 = .ok (.getfield 31, 3) := by decide +kernel
theorem dX7_fog_48 : decode cX7_fog 48 = .ok (.iload_n 1, 1) := by decide +kernel
theorem dX7_fog_49 : decode cX7_fog 49 = .ok (.invokevirtual 171, 3) := by decide +kernel
theorem dX7_fog_52 : decode cX7_fog 52 = .ok (.iload_n 2, 1) := by decide +kernel
theorem dX7_fog_53 : decode cX7_fog 53 = .ok (.invokestatic 180, 3) := by decide +kernel
theorem dX7_fog_56 : decode cX7_fog 56 = .ok (.ifCond .eq 7, 3) := by decide +kernel
theorem dX7_fog_59 : decode cX7_fog 59 = .ok (.lconst 1, 1) := by decide +kernel
theorem dX7_fog_60 : decode cX7_fog 60 = .ok (.goto 4, 3) := by decide +kernel
theorem dX7_fog_63 : decode cX7_fog 63 = .ok (.lconst 0, 1) := by decide +kernel
theorem dX7_fog_64 : decode cX7_fog 64 = .ok (.lstore 5, 2) := by decide +kernel
theorem dX7_fog_66 : decode cX7_fog 66 = .ok (.lconst 1, 1) := by decide +kernel
theorem dX7_fog_67 : decode cX7_fog 67 = .ok (.lstore 7, 2) := by decide +kernel
theorem dX7_fog_69 : decode cX7_fog 69 = .ok (.iload_n 1, 1) := by decide +kernel
theorem dX7_fog_70 : decode cX7_fog 70 = .ok (.iload_n 2, 1) := by decide +kernel
theorem dX7_fog_71 : decode cX7_fog 71 = .ok (.invokestatic 204, 3) := by decide +kernel
theorem dX7_fog_74 : decode cX7_fog 74 = .ok (.istore 9, 2) := by decide +kernel
theorem dX7_fog_76 : decode cX7_fog 76 = .ok (.iconst 0, 1) := by decide +kernel
theorem dX7_fog_77 : decode cX7_fog 77 = .ok (.istore 10, 2) := by decide +kernel
theorem dX7_fog_79 : decode cX7_fog 79 = .ok (.iload 10, 2) := by decide +kernel
theorem dX7_fog_81 : decode cX7_fog 81 = .ok (.iload 9, 2) := by decide +kernel
theorem dX7_fog_83 : decode cX7_fog 83 = .ok (.if_icmp .ge 34, 3) := by decide +kernel
theorem dX7_fog_86 : decode cX7_fog 86 = .ok (.lload 5, 2) := by decide +kernel
theorem dX7_fog_88 : decode cX7_fog 88 = .ok (.lconst 0, 1) := by decide +kernel
theorem dX7_fog_89 : decode cX7_fog 89 = .ok (.lcmp, 1) := by decide +kernel
theorem dX7_fog_90 : decode cX7_fog 90 = .ok (.ifCond .le 27, 3) := by decide +kernel
theorem dX7_fog_93 : decode cX7_fog 93 = .ok (.lload 5, 2) := by decide +kernel
theorem dX7_fog_95 : decode cX7_fog 95 = .ok (.bipush 16, 2) := by decide +kernel
theorem dX7_fog_97 : decode cX7_fog 97 = .ok (.iload_n 3, 1) := by decide +kernel
theorem dX7_fog_98 : decode cX7_fog 98 = .ok (.isub, 1) := by decide +kernel
theorem dX7_fog_99 : decode cX7_fog 99 = .ok (.i2l, 1) := by decide +kernel
theorem dX7_fog_100 : decode cX7_fog 100 = .ok (.lmul, 1) := by decide +kernel
theorem dX7_fog_101 : decode cX7_fog 101 = .ok (.lstore 5, 2) := by decide +kernel
theorem dX7_fog_103 : decode cX7_fog 103 = .ok (.lload 7, 2) := by decide +kernel
theorem dX7_fog_105 : decode cX7_fog 105 = .ok (.ldc2_w 207, 3) := by decide +kernel
theorem dX7_fog_108 : decode cX7_fog 108 = .ok (.lmul, 1) := by decide +kernel
theorem dX7_fog_109 : decode cX7_fog 109 = .ok (.lstore 7, 2) := by decide +kernel
theorem dX7_fog_111 : decode cX7_fog 111 = .ok (.iinc 10 1, 3) := by decide +kernel
theorem dX7_fog_114 : decode cX7_fog 114 = .ok (.goto (-35), 3) := by decide +kernel
theorem dX7_fog_117 : decode cX7_fog 117 = .ok (.lload 5, 2) := by decide +kernel
theorem dX7_fog_119 : decode cX7_fog 119 = .ok (.lconst 0, 1) := by decide +kernel
theorem dX7_fog_120 : decode cX7_fog 120 = .ok (.lcmp, 1) := by decide +kernel
theorem dX7_fog_121 : decode cX7_fog 121 = .ok (.ifCond .ne 14, 3) := by decide +kernel
theorem dX7_fog_124 : decode cX7_fog 124 = .ok (.iload 4, 2) := by decide +kernel
theorem dX7_fog_126 : decode cX7_fog 126 = .ok (.ifCond .ne 7, 3) := by decide +kernel
theorem dX7_fog_129 : decode cX7_fog 129 = .ok (.lconst 0, 1) := by decide +kernel
theorem dX7_fog_130 : decode cX7_fog 130 = .ok (.goto 4, 3) := by decide +kernel
theorem dX7_fog_133 : decode cX7_fog 133 = .ok (.lconst 1, 1) := by decide +kernel
theorem dX7_fog_134 : decode cX7_fog 134 = .ok (.lreturn, 1) := by decide +kernel
theorem dX7_fog_135 : decode cX7_fog 135 = .ok (.iconst 0, 1) := by decide +kernel
theorem dX7_fog_136 : decode cX7_fog 136 = .ok (.istore 10, 2) := by decide +kernel
theorem dX7_fog_138 : decode cX7_fog 138 = .ok (.iload 10, 2) := by decide +kernel
theorem dX7_fog_140 : decode cX7_fog 140 = .ok (.bipush 28, 2) := by decide +kernel
theorem dX7_fog_142 : decode cX7_fog 142 = .ok (.if_icmp .ge 47, 3) := by decide +kernel
theorem dX7_fog_145 : decode cX7_fog 145 = .ok (.lload 5, 2) := by decide +kernel
theorem dX7_fog_147 : decode cX7_fog 147 = .ok (.ldc2_w 209, 3) := by decide +kernel
theorem dX7_fog_150 : decode cX7_fog 150 = .ok (.lrem, 1) := by decide +kernel
theorem dX7_fog_151 : decode cX7_fog 151 = .ok (.lconst 0, 1) := by decide +kernel
theorem dX7_fog_152 : decode cX7_fog 152 = .ok (.lcmp, 1) := by decide +kernel
theorem dX7_fog_153 : decode cX7_fog 153 = .ok (.ifCond .ne 36, 3) := by decide +kernel
theorem dX7_fog_156 : decode cX7_fog 156 = .ok (.lload 7, 2) := by decide +kernel
theorem dX7_fog_158 : decode cX7_fog 158 = .ok (.ldc2_w 209, 3) := by decide +kernel
theorem dX7_fog_161 : decode cX7_fog 161 = .ok (.lrem, 1) := by decide +kernel
theorem dX7_fog_162 : decode cX7_fog 162 = .ok (.lconst 0, 1) := by decide +kernel
theorem dX7_fog_163 : decode cX7_fog 163 = .ok (.lcmp, 1) := by decide +kernel
theorem dX7_fog_164 : decode cX7_fog 164 = .ok (.ifCond .ne 25, 3) := by decide +kernel
theorem dX7_fog_167 : decode cX7_fog 167 = .ok (.lload 5, 2) := by decide +kernel
theorem dX7_fog_169 : decode cX7_fog 169 = .ok (.ldc2_w 209, 3) := by decide +kernel
theorem dX7_fog_172 : decode cX7_fog 172 = .ok (.ldiv, 1) := by decide +kernel
theorem dX7_fog_173 : decode cX7_fog 173 = .ok (.lstore 5, 2) := by decide +kernel
theorem dX7_fog_175 : decode cX7_fog 175 = .ok (.lload 7, 2) := by decide +kernel
theorem dX7_fog_177 : decode cX7_fog 177 = .ok (.ldc2_w 209, 3) := by decide +kernel
theorem dX7_fog_180 : decode cX7_fog 180 = .ok (.ldiv, 1) := by decide +kernel
theorem dX7_fog_181 : decode cX7_fog 181 = .ok (.lstore 7, 2) := by decide +kernel
theorem dX7_fog_183 : decode cX7_fog 183 = .ok (.iinc 10 1, 3) := by decide +kernel
theorem dX7_fog_186 : decode cX7_fog 186 = .ok (.goto (-48), 3) := by decide +kernel
theorem dX7_fog_189 : decode cX7_fog 189 = .ok (.iload 4, 2) := by decide +kernel
theorem dX7_fog_191 : decode cX7_fog 191 = .ok (.ifCond .ne 8, 3) := by decide +kernel
theorem dX7_fog_194 : decode cX7_fog 194 = .ok (.lload 5, 2) := by decide +kernel
theorem dX7_fog_196 : decode cX7_fog 196 = .ok (.goto 5, 3) := by decide +kernel
theorem dX7_fog_199 : decode cX7_fog 199 = .ok (.lload 7, 2) := by decide +kernel
theorem dX7_fog_201 : decode cX7_fog 201 = .ok (.lreturn, 1) := by decide +kernel
theorem iw_X7_fog_X7 : ∀ w ∈ u_ws RX7 TX7 8, w ∈ wsX7_fog := by decide +kernel
theorem lk_X7_fog_0 : Cond.fieldLink RX7 31 (TX7 3).1 (TX7 3).2.1 (TX7 3).2.2.1 ∈ wsX7_fog := by decide +kernel
theorem lk_X7_fog_1 : Cond.constantLong RX7 202 (-9223372036854775806) ∈ wsX7_fog := by decide +kernel
theorem lk_X7_fog_2 : Cond.constantLong RX7 207 16 ∈ wsX7_fog := by decide +kernel
theorem lk_X7_fog_3 : Cond.constantLong RX7 209 2 ∈ wsX7_fog := by decide +kernel
set_option maxRecDepth 100000 in
theorem r_X7_fog_0 {X : Bn} (C : Cx X cX7_fog 11 RX7 wsX7_fog 3 75) (ad : Nat → Nat) (S : MS) (x1 : Int32) (x2 : Int32) (x3 : Int32) (x4 : Int32) (h : (((f_X1_isFree S x1) = true) → ((((f_X1_isFree S x2) = true) → ((((f_X7_within x3 (17 : Int32)) = true) → ((((f_X7_within x4 (2 : Int32)) = true) → ((p_X1_viewFrom x1) ∧ (At X 11 (cW X.E ad S) 79 [(3, .int x3), (4, .int x4), (5, .long (if (f_X1_has (f_X1_viewFrom S x1) x2) then 1 else 0)), (7, .long 1), (9, .int (f_X1_stepsBetween x1 x2)), (10, .int 0)] []))) ∧ ((f_X7_within x4 (2 : Int32)) = false → (Ends X (some .long) (some (.long (-9223372036854775806))) (cW X.E ad S))))) ∧ ((f_X7_within x3 (17 : Int32)) = false → (Ends X (some .long) (some (.long (-9223372036854775806))) (cW X.E ad S))))) ∧ ((f_X1_isFree S x2) = false → (Ends X (some .long) (some (.long (-9223372036854775806))) (cW X.E ad S))))) ∧ ((f_X1_isFree S x1) = false → (Ends X (some .long) (some (.long (-9223372036854775806))) (cW X.E ad S)))) : At X 11 (cW X.E ad S) 0 [(0, .ref (ad 0)), (1, .int x1), (2, .int x2), (3, .int x3), (4, .int x4)] [] := by
  refine at_aload_n C dX7_fog_0 rfl (j := 0) rfl ?_
  refine at_get C (K := RX7) (T := TX7) (N := 8) (ci := 6) (v := .ref (ad 8)) iw_X7_fog_X7 0 cW_c0 rfl 3 (by decide) lk_X7_fog_0 rfl dX7_fog_1 ?_
  refine at_iload_n C dX7_fog_4 rfl (j := 1) rfl ?_
  refine at_cV1 C 1 (c_X1_isFree X.l X.D X.E X.a1 X.a2 ad S x1) gX7_fog_X1_isFree rfl (by decide +kernel) ⟨rfl, rfl⟩ rfl rfl rfl 8 cW_c8 rfl dX7_fog_5 ?_
  refine at_ifB_eq C dX7_fog_8 (tgt := 40) (by decide) (fun hc0 => ?_) (fun hc0 => ?_)
  · replace h := h.2 hc0
    refine at_ldc2 C lk_X7_fog_1 dX7_fog_40 ?_
    exact at_lret C dX7_fog_43 h
  · replace h := h.1 hc0
    refine at_aload_n C dX7_fog_11 rfl (j := 0) rfl ?_
    refine at_get C (K := RX7) (T := TX7) (N := 8) (ci := 6) (v := .ref (ad 8)) iw_X7_fog_X7 0 cW_c0 rfl 3 (by decide) lk_X7_fog_0 rfl dX7_fog_12 ?_
    refine at_iload_n C dX7_fog_15 rfl (j := 2) rfl ?_
    refine at_cV1 C 1 (c_X1_isFree X.l X.D X.E X.a1 X.a2 ad S x2) gX7_fog_X1_isFree rfl (by decide +kernel) ⟨rfl, rfl⟩ rfl rfl rfl 8 cW_c8 rfl dX7_fog_16 ?_
    refine at_ifB_eq C dX7_fog_19 (tgt := 40) (by decide) (fun hc1 => ?_) (fun hc1 => ?_)
    · replace h := h.2 hc1
      refine at_ldc2 C lk_X7_fog_1 dX7_fog_40 ?_
      exact at_lret C dX7_fog_43 h
    · replace h := h.1 hc1
      refine at_iload_n C dX7_fog_22 rfl (j := 3) rfl ?_
      refine at_bipush C dX7_fog_23 (v := 17) rfl ?_
      refine at_cS0 C 2 (c_X7_within X.l X.D X.E X.a1 X.a2 x3 (17 : Int32)) gX7_fog_X7_within rfl (by decide +kernel) ⟨rfl, rfl⟩ rfl rfl rfl dX7_fog_25 ?_
      refine at_ifB_eq C dX7_fog_28 (tgt := 40) (by decide) (fun hc2 => ?_) (fun hc2 => ?_)
      · replace h := h.2 hc2
        refine at_ldc2 C lk_X7_fog_1 dX7_fog_40 ?_
        exact at_lret C dX7_fog_43 h
      · replace h := h.1 hc2
        refine at_iload C dX7_fog_31 (j := 4) rfl ?_
        refine at_iconst C dX7_fog_33 (v := 2) rfl ?_
        refine at_cS0 C 2 (c_X7_within X.l X.D X.E X.a1 X.a2 x4 (2 : Int32)) gX7_fog_X7_within rfl (by decide +kernel) ⟨rfl, rfl⟩ rfl rfl rfl dX7_fog_34 ?_
        refine at_ifB_ne C dX7_fog_37 (tgt := 44) (by decide) (fun hc3 => ?_) (fun hc3 => ?_)
        · replace h := h.1 hc3
          refine at_aload_n C dX7_fog_44 rfl (j := 0) rfl ?_
          refine at_get C (K := RX7) (T := TX7) (N := 8) (ci := 6) (v := .ref (ad 8)) iw_X7_fog_X7 0 cW_c0 rfl 3 (by decide) lk_X7_fog_0 rfl dX7_fog_45 ?_
          refine at_iload_n C dX7_fog_48 rfl (j := 1) rfl ?_
          refine at_cV1 C 1 (c_X1_viewFrom X.l X.D X.E X.a1 X.a2 ad S x1 h.1) gX7_fog_X1_viewFrom rfl (by decide +kernel) ⟨rfl, rfl⟩ rfl rfl rfl 8 cW_c8 rfl dX7_fog_49 ?_
          replace h := h.2
          refine at_iload_n C dX7_fog_52 rfl (j := 2) rfl ?_
          refine at_cS0 C 2 (c_X1_has X.l X.D X.E X.a1 X.a2 (f_X1_viewFrom S x1) x2) gX7_fog_X1_has rfl (by decide +kernel) ⟨rfl, rfl⟩ rfl rfl rfl dX7_fog_53 ?_
          have K : At X 11 (cW X.E ad S) 64 [(1, .int x1), (2, .int x2), (3, .int x3), (4, .int x4)] [.long (if (f_X1_has (f_X1_viewFrom S x1) x2) then 1 else 0)] := by
            refine at_lstore C dX7_fog_64 (by decide) (lv' := [(5, .long (if (f_X1_has (f_X1_viewFrom S x1) x2) then 1 else 0)), (1, .int x1), (2, .int x2), (3, .int x3), (4, .int x4)]) rfl ?_
            refine at_lconst C dX7_fog_66 (v := 1) rfl ?_
            refine at_lstore C dX7_fog_67 (by decide) (lv' := [(7, .long 1), (5, .long (if (f_X1_has (f_X1_viewFrom S x1) x2) then 1 else 0)), (1, .int x1), (2, .int x2), (3, .int x3), (4, .int x4)]) rfl ?_
            refine at_iload_n C dX7_fog_69 rfl (j := 2) rfl ?_
            refine at_iload_n C dX7_fog_70 rfl (j := 3) rfl ?_
            refine at_cS0 C 2 (c_X1_stepsBetween X.l X.D X.E X.a1 X.a2 x1 x2) gX7_fog_X1_stepsBetween rfl (by decide +kernel) ⟨rfl, rfl⟩ rfl rfl rfl dX7_fog_71 ?_
            refine at_istore C dX7_fog_74 (by decide) (lv' := [(9, .int (f_X1_stepsBetween x1 x2)), (7, .long 1), (5, .long (if (f_X1_has (f_X1_viewFrom S x1) x2) then 1 else 0)), (1, .int x1), (2, .int x2), (3, .int x3), (4, .int x4)]) rfl ?_
            refine at_iconst C dX7_fog_76 (v := 0) rfl ?_
            refine at_istore C dX7_fog_77 (by decide) (lv' := [(10, .int 0), (9, .int (f_X1_stepsBetween x1 x2)), (7, .long 1), (5, .long (if (f_X1_has (f_X1_viewFrom S x1) x2) then 1 else 0)), (1, .int x1), (2, .int x2), (3, .int x3), (4, .int x4)]) rfl ?_
            refine at_lv [6, 7, 3, 2, 1, 0] rfl ?_
            exact h
          refine at_ifB_eq C dX7_fog_56 (tgt := 63) (by decide) (fun hc4 => ?_) (fun hc4 => ?_)
          · skip
            refine at_lconst C dX7_fog_63 (v := 0) rfl ?_
            refine at_lv [1, 2, 3, 4] rfl ?_
            first | (simp only [if_neg (show ¬ (f_X1_has (f_X1_viewFrom S x1) x2) = true by rw [hc4]; decide)] at K; exact K) | exact K
          · skip
            refine at_lconst C dX7_fog_59 (v := 1) rfl ?_
            refine at_goto C dX7_fog_60 (tgt := 64) (by decide) ?_
            refine at_lv [1, 2, 3, 4] rfl ?_
            first | (simp only [if_pos hc4] at K; exact K) | exact K
        · replace h := h.2 hc3
          refine at_ldc2 C lk_X7_fog_1 dX7_fog_40 ?_
          exact at_lret C dX7_fog_43 h
set_option maxRecDepth 100000 in
theorem r_X7_fog_79 {X : Bn} (C : Cx X cX7_fog 11 RX7 wsX7_fog 3 75) (ad : Nat → Nat) (S : MS) (x3 : Int32) (x4 : Int32) (x5 : Int64) (x7 : Int64) (x9 : Int32) (x10 : Int32) (h : ((x9 ≤ x10) → (((x5 = 0) → (Ends X (some .long) (some (.long (if x4 = 0 then 0 else 1))) (cW X.E ad S))) ∧ (¬ x5 = 0 → (At X 11 (cW X.E ad S) 138 [(4, .int x4), (5, .long x5), (7, .long x7), (10, .int 0)] [])))) ∧ (¬ x9 ≤ x10 → (((0 < x5) → (At X 11 (cW X.E ad S) 79 [(3, .int x3), (4, .int x4), (5, .long (x5 * ((16 - x3).toInt64))), (7, .long (x7 * 16)), (9, .int x9), (10, .int (x10 + 1))] [])) ∧ (¬ 0 < x5 → (((x5 = 0) → (Ends X (some .long) (some (.long (if x4 = 0 then 0 else 1))) (cW X.E ad S))) ∧ (¬ x5 = 0 → (At X 11 (cW X.E ad S) 138 [(4, .int x4), (5, .long x5), (7, .long x7), (10, .int 0)] []))))))) : At X 11 (cW X.E ad S) 79 [(3, .int x3), (4, .int x4), (5, .long x5), (7, .long x7), (9, .int x9), (10, .int x10)] [] := by
  refine at_iload C dX7_fog_79 (j := 5) rfl ?_
  refine at_iload C dX7_fog_81 (j := 4) rfl ?_
  refine at_icmp_ge C dX7_fog_83 (tgt := 117) (by decide) (fun hc4 => ?_) (fun hc4 => ?_)
  · replace h := h.1 hc4
    refine at_lload C dX7_fog_117 (j := 2) rfl ?_
    refine at_lconst C dX7_fog_119 (v := 0) rfl ?_
    refine at_lif_ne C dX7_fog_120 dX7_fog_121 (tgt := 135) (by decide) (fun hc5 => ?_) (fun hc5 => ?_)
    · replace h := h.2 hc5
      refine at_iconst C dX7_fog_135 (v := 0) rfl ?_
      refine at_istore C dX7_fog_136 (by decide) (lv' := [(10, .int 0), (3, .int x3), (4, .int x4), (5, .long x5), (7, .long x7), (9, .int x9)]) rfl ?_
      refine at_lv [2, 3, 4, 0] rfl ?_
      exact h
    · replace h := h.1 hc5
      refine at_iload C dX7_fog_124 (j := 1) rfl ?_
      have K : At X 11 (cW X.E ad S) 134 [] [.long (if x4 = 0 then 0 else 1)] := by
        exact at_lret C dX7_fog_134 h
      refine at_if_ne C dX7_fog_126 (tgt := 133) (by decide) (fun hc6 => ?_) (fun hc6 => ?_)
      · skip
        refine at_lconst C dX7_fog_133 (v := 1) rfl ?_
        refine at_lv [] rfl ?_
        first | (simp only [if_neg hc6] at K; exact K) | exact K
      · skip
        refine at_lconst C dX7_fog_129 (v := 0) rfl ?_
        refine at_goto C dX7_fog_130 (tgt := 134) (by decide) ?_
        refine at_lv [] rfl ?_
        first | (simp only [if_pos hc6] at K; exact K) | exact K
  · replace h := h.2 hc4
    refine at_lload C dX7_fog_86 (j := 2) rfl ?_
    refine at_lconst C dX7_fog_88 (v := 0) rfl ?_
    refine at_lif_le C dX7_fog_89 dX7_fog_90 (tgt := 117) (by decide) (fun hc6 => ?_) (fun hc6 => ?_)
    · replace h := h.2 hc6
      refine at_lload C dX7_fog_117 (j := 2) rfl ?_
      refine at_lconst C dX7_fog_119 (v := 0) rfl ?_
      refine at_lif_ne C dX7_fog_120 dX7_fog_121 (tgt := 135) (by decide) (fun hc7 => ?_) (fun hc7 => ?_)
      · replace h := h.2 hc7
        refine at_iconst C dX7_fog_135 (v := 0) rfl ?_
        refine at_istore C dX7_fog_136 (by decide) (lv' := [(10, .int 0), (3, .int x3), (4, .int x4), (5, .long x5), (7, .long x7), (9, .int x9)]) rfl ?_
        refine at_lv [2, 3, 4, 0] rfl ?_
        exact h
      · replace h := h.1 hc7
        refine at_iload C dX7_fog_124 (j := 1) rfl ?_
        have K : At X 11 (cW X.E ad S) 134 [] [.long (if x4 = 0 then 0 else 1)] := by
          exact at_lret C dX7_fog_134 h
        refine at_if_ne C dX7_fog_126 (tgt := 133) (by decide) (fun hc8 => ?_) (fun hc8 => ?_)
        · skip
          refine at_lconst C dX7_fog_133 (v := 1) rfl ?_
          refine at_lv [] rfl ?_
          first | (simp only [if_neg hc8] at K; exact K) | exact K
        · skip
          refine at_lconst C dX7_fog_129 (v := 0) rfl ?_
          refine at_goto C dX7_fog_130 (tgt := 134) (by decide) ?_
          refine at_lv [] rfl ?_
          first | (simp only [if_pos hc8] at K; exact K) | exact K
    · replace h := h.1 hc6
      refine at_lload C dX7_fog_93 (j := 2) rfl ?_
      refine at_bipush C dX7_fog_95 (v := 16) rfl ?_
      refine at_iload_n C dX7_fog_97 rfl (j := 0) rfl ?_
      refine at_isub C dX7_fog_98 ?_
      refine at_i2l C dX7_fog_99 ?_
      refine at_lmul C dX7_fog_100 ?_
      refine at_lstore C dX7_fog_101 (by decide) (lv' := [(5, .long (x5 * ((16 - x3).toInt64))), (3, .int x3), (4, .int x4), (7, .long x7), (9, .int x9), (10, .int x10)]) rfl ?_
      refine at_lload C dX7_fog_103 (j := 3) rfl ?_
      refine at_ldc2 C lk_X7_fog_2 dX7_fog_105 ?_
      refine at_lmul C dX7_fog_108 ?_
      refine at_lstore C dX7_fog_109 (by decide) (lv' := [(7, .long (x7 * 16)), (5, .long (x5 * ((16 - x3).toInt64))), (3, .int x3), (4, .int x4), (9, .int x9), (10, .int x10)]) rfl ?_
      refine at_iinc C dX7_fog_111 (j := 5) (v := x10 + 1) rfl rfl (by decide) (lv' := [(10, .int (x10 + 1)), (7, .long (x7 * 16)), (5, .long (x5 * ((16 - x3).toInt64))), (3, .int x3), (4, .int x4), (9, .int x9)]) rfl ?_
      refine at_goto C dX7_fog_114 (tgt := 79) (by decide) ?_
      refine at_lv [3, 4, 2, 1, 5, 0] rfl ?_
      exact h
set_option maxRecDepth 100000 in
theorem r_X7_fog_138 {X : Bn} (C : Cx X cX7_fog 11 RX7 wsX7_fog 3 75) (ad : Nat → Nat) (S : MS) (x4 : Int32) (x5 : Int64) (x7 : Int64) (x10 : Int32) (h : ((28 ≤ x10) → (Ends X (some .long) (some (.long (if x4 = 0 then x5 else x7))) (cW X.E ad S))) ∧ (¬ 28 ≤ x10 → (((lrm x5 2 = 0) → (((lrm x7 2 = 0) → (At X 11 (cW X.E ad S) 138 [(4, .int x4), (5, .long (x5 / 2)), (7, .long (x7 / 2)), (10, .int (x10 + 1))] [])) ∧ (¬ lrm x7 2 = 0 → (Ends X (some .long) (some (.long (if x4 = 0 then x5 else x7))) (cW X.E ad S))))) ∧ (¬ lrm x5 2 = 0 → (Ends X (some .long) (some (.long (if x4 = 0 then x5 else x7))) (cW X.E ad S)))))) : At X 11 (cW X.E ad S) 138 [(4, .int x4), (5, .long x5), (7, .long x7), (10, .int x10)] [] := by
  refine at_iload C dX7_fog_138 (j := 3) rfl ?_
  refine at_bipush C dX7_fog_140 (v := 28) rfl ?_
  refine at_icmp_ge C dX7_fog_142 (tgt := 189) (by decide) (fun hc8 => ?_) (fun hc8 => ?_)
  · replace h := h.1 hc8
    refine at_iload C dX7_fog_189 (j := 0) rfl ?_
    have K : At X 11 (cW X.E ad S) 201 [] [.long (if x4 = 0 then x5 else x7)] := by
      exact at_lret C dX7_fog_201 h
    refine at_if_ne C dX7_fog_191 (tgt := 199) (by decide) (fun hc9 => ?_) (fun hc9 => ?_)
    · skip
      refine at_lload C dX7_fog_199 (j := 2) rfl ?_
      refine at_lv [] rfl ?_
      first | (simp only [if_neg hc9] at K; exact K) | exact K
    · skip
      refine at_lload C dX7_fog_194 (j := 1) rfl ?_
      refine at_goto C dX7_fog_196 (tgt := 201) (by decide) ?_
      refine at_lv [] rfl ?_
      first | (simp only [if_pos hc9] at K; exact K) | exact K
  · replace h := h.2 hc8
    refine at_lload C dX7_fog_145 (j := 1) rfl ?_
    refine at_ldc2 C lk_X7_fog_3 dX7_fog_147 ?_
    refine at_lrem C dX7_fog_150 (by decide) ?_
    refine at_lconst C dX7_fog_151 (v := 0) rfl ?_
    refine at_lif_ne C dX7_fog_152 dX7_fog_153 (tgt := 189) (by decide) (fun hc9 => ?_) (fun hc9 => ?_)
    · replace h := h.2 hc9
      refine at_iload C dX7_fog_189 (j := 0) rfl ?_
      have K : At X 11 (cW X.E ad S) 201 [] [.long (if x4 = 0 then x5 else x7)] := by
        exact at_lret C dX7_fog_201 h
      refine at_if_ne C dX7_fog_191 (tgt := 199) (by decide) (fun hc10 => ?_) (fun hc10 => ?_)
      · skip
        refine at_lload C dX7_fog_199 (j := 2) rfl ?_
        refine at_lv [] rfl ?_
        first | (simp only [if_neg hc10] at K; exact K) | exact K
      · skip
        refine at_lload C dX7_fog_194 (j := 1) rfl ?_
        refine at_goto C dX7_fog_196 (tgt := 201) (by decide) ?_
        refine at_lv [] rfl ?_
        first | (simp only [if_pos hc10] at K; exact K) | exact K
    · replace h := h.1 hc9
      refine at_lload C dX7_fog_156 (j := 2) rfl ?_
      refine at_ldc2 C lk_X7_fog_3 dX7_fog_158 ?_
      refine at_lrem C dX7_fog_161 (by decide) ?_
      refine at_lconst C dX7_fog_162 (v := 0) rfl ?_
      refine at_lif_ne C dX7_fog_163 dX7_fog_164 (tgt := 189) (by decide) (fun hc10 => ?_) (fun hc10 => ?_)
      · replace h := h.2 hc10
        refine at_iload C dX7_fog_189 (j := 0) rfl ?_
        have K : At X 11 (cW X.E ad S) 201 [] [.long (if x4 = 0 then x5 else x7)] := by
          exact at_lret C dX7_fog_201 h
        refine at_if_ne C dX7_fog_191 (tgt := 199) (by decide) (fun hc11 => ?_) (fun hc11 => ?_)
        · skip
          refine at_lload C dX7_fog_199 (j := 2) rfl ?_
          refine at_lv [] rfl ?_
          first | (simp only [if_neg hc11] at K; exact K) | exact K
        · skip
          refine at_lload C dX7_fog_194 (j := 1) rfl ?_
          refine at_goto C dX7_fog_196 (tgt := 201) (by decide) ?_
          refine at_lv [] rfl ?_
          first | (simp only [if_pos hc11] at K; exact K) | exact K
      · replace h := h.1 hc10
        refine at_lload C dX7_fog_167 (j := 1) rfl ?_
        refine at_ldc2 C lk_X7_fog_3 dX7_fog_169 ?_
        refine at_ldiv C dX7_fog_172 (by decide) ?_
        refine at_lstore C dX7_fog_173 (by decide) (lv' := [(5, .long (x5 / 2)), (4, .int x4), (7, .long x7), (10, .int x10)]) rfl ?_
        refine at_lload C dX7_fog_175 (j := 2) rfl ?_
        refine at_ldc2 C lk_X7_fog_3 dX7_fog_177 ?_
        refine at_ldiv C dX7_fog_180 (by decide) ?_
        refine at_lstore C dX7_fog_181 (by decide) (lv' := [(7, .long (x7 / 2)), (5, .long (x5 / 2)), (4, .int x4), (10, .int x10)]) rfl ?_
        refine at_iinc C dX7_fog_183 (j := 3) (v := x10 + 1) rfl rfl (by decide) (lv' := [(10, .int (x10 + 1)), (7, .long (x7 / 2)), (5, .long (x5 / 2)), (4, .int x4)]) rfl ?_
        refine at_goto C dX7_fog_186 (tgt := 138) (by decide) ?_
        refine at_lv [3, 2, 1, 0] rfl ?_
        exact h
theorem gcd_odd2 {a : Nat} (h : a % 2 = 1) : ∀ m, Nat.gcd a (2 ^ m) = 1
  | 0 => Nat.gcd_one_right a
  | m + 1 => by
    have h2 : Nat.Coprime a 2 := by
      unfold Nat.Coprime
      rw [Nat.gcd_comm, Nat.gcd_rec, h]; rfl
    rw [Nat.pow_succ]
    exact (Nat.Coprime.mul_right (gcd_odd2 h m) h2)
theorem lrm2 {a : Nat} (h : a < 2 ^ 62) : (lrm (lN a) 2 = 0) ↔ a % 2 = 0 := by
  rw [show (2 : Int64) = lN 2 from rfl, lrm_lN (by omega) (by decide) (by decide)]
  exact lN_0 (by omega)
theorem half_lN {a : Nat} (h : a < 2 ^ 62) : lN a / 2 = lN (a / 2) := pk_lDiv (b := 2) (by omega) (by decide) (by decide)
def fogC (S : MS) (c d z : Nat) (w : Int32) : Int64 := if tbL (vwF (frC S) c) d = true then f_X8_part (lN ((16 - z) ^ (f_X1_stepsBetween (nI c) (nI d)).toNatClampNeg)) (lN (16 ^ (f_X1_stepsBetween (nI c) (nI d)).toNatClampNeg)) w else (if w = 0 then 0 else 1)
theorem c_X7_fog (l : Launch) (D : va_G) (E : Nat → ClassId) (a1 a2 : Nat) (ad : Nat → Nat) (S : MS) {c d z : Nat} (hc : c < 64) (hd : d < 64) (hz : z ≤ 16) (f1 : frC S c = true) (f2 : frC S d = true) (x4 : Int32) (h4 : f_X7_within x4 2 = true)
    (hs : tbL (vwF (frC S) c) d = true → ∃ s, s ≤ 7 ∧ f_X1_stepsBetween (nI c) (nI d) = nI s) : Fn l D E a1 a2 yX7_fog wsX7_fog 3 75 [.ref (ad 0), .int (nI c), .int (nI d), .int (nI z), .int x4] (cW E ad S) (some (.long (fogC S c d z x4))) (cW E ad S) := by
  refine Fn.of (cc := cX7_fog) (maxL := 11) (ret := (some .long)) (own := RX7) (by decide) rfl rfl (sameC _ _ _ _) (Nat.le_of_ble_eq_true rfl) (fun X q1 q2 q3 q4 q5 C hE => ?_)
  subst q1 q2 q3 q4 q5
  have i1 : f_X1_isFree S (nI c) = true := by unfold f_X1_isFree; rw [has_eq hc]; exact f1
  have i2 : f_X1_isFree S (nI d) = true := by unfold f_X1_isFree; rw [has_eq hd]; exact f2
  have i3 : f_X7_within (nI z) 17 = true := within_y (n := 17) (by decide) (by omega)
  have iv : f_X1_has (f_X1_viewFrom S (nI c)) (nI d) = tbL (vwF (frC S) c) d := by rw [has_eq hd, f_X1_viewFrom, nI_clamp (by omega)]
  refine r_X7_fog_0 C ad S _ _ _ _ ⟨fun _ => ⟨fun _ => ⟨fun _ => ⟨fun _ => ⟨⟨c, hc, rfl⟩, ?_⟩, fun q => (by rw [h4] at q; cases q)⟩, fun q => (by rw [i3] at q; cases q)⟩, fun q => (by rw [i2] at q; cases q)⟩, fun q => (by rw [i1] at q; cases q)⟩
  rw [iv]
  unfold fogC at hE
  by_cases hv : tbL (vwF (frC S) c) d = true
  · rw [if_pos hv] at hE ⊢
    obtain ⟨s, hs7, es⟩ := hs hv
    rw [es, nI_clamp (by omega)] at hE
    rw [es]
    -- the halving
    have halve : ∀ (k i m a : Nat), i + k = 28 → m ≤ k → 0 < a → a < 2 ^ 62 →
        Ends X (some .long) (some (.long (f_X8_part (lN a) (lN (2 ^ m)) x4))) (cW X.E ad S) → At X 11 (cW X.E ad S) 138 [(4, .int x4), (5, .long (lN a)), (7, .long (lN (2 ^ m))), (10, .int (nI i))] [] := by
      have stop : ∀ (m a : Nat), m ≤ 28 → 0 < a → a < 2 ^ 62 → Nat.gcd a (2 ^ m) = 1 → f_X8_part (lN a) (lN (2 ^ m)) x4 = (if x4 = 0 then lN a else lN (2 ^ m)) := fun m a hm h0 ha hg => by
        have hp : 2 ^ m < 2 ^ 62 := Nat.pow_lt_pow_right (by decide) (by omega)
        unfold f_X8_part
        rw [uL_lN (by omega), uL_lN (by omega), hg]
        by_cases q : x4 = 0
        · rw [if_pos q, pk_lDiv (by omega) (by decide) (by decide), Nat.div_one]
        · rw [if_neg q, pk_lDiv (by omega) (by decide) (by decide), Nat.div_one]
      intro k
      induction k with
      | zero =>
        intro i m a hi hm h0 ha hE
        have : m = 0 := by omega
        subst this
        rw [stop 0 a (by decide) h0 ha (Nat.gcd_one_right a)] at hE
        exact r_X7_fog_138 C ad S x4 _ _ (nI i) ⟨fun _ => hE, fun q => absurd (by rw [show i = 28 by omega]; exact Int32.le_refl _) q⟩
      | succ k ih =>
        intro i m a hi hm h0 ha hE
        have hp : 2 ^ m < 2 ^ 62 := Nat.pow_lt_pow_right (by decide) (by omega)
        refine r_X7_fog_138 C ad S x4 _ _ (nI i) ⟨fun q => nlt_no (a := i) (b := 28) (by decide) (by omega) q, fun _ => ⟨fun q1 => ⟨fun q2 => ?_, fun q2 => ?_⟩, fun q1 => ?_⟩⟩
        · have e1 := (lrm2 ha).mp q1
          have e2 := (lrm2 hp).mp q2
          cases m with
          | zero => exact absurd e2 (by decide)
          | succ m =>
            have ep : 2 ^ (m + 1) / 2 = 2 ^ m := by rw [Nat.pow_succ]; omega
            rw [half_lN ha, half_lN hp, ep, nI_1]
            refine ih (i + 1) m (a / 2) (by omega) (by omega) (by omega) (by omega) ?_
            have ea : a = 2 * (a / 2) := by omega
            have eg : Nat.gcd a (2 ^ (m + 1)) = 2 * Nat.gcd (a / 2) (2 ^ m) := by
              rw [Nat.pow_succ, Nat.mul_comm (2 ^ m) 2]
              conv => lhs; rw [ea]
              exact Nat.gcd_mul_left 2 (a / 2) (2 ^ m)
            have hpm : 2 ^ m < 2 ^ 62 := Nat.pow_lt_pow_right (by decide) (by omega)
            have g0 : 0 < Nat.gcd (a / 2) (2 ^ m) := Nat.gcd_pos_of_pos_left _ (by omega)
            have gl : Nat.gcd (a / 2) (2 ^ m) ≤ a / 2 := Nat.gcd_le_left _ (by omega)
            have key : f_X8_part (lN a) (lN (2 ^ (m + 1))) x4 = f_X8_part (lN (a / 2)) (lN (2 ^ m)) x4 := by
              unfold f_X8_part
              rw [uL_lN (by omega), uL_lN (by omega), uL_lN (by omega), uL_lN (by omega), eg]
              by_cases q : x4 = 0
              · rw [if_pos q, if_pos q, pk_lDiv (by omega) (by omega) (by omega), pk_lDiv (by omega) g0 (by omega), ← Nat.div_div_eq_div_mul]
              · rw [if_neg q, if_neg q, pk_lDiv (by omega) (by omega) (by omega), pk_lDiv (by omega) g0 (by omega), ← Nat.div_div_eq_div_mul, ep]
            rw [← key]; exact hE
        · have e2 : ¬ 2 ^ m % 2 = 0 := fun z => q2 ((lrm2 hp).mpr z)
          have hm0 : m = 0 := by
            cases m with
            | zero => rfl
            | succ m => exact absurd (by rw [Nat.pow_succ]; omega) e2
          rw [hm0] at hE ⊢
          rw [stop 0 a (by decide) h0 ha (Nat.gcd_one_right a)] at hE
          exact hE
        · have e1 : a % 2 = 1 := by
            have : ¬ a % 2 = 0 := fun z => q1 ((lrm2 ha).mpr z)
            omega
          rw [stop m a (by omega) h0 ha (gcd_odd2 e1 m)] at hE
          exact hE
    have hpow : ∀ i, i ≤ 7 → (16 - z) ^ i < 2 ^ 62 ∧ 16 ^ i < 2 ^ 62 := fun i hi => ⟨pow8 (by omega) (by omega), pow8 (by decide) (by omega)⟩
    have e16 : ∀ i : Nat, 16 ^ i = 2 ^ (4 * i) := fun i => by rw [Nat.pow_mul]
    have zero : (16 - z) ^ s = 0 → f_X8_part (lN ((16 - z) ^ s)) (lN (16 ^ s)) x4 = (if x4 = 0 then 0 else 1) := fun h => by
      have hp := (hpow s hs7).2
      have h16 : 0 < 16 ^ s := Nat.pow_pos (by decide)
      unfold f_X8_part
      rw [h, uL_lN (by decide), uL_lN (by omega), Nat.gcd_zero_left]
      by_cases q : x4 = 0
      · rw [if_pos q, if_pos q, pk_lDiv (by decide) h16 (by omega), Nat.zero_div]; rfl
      · rw [if_neg q, if_neg q, pk_lDiv (by omega) h16 (by omega), Nat.div_self h16]; rfl
    have go : ∀ (k i : Nat), i + k = s → At X 11 (cW X.E ad S) 79 [(3, .int (nI z)), (4, .int x4), (5, .long (lN ((16 - z) ^ i))), (7, .long (lN (16 ^ i))), (9, .int (nI s)), (10, .int (nI i))] [] := by
      intro k
      induction k with
      | zero =>
        intro i hi
        have : i = s := by omega
        subst this
        refine r_X7_fog_79 C ad S _ _ _ _ _ (nI i) ⟨fun _ => ⟨fun q => ?_, fun q => ?_⟩, fun q => nle_no q⟩
        · have h0 : (16 - z) ^ i = 0 := (lN_0 (by have := (hpow i hs7).1; omega)).mp q
          rw [zero h0] at hE; exact hE
        · have h0 : ¬ (16 - z) ^ i = 0 := fun y => q (by rw [y]; rfl)
          rw [e16] at hE ⊢
          exact halve 28 0 (4 * i) _ rfl (by omega) (by omega) (hpow i hs7).1 hE
      | succ k ih =>
        intro i hi
        refine r_X7_fog_79 C ad S _ _ _ _ _ (nI i) ⟨fun q => nlt_no (a := i) (b := s) (by omega) (by omega) q, fun _ => ⟨fun q => ?_, fun q => ?_⟩⟩
        · rw [sub16 hz, lN_mul, show (16 : Int64) = lN 16 from rfl, lN_mul, ← Nat.pow_succ, ← Nat.pow_succ, nI_1]
          exact ih (i + 1) (by omega)
        · have hi7 := (hpow i (by omega)).1
          have h0 : (16 - z) ^ i = 0 := by
            rcases Nat.eq_zero_or_pos ((16 - z) ^ i) with y | y
            · exact y
            · exact absurd ((pk_lLT (a := 0) (by decide) (by omega)).mpr y) q
          have hs0 : (16 - z) ^ s = 0 := by
            rw [show s = i + (s - i) by omega, Nat.pow_add, h0, Nat.zero_mul]
          rw [zero hs0] at hE
          exact ⟨fun _ => hE, fun y => absurd (by rw [h0]; rfl) y⟩
    have := go s 0 (Nat.zero_add _)
    rw [Nat.pow_zero, Nat.pow_zero] at this
    exact this
  · rw [if_neg hv] at hE ⊢
    refine r_X7_fog_79 C ad S _ _ _ _ _ _ ⟨fun _ => ⟨fun _ => hE, fun q => absurd rfl q⟩, fun _ => ⟨fun q => absurd q (by decide), fun _ => ⟨fun _ => hE, fun q => absurd rfl q⟩⟩⟩
theorem c_X7_fogB (l : Launch) (D : va_G) (E : Nat → ClassId) (a1 a2 : Nat) (ad : Nat → Nat) (S : MS) (x1 x2 x3 x4 : Int32) (h : f_X1_isFree S x1 = false ∨ f_X1_isFree S x2 = false ∨ f_X7_within x3 17 = false ∨ f_X7_within x4 2 = false) : Fn l D E a1 a2 yX7_fog wsX7_fog 3 75 [.ref (ad 0), .int x1, .int x2, .int x3, .int x4] (cW E ad S) (some (.long (-9223372036854775806))) (cW E ad S) := by
  refine Fn.of (cc := cX7_fog) (maxL := 11) (ret := (some .long)) (own := RX7) (by decide) rfl rfl (sameC _ _ _ _) (Nat.le_of_ble_eq_true rfl) (fun X q1 q2 q3 q4 q5 C hE => ?_)
  subst q1 q2 q3 q4 q5
  refine r_X7_fog_0 C ad S _ _ _ _ ⟨fun z1 => ⟨fun z2 => ⟨fun z3 => ⟨fun z4 => ?_, fun _ => hE⟩, fun _ => hE⟩, fun _ => hE⟩, fun _ => hE⟩
  rcases h with h | h | h | h
  · rw [h] at z1; cases z1
  · rw [h] at z2; cases z2
  · rw [h] at z3; cases z3
  · rw [h] at z4; cases z4
