set_option maxRecDepth 20000 in
theorem ggX2_turned_X2_bit : GoodIn wsX2_turned wsX2_bit := goodIn_r _ [4, 5] (by decide +kernel) (by decide +kernel)
set_option maxRecDepth 20000 in
theorem gX2_turned_X2_bit : GoodIn wsX2_turned (va_wsS RX2 10 yX2_bit wsX2_bit) := goodIn_app (goodIn_of _ (by decide +kernel)) ggX2_turned_X2_bit
theorem dX2_turned_0 : decode cX2_turned 0 = .ok (.iconst 0, 1) := by decide +kernel
theorem dX2_turned_1 : decode cX2_turned 1 = .ok (.istore_n 1, 1) := by decide +kernel
theorem dX2_turned_2 : decode cX2_turned 2 = .ok (.iconst 0, 1) := by decide +kernel
theorem dX2_turned_3 : decode cX2_turned 3 = .ok (.istore_n 2, 1) := by decide +kernel
theorem dX2_turned_4 : decode cX2_turned 4 = .ok (.iload_n 2, 1) := by decide +kernel
theorem dX2_turned_5 : decode cX2_turned 5 = .ok (.iconst 4, 1) := by decide +kernel
theorem dX2_turned_6 : decode cX2_turned 6 = .ok (.if_icmp .ge 42, 3) := by decide +kernel
theorem dX2_turned_9 : decode cX2_turned 9 = .ok (.iconst 0, 1) := by decide +kernel
theorem dX2_turned_10 : decode cX2_turned 10 = .ok (.istore_n 3, 1) := by decide +kernel
theorem dX2_turned_11 : decode cX2_turned 11 = .ok (.iload_n 3, 1) := by decide +kernel
theorem dX2_turned_12 : decode cX2_turned 12 = .ok (.iconst 4, 1) := by decide +kernel
theorem dX2_turned_13 : decode cX2_turned 13 = .ok (.if_icmp .ge 29, 3) := by decide +kernel
theorem dX2_turned_16 : decode cX2_turned 16 = .ok (.iload_n 0, 1) := by decide +kernel
theorem dX2_turned_17 : decode cX2_turned 17 = .ok (.iload_n 2, 1) := by decide +kernel
theorem dX2_turned_18 : decode cX2_turned 18 = .ok (.iload_n 3, 1) := by decide +kernel
theorem dX2_turned_19 : decode cX2_turned 19 = .ok (.invokestatic 10, 3) := by decide +kernel
theorem dX2_turned_22 : decode cX2_turned 22 = .ok (.iand, 1) := by decide +kernel
theorem dX2_turned_23 : decode cX2_turned 23 = .ok (.ifCond .eq 13, 3) := by decide +kernel
theorem dX2_turned_26 : decode cX2_turned 26 = .ok (.iload_n 1, 1) := by decide +kernel
theorem dX2_turned_27 : decode cX2_turned 27 = .ok (.iload_n 3, 1) := by decide +kernel
theorem dX2_turned_28 : decode cX2_turned 28 = .ok (.iconst 3, 1) := by decide +kernel
theorem dX2_turned_29 : decode cX2_turned 29 = .ok (.iload_n 2, 1) := by decide +kernel
theorem dX2_turned_30 : decode cX2_turned 30 = .ok (.isub, 1) := by decide +kernel
theorem dX2_turned_31 : decode cX2_turned 31 = .ok (.invokestatic 10, 3) := by decide +kernel
theorem dX2_turned_34 : decode cX2_turned 34 = .ok (.ior, 1) := by decide +kernel
theorem dX2_turned_35 : decode cX2_turned 35 = .ok (.istore_n 1, 1) := by decide +kernel
theorem dX2_turned_36 : decode cX2_turned 36 = .ok (.iinc 3 1, 3) := by decide +kernel
theorem dX2_turned_39 : decode cX2_turned 39 = .ok (.goto (-28), 3) := by decide +kernel
theorem dX2_turned_42 : decode cX2_turned 42 = .ok (.iinc 2 1, 3) := by decide +kernel
theorem dX2_turned_45 : decode cX2_turned 45 = .ok (.goto (-41), 3) := by decide +kernel
theorem dX2_turned_48 : decode cX2_turned 48 = .ok (.iload_n 1, 1) := by decide +kernel
theorem dX2_turned_49 : decode cX2_turned 49 = .ok (.ireturn, 1) := by decide +kernel
set_option maxRecDepth 100000 in
theorem r_X2_turned_0 {X : Bn} (C : Cx X cX2_turned 4 RX2 wsX2_turned 1 21) {ws : va_W} (x0 : Int32) (h : At X 4 (ws) 4 [(0, .int x0), (1, .int 0), (2, .int 0)] []) : At X 4 (ws) 0 [(0, .int x0)] [] := by
  refine at_iconst C dX2_turned_0 (v := 0) rfl ?_
  refine at_istore_n C dX2_turned_1 rfl (by decide) (lv' := [(1, .int 0), (0, .int x0)]) rfl ?_
  refine at_iconst C dX2_turned_2 (v := 0) rfl ?_
  refine at_istore_n C dX2_turned_3 rfl (by decide) (lv' := [(2, .int 0), (1, .int 0), (0, .int x0)]) rfl ?_
  refine at_lv [2, 1, 0] rfl ?_
  exact h
set_option maxRecDepth 100000 in
theorem r_X2_turned_4 {X : Bn} (C : Cx X cX2_turned 4 RX2 wsX2_turned 1 21) {ws : va_W} (x0 : Int32) (x1 : Int32) (x2 : Int32) (h : ((4 ≤ x2) → (Ends X (some .int) (some (.int x1)) (ws))) ∧ (¬ 4 ≤ x2 → (At X 4 (ws) 11 [(0, .int x0), (1, .int x1), (2, .int x2), (3, .int 0)] []))) : At X 4 (ws) 4 [(0, .int x0), (1, .int x1), (2, .int x2)] [] := by
  refine at_iload_n C dX2_turned_4 rfl (j := 2) rfl ?_
  refine at_iconst C dX2_turned_5 (v := 4) rfl ?_
  refine at_icmp_ge C dX2_turned_6 (tgt := 48) (by decide) (fun hc0 => ?_) (fun hc0 => ?_)
  · replace h := h.1 hc0
    refine at_iload_n C dX2_turned_48 rfl (j := 1) rfl ?_
    exact at_iret C dX2_turned_49 h
  · replace h := h.2 hc0
    refine at_iconst C dX2_turned_9 (v := 0) rfl ?_
    refine at_istore_n C dX2_turned_10 rfl (by decide) (lv' := [(3, .int 0), (0, .int x0), (1, .int x1), (2, .int x2)]) rfl ?_
    refine at_lv [1, 2, 3, 0] rfl ?_
    exact h
set_option maxRecDepth 100000 in
theorem r_X2_turned_11 {X : Bn} (C : Cx X cX2_turned 4 RX2 wsX2_turned 1 21) {ws : va_W} (x0 : Int32) (x1 : Int32) (x2 : Int32) (x3 : Int32) (h : ((4 ≤ x3) → (At X 4 (ws) 4 [(0, .int x0), (1, .int x1), (2, .int (x2 + 1))] [])) ∧ (¬ 4 ≤ x3 → (At X 4 (ws) 11 [(0, .int x0), (1, .int (if x0 &&& (f_X2_bit x2 x3) = 0 then x1 else x1 ||| (f_X2_bit x3 (3 - x2)))), (2, .int x2), (3, .int (x3 + 1))] []))) : At X 4 (ws) 11 [(0, .int x0), (1, .int x1), (2, .int x2), (3, .int x3)] [] := by
  refine at_iload_n C dX2_turned_11 rfl (j := 3) rfl ?_
  refine at_iconst C dX2_turned_12 (v := 4) rfl ?_
  refine at_icmp_ge C dX2_turned_13 (tgt := 42) (by decide) (fun hc1 => ?_) (fun hc1 => ?_)
  · replace h := h.1 hc1
    refine at_iinc C dX2_turned_42 (j := 2) (v := x2 + 1) rfl rfl (by decide) (lv' := [(2, .int (x2 + 1)), (0, .int x0), (1, .int x1), (3, .int x3)]) rfl ?_
    refine at_goto C dX2_turned_45 (tgt := 4) (by decide) ?_
    refine at_lv [1, 2, 0] rfl ?_
    exact h
  · replace h := h.2 hc1
    refine at_iload_n C dX2_turned_16 rfl (j := 0) rfl ?_
    refine at_iload_n C dX2_turned_17 rfl (j := 2) rfl ?_
    refine at_iload_n C dX2_turned_18 rfl (j := 3) rfl ?_
    refine at_cS0 C 2 (c_X2_bit X.l X.D X.E X.a1 X.a2 x2 x3) gX2_turned_X2_bit rfl (by decide +kernel) ⟨rfl, rfl⟩ rfl rfl rfl dX2_turned_19 ?_
    refine at_iand C dX2_turned_22 ?_
    have K : At X 4 (ws) 36 [(0, .int x0), (1, .int (if x0 &&& (f_X2_bit x2 x3) = 0 then x1 else x1 ||| (f_X2_bit x3 (3 - x2)))), (2, .int x2), (3, .int x3)] [] := by
      refine at_iinc C dX2_turned_36 (j := 3) (v := x3 + 1) rfl rfl (by decide) (lv' := [(3, .int (x3 + 1)), (0, .int x0), (1, .int (if x0 &&& (f_X2_bit x2 x3) = 0 then x1 else x1 ||| (f_X2_bit x3 (3 - x2)))), (2, .int x2)]) rfl ?_
      refine at_goto C dX2_turned_39 (tgt := 11) (by decide) ?_
      refine at_lv [1, 2, 3, 0] rfl ?_
      exact h
    refine at_if_eq C dX2_turned_23 (tgt := 36) (by decide) (fun hc2 => ?_) (fun hc2 => ?_)
    · skip
      first | (simp only [if_pos hc2] at K; exact K) | exact K
    · skip
      refine at_iload_n C dX2_turned_26 rfl (j := 1) rfl ?_
      refine at_iload_n C dX2_turned_27 rfl (j := 3) rfl ?_
      refine at_iconst C dX2_turned_28 (v := 3) rfl ?_
      refine at_iload_n C dX2_turned_29 rfl (j := 2) rfl ?_
      refine at_isub C dX2_turned_30 ?_
      refine at_cS0 C 2 (c_X2_bit X.l X.D X.E X.a1 X.a2 x3 (3 - x2)) gX2_turned_X2_bit rfl (by decide +kernel) ⟨rfl, rfl⟩ rfl rfl rfl dX2_turned_31 ?_
      refine at_ior C dX2_turned_34 ?_
      refine at_istore_n C dX2_turned_35 rfl (by decide) (lv' := [(1, .int (x1 ||| (f_X2_bit x3 (3 - x2)))), (0, .int x0), (2, .int x2), (3, .int x3)]) rfl ?_
      refine at_lv [1, 0, 2, 3] rfl ?_
      first | (simp only [if_neg hc2] at K; exact K) | exact K
def tcStep (x : Int32) (r c : Nat) (a : Int32) : Int32 := if x &&& (f_X2_bit (nI r) (nI c)) = 0 then a else a ||| (f_X2_bit (nI c) (3 - nI r))
def f_X2_turned (x : Int32) : Int32 := itF (fun r a => itF (fun c a => tcStep x r c a) 0 4 a) 0 4 0
set_option maxRecDepth 100000 in
theorem c_X2_turned (l : Launch) (D : va_G) (E : Nat → ClassId) (a1 a2 : Nat)  (x0 : Int32) : Fn l D E a1 a2 yX2_turned wsX2_turned 1 21 [.int x0] [] (some (.int (f_X2_turned x0))) [] := by
  refine Fn.of (cc := cX2_turned) (maxL := 4) (ret := (some .int)) (own := RX2) (by decide) rfl rfl rfl (Nat.le_of_ble_eq_true rfl) (fun X h1 h2 h3 h4 h5 C hE => ?_)
  subst h1 h2 h3 h4 h5
  refine r_X2_turned_0 C x0 ?_
  refine for_go (P := fun r a => At X 4 [] 4 [(0, .int x0), (1, .int a), (2, .int (nI r))] []) (N := 4) (fun r a => itF (fun c a => tcStep x0 r c a) 0 4 a) (fun r a hr h => ?_) 4 0 0 rfl ?_
  · refine r_X2_turned_4 C x0 a (nI r) ⟨fun hc => nlt_no (by decide) hr hc, fun _ => ?_⟩
    refine for_go (P := fun c a => At X 4 [] 11 [(0, .int x0), (1, .int a), (2, .int (nI r)), (3, .int (nI c))] []) (N := 4) (fun c a => tcStep x0 r c a) (fun c a hc h => ?_) 4 0 a rfl ?_
    · exact r_X2_turned_11 C x0 a (nI r) (nI c) ⟨fun q => nlt_no (by decide) hc q, fun _ => by rw [nI_1]; exact h⟩
    · exact r_X2_turned_11 C x0 _ (nI r) (nI 4) ⟨fun _ => by rw [nI_1]; exact h, fun q => nle_no q⟩
  · exact r_X2_turned_4 C x0 _ (nI 4) ⟨fun _ => hE, fun q => nle_no q⟩
set_option maxRecDepth 20000 in
theorem ggX2_mirrored_X2_bit : GoodIn wsX2_mirrored wsX2_bit := goodIn_r _ [4, 5] (by decide +kernel) (by decide +kernel)
set_option maxRecDepth 20000 in
theorem gX2_mirrored_X2_bit : GoodIn wsX2_mirrored (va_wsS RX2 10 yX2_bit wsX2_bit) := goodIn_app (goodIn_of _ (by decide +kernel)) ggX2_mirrored_X2_bit
theorem dX2_mirrored_0 : decode cX2_mirrored 0 = .ok (.iconst 0, 1) := by decide +kernel
theorem dX2_mirrored_1 : decode cX2_mirrored 1 = .ok (.istore_n 1, 1) := by decide +kernel
theorem dX2_mirrored_2 : decode cX2_mirrored 2 = .ok (.iconst 0, 1) := by decide +kernel
theorem dX2_mirrored_3 : decode cX2_mirrored 3 = .ok (.istore_n 2, 1) := by decide +kernel
theorem dX2_mirrored_4 : decode cX2_mirrored 4 = .ok (.iload_n 2, 1) := by decide +kernel
theorem dX2_mirrored_5 : decode cX2_mirrored 5 = .ok (.iconst 4, 1) := by decide +kernel
theorem dX2_mirrored_6 : decode cX2_mirrored 6 = .ok (.if_icmp .ge 42, 3) := by decide +kernel
theorem dX2_mirrored_9 : decode cX2_mirrored 9 = .ok (.iconst 0, 1) := by decide +kernel
theorem dX2_mirrored_10 : decode cX2_mirrored 10 = .ok (.istore_n 3, 1) := by decide +kernel
theorem dX2_mirrored_11 : decode cX2_mirrored 11 = .ok (.iload_n 3, 1) := by decide +kernel
theorem dX2_mirrored_12 : decode cX2_mirrored 12 = .ok (.iconst 4, 1) := by decide +kernel
theorem dX2_mirrored_13 : decode cX2_mirrored 13 = .ok (.if_icmp .ge 29, 3) := by decide +kernel
theorem dX2_mirrored_16 : decode cX2_mirrored 16 = .ok (.iload_n 0, 1) := by decide +kernel
theorem dX2_mirrored_17 : decode cX2_mirrored 17 = .ok (.iload_n 2, 1) := by decide +kernel
theorem dX2_mirrored_18 : decode cX2_mirrored 18 = .ok (.iload_n 3, 1) := by decide +kernel
theorem dX2_mirrored_19 : decode cX2_mirrored 19 = .ok (.invokestatic 10, 3) := by decide +kernel
theorem dX2_mirrored_22 : decode cX2_mirrored 22 = .ok (.iand, 1) := by decide +kernel
theorem dX2_mirrored_23 : decode cX2_mirrored 23 = .ok (.ifCond .eq 13, 3) := by decide +kernel
theorem dX2_mirrored_26 : decode cX2_mirrored 26 = .ok (.iload_n 1, 1) := by decide +kernel
theorem dX2_mirrored_27 : decode cX2_mirrored 27 = .ok (.iload_n 2, 1) := by decide +kernel
theorem dX2_mirrored_28 : decode cX2_mirrored 28 = .ok (.iconst 3, 1) := by decide +kernel
theorem dX2_mirrored_29 : decode cX2_mirrored 29 = .ok (.iload_n 3, 1) := by decide +kernel
theorem dX2_mirrored_30 : decode cX2_mirrored 30 = .ok (.isub, 1) := by decide +kernel
theorem dX2_mirrored_31 : decode cX2_mirrored 31 = .ok (.invokestatic 10, 3) := by decide +kernel
theorem dX2_mirrored_34 : decode cX2_mirrored 34 = .ok (.ior, 1) := by decide +kernel
theorem dX2_mirrored_35 : decode cX2_mirrored 35 = .ok (.istore_n 1, 1) := by decide +kernel
theorem dX2_mirrored_36 : decode cX2_mirrored 36 = .ok (.iinc 3 1, 3) := by decide +kernel
theorem dX2_mirrored_39 : decode cX2_mirrored 39 = .ok (.goto (-28), 3) := by decide +kernel
theorem dX2_mirrored_42 : decode cX2_mirrored 42 = .ok (.iinc 2 1, 3) := by decide +kernel
theorem dX2_mirrored_45 : decode cX2_mirrored 45 = .ok (.goto (-41), 3) := by decide +kernel
theorem dX2_mirrored_48 : decode cX2_mirrored 48 = .ok (.iload_n 1, 1) := by decide +kernel
theorem dX2_mirrored_49 : decode cX2_mirrored 49 = .ok (.ireturn, 1) := by decide +kernel
set_option maxRecDepth 100000 in
theorem r_X2_mirrored_0 {X : Bn} (C : Cx X cX2_mirrored 4 RX2 wsX2_mirrored 1 21) {ws : va_W} (x0 : Int32) (h : At X 4 (ws) 4 [(0, .int x0), (1, .int 0), (2, .int 0)] []) : At X 4 (ws) 0 [(0, .int x0)] [] := by
  refine at_iconst C dX2_mirrored_0 (v := 0) rfl ?_
  refine at_istore_n C dX2_mirrored_1 rfl (by decide) (lv' := [(1, .int 0), (0, .int x0)]) rfl ?_
  refine at_iconst C dX2_mirrored_2 (v := 0) rfl ?_
  refine at_istore_n C dX2_mirrored_3 rfl (by decide) (lv' := [(2, .int 0), (1, .int 0), (0, .int x0)]) rfl ?_
  refine at_lv [2, 1, 0] rfl ?_
  exact h
set_option maxRecDepth 100000 in
theorem r_X2_mirrored_4 {X : Bn} (C : Cx X cX2_mirrored 4 RX2 wsX2_mirrored 1 21) {ws : va_W} (x0 : Int32) (x1 : Int32) (x2 : Int32) (h : ((4 ≤ x2) → (Ends X (some .int) (some (.int x1)) (ws))) ∧ (¬ 4 ≤ x2 → (At X 4 (ws) 11 [(0, .int x0), (1, .int x1), (2, .int x2), (3, .int 0)] []))) : At X 4 (ws) 4 [(0, .int x0), (1, .int x1), (2, .int x2)] [] := by
  refine at_iload_n C dX2_mirrored_4 rfl (j := 2) rfl ?_
  refine at_iconst C dX2_mirrored_5 (v := 4) rfl ?_
  refine at_icmp_ge C dX2_mirrored_6 (tgt := 48) (by decide) (fun hc0 => ?_) (fun hc0 => ?_)
  · replace h := h.1 hc0
    refine at_iload_n C dX2_mirrored_48 rfl (j := 1) rfl ?_
    exact at_iret C dX2_mirrored_49 h
  · replace h := h.2 hc0
    refine at_iconst C dX2_mirrored_9 (v := 0) rfl ?_
    refine at_istore_n C dX2_mirrored_10 rfl (by decide) (lv' := [(3, .int 0), (0, .int x0), (1, .int x1), (2, .int x2)]) rfl ?_
    refine at_lv [1, 2, 3, 0] rfl ?_
    exact h
set_option maxRecDepth 100000 in
theorem r_X2_mirrored_11 {X : Bn} (C : Cx X cX2_mirrored 4 RX2 wsX2_mirrored 1 21) {ws : va_W} (x0 : Int32) (x1 : Int32) (x2 : Int32) (x3 : Int32) (h : ((4 ≤ x3) → (At X 4 (ws) 4 [(0, .int x0), (1, .int x1), (2, .int (x2 + 1))] [])) ∧ (¬ 4 ≤ x3 → (At X 4 (ws) 11 [(0, .int x0), (1, .int (if x0 &&& (f_X2_bit x2 x3) = 0 then x1 else x1 ||| (f_X2_bit x2 (3 - x3)))), (2, .int x2), (3, .int (x3 + 1))] []))) : At X 4 (ws) 11 [(0, .int x0), (1, .int x1), (2, .int x2), (3, .int x3)] [] := by
  refine at_iload_n C dX2_mirrored_11 rfl (j := 3) rfl ?_
  refine at_iconst C dX2_mirrored_12 (v := 4) rfl ?_
  refine at_icmp_ge C dX2_mirrored_13 (tgt := 42) (by decide) (fun hc1 => ?_) (fun hc1 => ?_)
  · replace h := h.1 hc1
    refine at_iinc C dX2_mirrored_42 (j := 2) (v := x2 + 1) rfl rfl (by decide) (lv' := [(2, .int (x2 + 1)), (0, .int x0), (1, .int x1), (3, .int x3)]) rfl ?_
    refine at_goto C dX2_mirrored_45 (tgt := 4) (by decide) ?_
    refine at_lv [1, 2, 0] rfl ?_
    exact h
  · replace h := h.2 hc1
    refine at_iload_n C dX2_mirrored_16 rfl (j := 0) rfl ?_
    refine at_iload_n C dX2_mirrored_17 rfl (j := 2) rfl ?_
    refine at_iload_n C dX2_mirrored_18 rfl (j := 3) rfl ?_
    refine at_cS0 C 2 (c_X2_bit X.l X.D X.E X.a1 X.a2 x2 x3) gX2_mirrored_X2_bit rfl (by decide +kernel) ⟨rfl, rfl⟩ rfl rfl rfl dX2_mirrored_19 ?_
    refine at_iand C dX2_mirrored_22 ?_
    have K : At X 4 (ws) 36 [(0, .int x0), (1, .int (if x0 &&& (f_X2_bit x2 x3) = 0 then x1 else x1 ||| (f_X2_bit x2 (3 - x3)))), (2, .int x2), (3, .int x3)] [] := by
      refine at_iinc C dX2_mirrored_36 (j := 3) (v := x3 + 1) rfl rfl (by decide) (lv' := [(3, .int (x3 + 1)), (0, .int x0), (1, .int (if x0 &&& (f_X2_bit x2 x3) = 0 then x1 else x1 ||| (f_X2_bit x2 (3 - x3)))), (2, .int x2)]) rfl ?_
      refine at_goto C dX2_mirrored_39 (tgt := 11) (by decide) ?_
      refine at_lv [1, 2, 3, 0] rfl ?_
      exact h
    refine at_if_eq C dX2_mirrored_23 (tgt := 36) (by decide) (fun hc2 => ?_) (fun hc2 => ?_)
    · skip
      first | (simp only [if_pos hc2] at K; exact K) | exact K
    · skip
      refine at_iload_n C dX2_mirrored_26 rfl (j := 1) rfl ?_
      refine at_iload_n C dX2_mirrored_27 rfl (j := 2) rfl ?_
      refine at_iconst C dX2_mirrored_28 (v := 3) rfl ?_
      refine at_iload_n C dX2_mirrored_29 rfl (j := 3) rfl ?_
      refine at_isub C dX2_mirrored_30 ?_
      refine at_cS0 C 2 (c_X2_bit X.l X.D X.E X.a1 X.a2 x2 (3 - x3)) gX2_mirrored_X2_bit rfl (by decide +kernel) ⟨rfl, rfl⟩ rfl rfl rfl dX2_mirrored_31 ?_
      refine at_ior C dX2_mirrored_34 ?_
      refine at_istore_n C dX2_mirrored_35 rfl (by decide) (lv' := [(1, .int (x1 ||| (f_X2_bit x2 (3 - x3)))), (0, .int x0), (2, .int x2), (3, .int x3)]) rfl ?_
      refine at_lv [1, 0, 2, 3] rfl ?_
      first | (simp only [if_neg hc2] at K; exact K) | exact K
def mcStep (x : Int32) (r c : Nat) (a : Int32) : Int32 := if x &&& (f_X2_bit (nI r) (nI c)) = 0 then a else a ||| (f_X2_bit (nI r) (3 - nI c))
def f_X2_mirrored (x : Int32) : Int32 := itF (fun r a => itF (fun c a => mcStep x r c a) 0 4 a) 0 4 0
set_option maxRecDepth 100000 in
theorem c_X2_mirrored (l : Launch) (D : va_G) (E : Nat → ClassId) (a1 a2 : Nat)  (x0 : Int32) : Fn l D E a1 a2 yX2_mirrored wsX2_mirrored 1 21 [.int x0] [] (some (.int (f_X2_mirrored x0))) [] := by
  refine Fn.of (cc := cX2_mirrored) (maxL := 4) (ret := (some .int)) (own := RX2) (by decide) rfl rfl rfl (Nat.le_of_ble_eq_true rfl) (fun X h1 h2 h3 h4 h5 C hE => ?_)
  subst h1 h2 h3 h4 h5
  refine r_X2_mirrored_0 C x0 ?_
  refine for_go (P := fun r a => At X 4 [] 4 [(0, .int x0), (1, .int a), (2, .int (nI r))] []) (N := 4) (fun r a => itF (fun c a => mcStep x0 r c a) 0 4 a) (fun r a hr h => ?_) 4 0 0 rfl ?_
  · refine r_X2_mirrored_4 C x0 a (nI r) ⟨fun hc => nlt_no (by decide) hr hc, fun _ => ?_⟩
    refine for_go (P := fun c a => At X 4 [] 11 [(0, .int x0), (1, .int a), (2, .int (nI r)), (3, .int (nI c))] []) (N := 4) (fun c a => mcStep x0 r c a) (fun c a hc h => ?_) 4 0 a rfl ?_
    · exact r_X2_mirrored_11 C x0 a (nI r) (nI c) ⟨fun q => nlt_no (by decide) hc q, fun _ => by rw [nI_1]; exact h⟩
    · exact r_X2_mirrored_11 C x0 _ (nI r) (nI 4) ⟨fun _ => by rw [nI_1]; exact h, fun q => nle_no q⟩
  · exact r_X2_mirrored_4 C x0 _ (nI 4) ⟨fun _ => hE, fun q => nle_no q⟩
theorem dX2_movedUp_0 : decode cX2_movedUp 0 = .ok (.iload_n 0, 1) := by decide +kernel
theorem dX2_movedUp_1 : decode cX2_movedUp 1 = .ok (.istore_n 1, 1) := by decide +kernel
theorem dX2_movedUp_2 : decode cX2_movedUp 2 = .ok (.iconst 0, 1) := by decide +kernel
theorem dX2_movedUp_3 : decode cX2_movedUp 3 = .ok (.istore_n 2, 1) := by decide +kernel
theorem dX2_movedUp_4 : decode cX2_movedUp 4 = .ok (.iload_n 2, 1) := by decide +kernel
theorem dX2_movedUp_5 : decode cX2_movedUp 5 = .ok (.iconst 3, 1) := by decide +kernel
theorem dX2_movedUp_6 : decode cX2_movedUp 6 = .ok (.if_icmp .ge 20, 3) := by decide +kernel
theorem dX2_movedUp_9 : decode cX2_movedUp 9 = .ok (.iload_n 1, 1) := by decide +kernel
theorem dX2_movedUp_10 : decode cX2_movedUp 10 = .ok (.ldc 16, 2) := by decide +kernel
theorem dX2_movedUp_12 : decode cX2_movedUp 12 = .ok (.iand, 1) := by decide +kernel
theorem dX2_movedUp_13 : decode cX2_movedUp 13 = .ok (.ifCond .ne 13, 3) := by decide +kernel
theorem dX2_movedUp_16 : decode cX2_movedUp 16 = .ok (.iload_n 1, 1) := by decide +kernel
theorem dX2_movedUp_17 : decode cX2_movedUp 17 = .ok (.iconst 4, 1) := by decide +kernel
theorem dX2_movedUp_18 : decode cX2_movedUp 18 = .ok (.ishl, 1) := by decide +kernel
theorem dX2_movedUp_19 : decode cX2_movedUp 19 = .ok (.istore_n 1, 1) := by decide +kernel
theorem dX2_movedUp_20 : decode cX2_movedUp 20 = .ok (.iinc 2 1, 3) := by decide +kernel
theorem dX2_movedUp_23 : decode cX2_movedUp 23 = .ok (.goto (-19), 3) := by decide +kernel
theorem dX2_movedUp_26 : decode cX2_movedUp 26 = .ok (.iconst 0, 1) := by decide +kernel
theorem dX2_movedUp_27 : decode cX2_movedUp 27 = .ok (.istore_n 2, 1) := by decide +kernel
theorem dX2_movedUp_28 : decode cX2_movedUp 28 = .ok (.iload_n 2, 1) := by decide +kernel
theorem dX2_movedUp_29 : decode cX2_movedUp 29 = .ok (.iconst 3, 1) := by decide +kernel
theorem dX2_movedUp_30 : decode cX2_movedUp 30 = .ok (.if_icmp .ge 20, 3) := by decide +kernel
theorem dX2_movedUp_33 : decode cX2_movedUp 33 = .ok (.iload_n 1, 1) := by decide +kernel
theorem dX2_movedUp_34 : decode cX2_movedUp 34 = .ok (.ldc 17, 2) := by decide +kernel
theorem dX2_movedUp_36 : decode cX2_movedUp 36 = .ok (.iand, 1) := by decide +kernel
theorem dX2_movedUp_37 : decode cX2_movedUp 37 = .ok (.ifCond .ne 13, 3) := by decide +kernel
theorem dX2_movedUp_40 : decode cX2_movedUp 40 = .ok (.iload_n 1, 1) := by decide +kernel
theorem dX2_movedUp_41 : decode cX2_movedUp 41 = .ok (.iconst 1, 1) := by decide +kernel
theorem dX2_movedUp_42 : decode cX2_movedUp 42 = .ok (.ishl, 1) := by decide +kernel
theorem dX2_movedUp_43 : decode cX2_movedUp 43 = .ok (.istore_n 1, 1) := by decide +kernel
theorem dX2_movedUp_44 : decode cX2_movedUp 44 = .ok (.iinc 2 1, 3) := by decide +kernel
theorem dX2_movedUp_47 : decode cX2_movedUp 47 = .ok (.goto (-19), 3) := by decide +kernel
theorem dX2_movedUp_50 : decode cX2_movedUp 50 = .ok (.iload_n 1, 1) := by decide +kernel
theorem dX2_movedUp_51 : decode cX2_movedUp 51 = .ok (.ireturn, 1) := by decide +kernel
theorem lk_X2_movedUp_0 : Cond.constant RX2 16 61440 ∈ wsX2_movedUp := by decide +kernel
theorem lk_X2_movedUp_1 : Cond.constant RX2 17 34952 ∈ wsX2_movedUp := by decide +kernel
set_option maxRecDepth 100000 in
theorem r_X2_movedUp_0 {X : Bn} (C : Cx X cX2_movedUp 3 RX2 wsX2_movedUp 0 0) {ws : va_W} (x0 : Int32) (h : At X 3 (ws) 4 [(1, .int x0), (2, .int 0)] []) : At X 3 (ws) 0 [(0, .int x0)] [] := by
  refine at_iload_n C dX2_movedUp_0 rfl (j := 0) rfl ?_
  refine at_istore_n C dX2_movedUp_1 rfl (by decide) (lv' := [(1, .int x0), (0, .int x0)]) rfl ?_
  refine at_iconst C dX2_movedUp_2 (v := 0) rfl ?_
  refine at_istore_n C dX2_movedUp_3 rfl (by decide) (lv' := [(2, .int 0), (1, .int x0), (0, .int x0)]) rfl ?_
  refine at_lv [1, 0] rfl ?_
  exact h
set_option maxRecDepth 100000 in
theorem r_X2_movedUp_4 {X : Bn} (C : Cx X cX2_movedUp 3 RX2 wsX2_movedUp 0 0) {ws : va_W} (x1 : Int32) (x2 : Int32) (h : ((3 ≤ x2) → (At X 3 (ws) 28 [(1, .int x1), (2, .int 0)] [])) ∧ (¬ 3 ≤ x2 → (((x1 &&& 61440 = 0) → (At X 3 (ws) 4 [(1, .int (ishl x1 4)), (2, .int (x2 + 1))] [])) ∧ (¬ x1 &&& 61440 = 0 → (At X 3 (ws) 28 [(1, .int x1), (2, .int 0)] []))))) : At X 3 (ws) 4 [(1, .int x1), (2, .int x2)] [] := by
  refine at_iload_n C dX2_movedUp_4 rfl (j := 1) rfl ?_
  refine at_iconst C dX2_movedUp_5 (v := 3) rfl ?_
  refine at_icmp_ge C dX2_movedUp_6 (tgt := 26) (by decide) (fun hc0 => ?_) (fun hc0 => ?_)
  · replace h := h.1 hc0
    refine at_iconst C dX2_movedUp_26 (v := 0) rfl ?_
    refine at_istore_n C dX2_movedUp_27 rfl (by decide) (lv' := [(2, .int 0), (1, .int x1)]) rfl ?_
    refine at_lv [1, 0] rfl ?_
    exact h
  · replace h := h.2 hc0
    refine at_iload_n C dX2_movedUp_9 rfl (j := 0) rfl ?_
    refine at_ldc C lk_X2_movedUp_0 dX2_movedUp_10 ?_
    refine at_iand C dX2_movedUp_12 ?_
    refine at_if_ne C dX2_movedUp_13 (tgt := 26) (by decide) (fun hc1 => ?_) (fun hc1 => ?_)
    · replace h := h.2 hc1
      refine at_iconst C dX2_movedUp_26 (v := 0) rfl ?_
      refine at_istore_n C dX2_movedUp_27 rfl (by decide) (lv' := [(2, .int 0), (1, .int x1)]) rfl ?_
      refine at_lv [1, 0] rfl ?_
      exact h
    · replace h := h.1 hc1
      refine at_iload_n C dX2_movedUp_16 rfl (j := 0) rfl ?_
      refine at_iconst C dX2_movedUp_17 (v := 4) rfl ?_
      refine at_ishl C dX2_movedUp_18 ?_
      refine at_istore_n C dX2_movedUp_19 rfl (by decide) (lv' := [(1, .int (ishl x1 4)), (2, .int x2)]) rfl ?_
      refine at_iinc C dX2_movedUp_20 (j := 1) (v := x2 + 1) rfl rfl (by decide) (lv' := [(2, .int (x2 + 1)), (1, .int (ishl x1 4))]) rfl ?_
      refine at_goto C dX2_movedUp_23 (tgt := 4) (by decide) ?_
      refine at_lv [1, 0] rfl ?_
      exact h
set_option maxRecDepth 100000 in
theorem r_X2_movedUp_28 {X : Bn} (C : Cx X cX2_movedUp 3 RX2 wsX2_movedUp 0 0) {ws : va_W} (x1 : Int32) (x2 : Int32) (h : ((3 ≤ x2) → (Ends X (some .int) (some (.int x1)) (ws))) ∧ (¬ 3 ≤ x2 → (((x1 &&& 34952 = 0) → (At X 3 (ws) 28 [(1, .int (ishl x1 1)), (2, .int (x2 + 1))] [])) ∧ (¬ x1 &&& 34952 = 0 → (Ends X (some .int) (some (.int x1)) (ws)))))) : At X 3 (ws) 28 [(1, .int x1), (2, .int x2)] [] := by
  refine at_iload_n C dX2_movedUp_28 rfl (j := 1) rfl ?_
  refine at_iconst C dX2_movedUp_29 (v := 3) rfl ?_
  refine at_icmp_ge C dX2_movedUp_30 (tgt := 50) (by decide) (fun hc2 => ?_) (fun hc2 => ?_)
  · replace h := h.1 hc2
    refine at_iload_n C dX2_movedUp_50 rfl (j := 0) rfl ?_
    exact at_iret C dX2_movedUp_51 h
  · replace h := h.2 hc2
    refine at_iload_n C dX2_movedUp_33 rfl (j := 0) rfl ?_
    refine at_ldc C lk_X2_movedUp_1 dX2_movedUp_34 ?_
    refine at_iand C dX2_movedUp_36 ?_
    refine at_if_ne C dX2_movedUp_37 (tgt := 50) (by decide) (fun hc3 => ?_) (fun hc3 => ?_)
    · replace h := h.2 hc3
      refine at_iload_n C dX2_movedUp_50 rfl (j := 0) rfl ?_
      exact at_iret C dX2_movedUp_51 h
    · replace h := h.1 hc3
      refine at_iload_n C dX2_movedUp_40 rfl (j := 0) rfl ?_
      refine at_iconst C dX2_movedUp_41 (v := 1) rfl ?_
      refine at_ishl C dX2_movedUp_42 ?_
      refine at_istore_n C dX2_movedUp_43 rfl (by decide) (lv' := [(1, .int (ishl x1 1)), (2, .int x2)]) rfl ?_
      refine at_iinc C dX2_movedUp_44 (j := 1) (v := x2 + 1) rfl rfl (by decide) (lv' := [(2, .int (x2 + 1)), (1, .int (ishl x1 1))]) rfl ?_
      refine at_goto C dX2_movedUp_47 (tgt := 28) (by decide) ?_
      refine at_lv [1, 0] rfl ?_
      exact h
def f_X2_movedUp (x : Int32) : Int32 := f_X8_movedUp x
set_option maxRecDepth 100000 in
theorem c_X2_movedUp (l : Launch) (D : va_G) (E : Nat → ClassId) (a1 a2 : Nat)  (x0 : Int32) : Fn l D E a1 a2 yX2_movedUp wsX2_movedUp 0 0 [.int x0] [] (some (.int (f_X2_movedUp x0))) [] := by
  refine Fn.of (cc := cX2_movedUp) (maxL := 3) (ret := (some .int)) (own := RX2) (by decide) rfl rfl rfl (Nat.le_of_ble_eq_true rfl) (fun X h1 h2 h3 h4 h5 C hE => ?_)
  subst h1 h2 h3 h4 h5
  refine r_X2_movedUp_0 C x0 ?_
  have b : ∀ (k i : Nat) (x : Int32), i + k = 3 → muB k x = f_X8_movedUp x0 → At X 3 [] 28 [(1, .int x), (2, .int (nI i))] [] := by
    intro k
    induction k with
    | zero =>
      intro i x hi e
      have : i = 3 := by omega
      subst this
      rw [show x = f_X8_movedUp x0 from e]
      exact r_X2_movedUp_28 C _ (nI 3) ⟨fun _ => hE, fun q => nle_no q⟩
    | succ k ih =>
      intro i x hi e
      refine r_X2_movedUp_28 C x (nI i) ⟨fun q => nlt_no (by decide) (show i < 3 by omega) q, fun _ => ⟨fun z => ?_, fun z => ?_⟩⟩
      · rw [nI_1]
        exact ih (i + 1) _ (by omega) (by rw [← e]; exact (if_pos z).symm)
      · rw [show x = f_X8_movedUp x0 from by rw [← e]; exact (if_neg z).symm]
        exact hE
  have a : ∀ (k i : Nat) (x : Int32), i + k = 3 → muB 3 (muA k x) = f_X8_movedUp x0 → At X 3 [] 4 [(1, .int x), (2, .int (nI i))] [] := by
    intro k
    induction k with
    | zero =>
      intro i x hi e
      have : i = 3 := by omega
      subst this
      exact r_X2_movedUp_4 C _ (nI 3) ⟨fun _ => b 3 0 x rfl e, fun q => nle_no q⟩
    | succ k ih =>
      intro i x hi e
      refine r_X2_movedUp_4 C x (nI i) ⟨fun q => nlt_no (by decide) (show i < 3 by omega) q, fun _ => ⟨fun z => ?_, fun z => ?_⟩⟩
      · rw [nI_1]
        exact ih (i + 1) _ (by omega) (by rw [← e]; exact congrArg (muB 3) (if_pos z).symm)
      · exact b 3 0 x rfl (by rw [← e]; exact congrArg (muB 3) (if_neg z).symm)
  exact a 3 0 x0 rfl rfl
set_option maxRecDepth 20000 in
theorem ggX2_areOne_X2_movedUp : GoodIn wsX2_areOne wsX2_movedUp := goodIn_r _ [4, 5, 6] (by decide +kernel) (by decide +kernel)
set_option maxRecDepth 20000 in
theorem gX2_areOne_X2_movedUp : GoodIn wsX2_areOne (va_wsS RX2 18 yX2_movedUp wsX2_movedUp) := goodIn_app (goodIn_of _ (by decide +kernel)) ggX2_areOne_X2_movedUp
set_option maxRecDepth 20000 in
theorem ggX2_areOne_X2_turned : GoodIn wsX2_areOne wsX2_turned := goodIn_r _ [9, 10, 11, 3, 12, 13] (by decide +kernel) (by decide +kernel)
set_option maxRecDepth 20000 in
theorem gX2_areOne_X2_turned : GoodIn wsX2_areOne (va_wsS RX2 22 yX2_turned wsX2_turned) := goodIn_app (goodIn_of _ (by decide +kernel)) ggX2_areOne_X2_turned
theorem dX2_areOne_0 : decode cX2_areOne 0 = .ok (.iload_n 0, 1) := by decide +kernel
theorem dX2_areOne_1 : decode cX2_areOne 1 = .ok (.invokestatic 18, 3) := by decide +kernel
theorem dX2_areOne_4 : decode cX2_areOne 4 = .ok (.istore_n 2, 1) := by decide +kernel
theorem dX2_areOne_5 : decode cX2_areOne 5 = .ok (.iload_n 1, 1) := by decide +kernel
theorem dX2_areOne_6 : decode cX2_areOne 6 = .ok (.istore_n 3, 1) := by decide +kernel
theorem dX2_areOne_7 : decode cX2_areOne 7 = .ok (.iconst 0, 1) := by decide +kernel
theorem dX2_areOne_8 : decode cX2_areOne 8 = .ok (.istore 4, 2) := by decide +kernel
theorem dX2_areOne_10 : decode cX2_areOne 10 = .ok (.iload 4, 2) := by decide +kernel
theorem dX2_areOne_12 : decode cX2_areOne 12 = .ok (.iconst 4, 1) := by decide +kernel
theorem dX2_areOne_13 : decode cX2_areOne 13 = .ok (.if_icmp .ge 24, 3) := by decide +kernel
theorem dX2_areOne_16 : decode cX2_areOne 16 = .ok (.iload_n 3, 1) := by decide +kernel
theorem dX2_areOne_17 : decode cX2_areOne 17 = .ok (.invokestatic 18, 3) := by decide +kernel
theorem dX2_areOne_20 : decode cX2_areOne 20 = .ok (.iload_n 2, 1) := by decide +kernel
theorem dX2_areOne_21 : decode cX2_areOne 21 = .ok (.if_icmp .ne 5, 3) := by decide +kernel
theorem dX2_areOne_24 : decode cX2_areOne 24 = .ok (.iconst 1, 1) := by decide +kernel
theorem dX2_areOne_25 : decode cX2_areOne 25 = .ok (.ireturn, 1) := by decide +kernel
theorem dX2_areOne_26 : decode cX2_areOne 26 = .ok (.iload_n 3, 1) := by decide +kernel
theorem dX2_areOne_27 : decode cX2_areOne 27 = .ok (.invokestatic 22, 3) := by decide +kernel
theorem dX2_areOne_30 : decode cX2_areOne 30 = .ok (.istore_n 3, 1) := by decide +kernel
theorem dX2_areOne_31 : decode cX2_areOne 31 = .ok (.iinc 4 1, 3) := by decide +kernel
theorem dX2_areOne_34 : decode cX2_areOne 34 = .ok (.goto (-24), 3) := by decide +kernel
theorem dX2_areOne_37 : decode cX2_areOne 37 = .ok (.iconst 0, 1) := by decide +kernel
theorem dX2_areOne_38 : decode cX2_areOne 38 = .ok (.ireturn, 1) := by decide +kernel
set_option maxRecDepth 100000 in
theorem r_X2_areOne_0 {X : Bn} (C : Cx X cX2_areOne 5 RX2 wsX2_areOne 2 44) {ws : va_W} (x0 : Int32) (x1 : Int32) (h : At X 5 (ws) 10 [(2, .int (f_X2_movedUp x0)), (3, .int x1), (4, .int 0)] []) : At X 5 (ws) 0 [(0, .int x0), (1, .int x1)] [] := by
  refine at_iload_n C dX2_areOne_0 rfl (j := 0) rfl ?_
  refine at_cS0 C 1 (c_X2_movedUp X.l X.D X.E X.a1 X.a2 x0) gX2_areOne_X2_movedUp rfl (by decide +kernel) ⟨rfl, rfl⟩ rfl rfl rfl dX2_areOne_1 ?_
  refine at_istore_n C dX2_areOne_4 rfl (by decide) (lv' := [(2, .int (f_X2_movedUp x0)), (0, .int x0), (1, .int x1)]) rfl ?_
  refine at_iload_n C dX2_areOne_5 rfl (j := 2) rfl ?_
  refine at_istore_n C dX2_areOne_6 rfl (by decide) (lv' := [(3, .int x1), (2, .int (f_X2_movedUp x0)), (0, .int x0), (1, .int x1)]) rfl ?_
  refine at_iconst C dX2_areOne_7 (v := 0) rfl ?_
  refine at_istore C dX2_areOne_8 (by decide) (lv' := [(4, .int 0), (3, .int x1), (2, .int (f_X2_movedUp x0)), (0, .int x0), (1, .int x1)]) rfl ?_
  refine at_lv [2, 1, 0] rfl ?_
  exact h
set_option maxRecDepth 100000 in
theorem r_X2_areOne_10 {X : Bn} (C : Cx X cX2_areOne 5 RX2 wsX2_areOne 2 44) {ws : va_W} (x2 : Int32) (x3 : Int32) (x4 : Int32) (h : ((4 ≤ x4) → (Ends X (some .boolean) (some (.int 0)) (ws))) ∧ (¬ 4 ≤ x4 → (((f_X2_movedUp x3 = x2) → (Ends X (some .boolean) (some (.int 1)) (ws))) ∧ (¬ f_X2_movedUp x3 = x2 → (At X 5 (ws) 10 [(2, .int x2), (3, .int (f_X2_turned x3)), (4, .int (x4 + 1))] []))))) : At X 5 (ws) 10 [(2, .int x2), (3, .int x3), (4, .int x4)] [] := by
  refine at_iload C dX2_areOne_10 (j := 2) rfl ?_
  refine at_iconst C dX2_areOne_12 (v := 4) rfl ?_
  refine at_icmp_ge C dX2_areOne_13 (tgt := 37) (by decide) (fun hc0 => ?_) (fun hc0 => ?_)
  · replace h := h.1 hc0
    refine at_iconst C dX2_areOne_37 (v := 0) rfl ?_
    exact at_zret C dX2_areOne_38 rfl h
  · replace h := h.2 hc0
    refine at_iload_n C dX2_areOne_16 rfl (j := 1) rfl ?_
    refine at_cS0 C 1 (c_X2_movedUp X.l X.D X.E X.a1 X.a2 x3) gX2_areOne_X2_movedUp rfl (by decide +kernel) ⟨rfl, rfl⟩ rfl rfl rfl dX2_areOne_17 ?_
    refine at_iload_n C dX2_areOne_20 rfl (j := 0) rfl ?_
    refine at_icmp_ne C dX2_areOne_21 (tgt := 26) (by decide) (fun hc1 => ?_) (fun hc1 => ?_)
    · replace h := h.2 hc1
      refine at_iload_n C dX2_areOne_26 rfl (j := 1) rfl ?_
      refine at_cS0 C 1 (c_X2_turned X.l X.D X.E X.a1 X.a2 x3) gX2_areOne_X2_turned rfl (by decide +kernel) ⟨rfl, rfl⟩ rfl rfl rfl dX2_areOne_27 ?_
      refine at_istore_n C dX2_areOne_30 rfl (by decide) (lv' := [(3, .int (f_X2_turned x3)), (2, .int x2), (4, .int x4)]) rfl ?_
      refine at_iinc C dX2_areOne_31 (j := 2) (v := x4 + 1) rfl rfl (by decide) (lv' := [(4, .int (x4 + 1)), (3, .int (f_X2_turned x3)), (2, .int x2)]) rfl ?_
      refine at_goto C dX2_areOne_34 (tgt := 10) (by decide) ?_
      refine at_lv [2, 1, 0] rfl ?_
      exact h
    · replace h := h.1 hc1
      refine at_iconst C dX2_areOne_24 (v := 1) rfl ?_
      exact at_zret C dX2_areOne_25 rfl h
def arF : Nat → Int32 → Int32 → Bool
  | 0, _, _ => false
  | k + 1, w, o => if f_X2_movedUp o = w then true else arF k w (f_X2_turned o)
def f_X2_areOne (a b : Int32) : Bool := arF 4 (f_X2_movedUp a) b
set_option maxRecDepth 100000 in
theorem c_X2_areOne (l : Launch) (D : va_G) (E : Nat → ClassId) (a1 a2 : Nat)  (x0 x1 : Int32) : Fn l D E a1 a2 yX2_areOne wsX2_areOne 2 44 [.int x0, .int x1] [] (some (.int (b2i (f_X2_areOne x0 x1)))) [] := by
  refine Fn.of (cc := cX2_areOne) (maxL := 5) (ret := (some .boolean)) (own := RX2) (by decide) rfl rfl rfl (Nat.le_of_ble_eq_true rfl) (fun X h1 h2 h3 h4 h5 C hE => ?_)
  subst h1 h2 h3 h4 h5
  refine r_X2_areOne_0 C x0 x1 ?_
  have a : ∀ (k i : Nat) (o : Int32), i + k = 4 → arF k (f_X2_movedUp x0) o = f_X2_areOne x0 x1 → At X 5 [] 10 [(2, .int (f_X2_movedUp x0)), (3, .int o), (4, .int (nI i))] [] := by
    intro k
    induction k with
    | zero =>
      intro i o hi e
      have : i = 4 := by omega
      subst this
      rw [← e] at hE
      exact r_X2_areOne_10 C _ o (nI 4) ⟨fun _ => hE, fun q => nle_no q⟩
    | succ k ih =>
      intro i o hi e
      refine r_X2_areOne_10 C _ o (nI i) ⟨fun q => nlt_no (by decide) (show i < 4 by omega) q, fun _ => ⟨fun z => ?_, fun z => ?_⟩⟩
      · rw [← e, show arF (k + 1) (f_X2_movedUp x0) o = true from if_pos z] at hE
        exact hE
      · rw [nI_1]
        exact ih (i + 1) _ (by omega) (by rw [← e]; exact (if_neg z).symm)
  exact a 4 0 x1 rfl rfl
set_option maxRecDepth 20000 in
theorem ggX2_turnsTillAlike_X2_movedUp : GoodIn wsX2_turnsTillAlike wsX2_movedUp := goodIn_r _ [4, 5, 6] (by decide +kernel) (by decide +kernel)
set_option maxRecDepth 20000 in
theorem gX2_turnsTillAlike_X2_movedUp : GoodIn wsX2_turnsTillAlike (va_wsS RX2 18 yX2_movedUp wsX2_movedUp) := goodIn_app (goodIn_of _ (by decide +kernel)) ggX2_turnsTillAlike_X2_movedUp
set_option maxRecDepth 20000 in
theorem ggX2_turnsTillAlike_X2_turned : GoodIn wsX2_turnsTillAlike wsX2_turned := goodIn_r _ [9, 10, 11, 3, 12, 13] (by decide +kernel) (by decide +kernel)
set_option maxRecDepth 20000 in
theorem gX2_turnsTillAlike_X2_turned : GoodIn wsX2_turnsTillAlike (va_wsS RX2 22 yX2_turned wsX2_turned) := goodIn_app (goodIn_of _ (by decide +kernel)) ggX2_turnsTillAlike_X2_turned
theorem dX2_turnsTillAlike_0 : decode cX2_turnsTillAlike 0 = .ok (.iload_n 0, 1) := by decide +kernel
theorem dX2_turnsTillAlike_1 : decode cX2_turnsTillAlike 1 = .ok (.invokestatic 18, 3) := by decide +kernel
theorem dX2_turnsTillAlike_4 : decode cX2_turnsTillAlike 4 = .ok (.istore_n 1, 1) := by decide +kernel
theorem dX2_turnsTillAlike_5 : decode cX2_turnsTillAlike 5 = .ok (.iload_n 0, 1) := by decide +kernel
theorem dX2_turnsTillAlike_6 : decode cX2_turnsTillAlike 6 = .ok (.invokestatic 22, 3) := by decide +kernel
theorem dX2_turnsTillAlike_9 : decode cX2_turnsTillAlike 9 = .ok (.istore_n 2, 1) := by decide +kernel
theorem dX2_turnsTillAlike_10 : decode cX2_turnsTillAlike 10 = .ok (.iconst 1, 1) := by decide +kernel
theorem dX2_turnsTillAlike_11 : decode cX2_turnsTillAlike 11 = .ok (.istore_n 3, 1) := by decide +kernel
theorem dX2_turnsTillAlike_12 : decode cX2_turnsTillAlike 12 = .ok (.iload_n 3, 1) := by decide +kernel
theorem dX2_turnsTillAlike_13 : decode cX2_turnsTillAlike 13 = .ok (.iconst 4, 1) := by decide +kernel
theorem dX2_turnsTillAlike_14 : decode cX2_turnsTillAlike 14 = .ok (.if_icmp .ge 22, 3) := by decide +kernel
theorem dX2_turnsTillAlike_17 : decode cX2_turnsTillAlike 17 = .ok (.iload_n 2, 1) := by decide +kernel
theorem dX2_turnsTillAlike_18 : decode cX2_turnsTillAlike 18 = .ok (.invokestatic 18, 3) := by decide +kernel
theorem dX2_turnsTillAlike_21 : decode cX2_turnsTillAlike 21 = .ok (.iload_n 1, 1) := by decide +kernel
theorem dX2_turnsTillAlike_22 : decode cX2_turnsTillAlike 22 = .ok (.if_icmp .eq 14, 3) := by decide +kernel
theorem dX2_turnsTillAlike_25 : decode cX2_turnsTillAlike 25 = .ok (.iload_n 2, 1) := by decide +kernel
theorem dX2_turnsTillAlike_26 : decode cX2_turnsTillAlike 26 = .ok (.invokestatic 22, 3) := by decide +kernel
theorem dX2_turnsTillAlike_29 : decode cX2_turnsTillAlike 29 = .ok (.istore_n 2, 1) := by decide +kernel
theorem dX2_turnsTillAlike_30 : decode cX2_turnsTillAlike 30 = .ok (.iinc 3 1, 3) := by decide +kernel
theorem dX2_turnsTillAlike_33 : decode cX2_turnsTillAlike 33 = .ok (.goto (-21), 3) := by decide +kernel
theorem dX2_turnsTillAlike_36 : decode cX2_turnsTillAlike 36 = .ok (.iload_n 3, 1) := by decide +kernel
theorem dX2_turnsTillAlike_37 : decode cX2_turnsTillAlike 37 = .ok (.ireturn, 1) := by decide +kernel
set_option maxRecDepth 100000 in
theorem r_X2_turnsTillAlike_0 {X : Bn} (C : Cx X cX2_turnsTillAlike 4 RX2 wsX2_turnsTillAlike 2 44) {ws : va_W} (x0 : Int32) (h : At X 4 (ws) 12 [(1, .int (f_X2_movedUp x0)), (2, .int (f_X2_turned x0)), (3, .int 1)] []) : At X 4 (ws) 0 [(0, .int x0)] [] := by
  refine at_iload_n C dX2_turnsTillAlike_0 rfl (j := 0) rfl ?_
  refine at_cS0 C 1 (c_X2_movedUp X.l X.D X.E X.a1 X.a2 x0) gX2_turnsTillAlike_X2_movedUp rfl (by decide +kernel) ⟨rfl, rfl⟩ rfl rfl rfl dX2_turnsTillAlike_1 ?_
  refine at_istore_n C dX2_turnsTillAlike_4 rfl (by decide) (lv' := [(1, .int (f_X2_movedUp x0)), (0, .int x0)]) rfl ?_
  refine at_iload_n C dX2_turnsTillAlike_5 rfl (j := 1) rfl ?_
  refine at_cS0 C 1 (c_X2_turned X.l X.D X.E X.a1 X.a2 x0) gX2_turnsTillAlike_X2_turned rfl (by decide +kernel) ⟨rfl, rfl⟩ rfl rfl rfl dX2_turnsTillAlike_6 ?_
  refine at_istore_n C dX2_turnsTillAlike_9 rfl (by decide) (lv' := [(2, .int (f_X2_turned x0)), (1, .int (f_X2_movedUp x0)), (0, .int x0)]) rfl ?_
  refine at_iconst C dX2_turnsTillAlike_10 (v := 1) rfl ?_
  refine at_istore_n C dX2_turnsTillAlike_11 rfl (by decide) (lv' := [(3, .int 1), (2, .int (f_X2_turned x0)), (1, .int (f_X2_movedUp x0)), (0, .int x0)]) rfl ?_
  refine at_lv [2, 1, 0] rfl ?_
  exact h
set_option maxRecDepth 100000 in
theorem r_X2_turnsTillAlike_12 {X : Bn} (C : Cx X cX2_turnsTillAlike 4 RX2 wsX2_turnsTillAlike 2 44) {ws : va_W} (x1 : Int32) (x2 : Int32) (x3 : Int32) (h : ((4 ≤ x3) → (Ends X (some .int) (some (.int x3)) (ws))) ∧ (¬ 4 ≤ x3 → (((f_X2_movedUp x2 = x1) → (Ends X (some .int) (some (.int x3)) (ws))) ∧ (¬ f_X2_movedUp x2 = x1 → (At X 4 (ws) 12 [(1, .int x1), (2, .int (f_X2_turned x2)), (3, .int (x3 + 1))] []))))) : At X 4 (ws) 12 [(1, .int x1), (2, .int x2), (3, .int x3)] [] := by
  refine at_iload_n C dX2_turnsTillAlike_12 rfl (j := 2) rfl ?_
  refine at_iconst C dX2_turnsTillAlike_13 (v := 4) rfl ?_
  refine at_icmp_ge C dX2_turnsTillAlike_14 (tgt := 36) (by decide) (fun hc0 => ?_) (fun hc0 => ?_)
  · replace h := h.1 hc0
    refine at_iload_n C dX2_turnsTillAlike_36 rfl (j := 2) rfl ?_
    exact at_iret C dX2_turnsTillAlike_37 h
  · replace h := h.2 hc0
    refine at_iload_n C dX2_turnsTillAlike_17 rfl (j := 1) rfl ?_
    refine at_cS0 C 1 (c_X2_movedUp X.l X.D X.E X.a1 X.a2 x2) gX2_turnsTillAlike_X2_movedUp rfl (by decide +kernel) ⟨rfl, rfl⟩ rfl rfl rfl dX2_turnsTillAlike_18 ?_
    refine at_iload_n C dX2_turnsTillAlike_21 rfl (j := 0) rfl ?_
    refine at_icmp_eq C dX2_turnsTillAlike_22 (tgt := 36) (by decide) (fun hc1 => ?_) (fun hc1 => ?_)
    · replace h := h.1 hc1
      refine at_iload_n C dX2_turnsTillAlike_36 rfl (j := 2) rfl ?_
      exact at_iret C dX2_turnsTillAlike_37 h
    · replace h := h.2 hc1
      refine at_iload_n C dX2_turnsTillAlike_25 rfl (j := 1) rfl ?_
      refine at_cS0 C 1 (c_X2_turned X.l X.D X.E X.a1 X.a2 x2) gX2_turnsTillAlike_X2_turned rfl (by decide +kernel) ⟨rfl, rfl⟩ rfl rfl rfl dX2_turnsTillAlike_26 ?_
      refine at_istore_n C dX2_turnsTillAlike_29 rfl (by decide) (lv' := [(2, .int (f_X2_turned x2)), (1, .int x1), (3, .int x3)]) rfl ?_
      refine at_iinc C dX2_turnsTillAlike_30 (j := 2) (v := x3 + 1) rfl rfl (by decide) (lv' := [(3, .int (x3 + 1)), (2, .int (f_X2_turned x2)), (1, .int x1)]) rfl ?_
      refine at_goto C dX2_turnsTillAlike_33 (tgt := 12) (by decide) ?_
      refine at_lv [2, 1, 0] rfl ?_
      exact h
def taF : Nat → Nat → Int32 → Int32 → Int32
  | 0, i, _, _ => nI i
  | k + 1, i, w, o => if f_X2_movedUp o = w then nI i else taF k (i + 1) w (f_X2_turned o)
def f_X2_turnsTillAlike (x : Int32) : Int32 := taF 3 1 (f_X2_movedUp x) (f_X2_turned x)
set_option maxRecDepth 100000 in
theorem c_X2_turnsTillAlike (l : Launch) (D : va_G) (E : Nat → ClassId) (a1 a2 : Nat)  (x0 : Int32) : Fn l D E a1 a2 yX2_turnsTillAlike wsX2_turnsTillAlike 2 44 [.int x0] [] (some (.int (f_X2_turnsTillAlike x0))) [] := by
  refine Fn.of (cc := cX2_turnsTillAlike) (maxL := 4) (ret := (some .int)) (own := RX2) (by decide) rfl rfl rfl (Nat.le_of_ble_eq_true rfl) (fun X h1 h2 h3 h4 h5 C hE => ?_)
  subst h1 h2 h3 h4 h5
  refine r_X2_turnsTillAlike_0 C x0 ?_
  have a : ∀ (k i : Nat) (o : Int32), i + k = 4 → taF k i (f_X2_movedUp x0) o = f_X2_turnsTillAlike x0 → At X 4 [] 12 [(1, .int (f_X2_movedUp x0)), (2, .int o), (3, .int (nI i))] [] := by
    intro k
    induction k with
    | zero =>
      intro i o hi e
      have : i = 4 := by omega
      subst this
      rw [← e] at hE
      exact r_X2_turnsTillAlike_12 C _ o (nI 4) ⟨fun _ => hE, fun q => nle_no q⟩
    | succ k ih =>
      intro i o hi e
      refine r_X2_turnsTillAlike_12 C _ o (nI i) ⟨fun q => nlt_no (by decide) (show i < 4 by omega) q, fun _ => ⟨fun z => ?_, fun z => ?_⟩⟩
      · rw [← e, show taF (k + 1) i (f_X2_movedUp x0) o = nI i from if_pos z] at hE
        exact hE
      · rw [nI_1]
        exact ih (i + 1) _ (by omega) (by rw [← e]; exact (if_neg z).symm)
  exact a 3 1 _ rfl rfl
theorem dX2_isWhole_0 : decode cX2_isWhole 0 = .ok (.iload_n 0, 1) := by decide +kernel
theorem dX2_isWhole_1 : decode cX2_isWhole 1 = .ok (.iload_n 0, 1) := by decide +kernel
theorem dX2_isWhole_2 : decode cX2_isWhole 2 = .ok (.ineg, 1) := by decide +kernel
theorem dX2_isWhole_3 : decode cX2_isWhole 3 = .ok (.iand, 1) := by decide +kernel
theorem dX2_isWhole_4 : decode cX2_isWhole 4 = .ok (.istore_n 1, 1) := by decide +kernel
theorem dX2_isWhole_5 : decode cX2_isWhole 5 = .ok (.iconst 0, 1) := by decide +kernel
theorem dX2_isWhole_6 : decode cX2_isWhole 6 = .ok (.istore_n 2, 1) := by decide +kernel
theorem dX2_isWhole_7 : decode cX2_isWhole 7 = .ok (.iload_n 2, 1) := by decide +kernel
theorem dX2_isWhole_8 : decode cX2_isWhole 8 = .ok (.bipush 16, 2) := by decide +kernel
theorem dX2_isWhole_10 : decode cX2_isWhole 10 = .ok (.if_icmp .ge 41, 3) := by decide +kernel
theorem dX2_isWhole_13 : decode cX2_isWhole 13 = .ok (.iload_n 1, 1) := by decide +kernel
theorem dX2_isWhole_14 : decode cX2_isWhole 14 = .ok (.iconst 4, 1) := by decide +kernel
theorem dX2_isWhole_15 : decode cX2_isWhole 15 = .ok (.ishl, 1) := by decide +kernel
theorem dX2_isWhole_16 : decode cX2_isWhole 16 = .ok (.iload_n 1, 1) := by decide +kernel
theorem dX2_isWhole_17 : decode cX2_isWhole 17 = .ok (.iconst 4, 1) := by decide +kernel
theorem dX2_isWhole_18 : decode cX2_isWhole 18 = .ok (.iushr, 1) := by decide +kernel
theorem dX2_isWhole_19 : decode cX2_isWhole 19 = .ok (.ior, 1) := by decide +kernel
theorem dX2_isWhole_20 : decode cX2_isWhole 20 = .ok (.iload_n 1, 1) := by decide +kernel
theorem dX2_isWhole_21 : decode cX2_isWhole 21 = .ok (.sipush 30583, 3) := by decide +kernel
theorem dX2_isWhole_24 : decode cX2_isWhole 24 = .ok (.iand, 1) := by decide +kernel
theorem dX2_isWhole_25 : decode cX2_isWhole 25 = .ok (.iconst 1, 1) := by decide +kernel
theorem dX2_isWhole_26 : decode cX2_isWhole 26 = .ok (.ishl, 1) := by decide +kernel
theorem dX2_isWhole_27 : decode cX2_isWhole 27 = .ok (.ior, 1) := by decide +kernel
theorem dX2_isWhole_28 : decode cX2_isWhole 28 = .ok (.iload_n 1, 1) := by decide +kernel
theorem dX2_isWhole_29 : decode cX2_isWhole 29 = .ok (.ldc 25, 2) := by decide +kernel
theorem dX2_isWhole_31 : decode cX2_isWhole 31 = .ok (.iand, 1) := by decide +kernel
theorem dX2_isWhole_32 : decode cX2_isWhole 32 = .ok (.iconst 1, 1) := by decide +kernel
theorem dX2_isWhole_33 : decode cX2_isWhole 33 = .ok (.iushr, 1) := by decide +kernel
theorem dX2_isWhole_34 : decode cX2_isWhole 34 = .ok (.ior, 1) := by decide +kernel
theorem dX2_isWhole_35 : decode cX2_isWhole 35 = .ok (.istore_n 3, 1) := by decide +kernel
theorem dX2_isWhole_36 : decode cX2_isWhole 36 = .ok (.iload_n 1, 1) := by decide +kernel
theorem dX2_isWhole_37 : decode cX2_isWhole 37 = .ok (.iload_n 3, 1) := by decide +kernel
theorem dX2_isWhole_38 : decode cX2_isWhole 38 = .ok (.iload_n 0, 1) := by decide +kernel
theorem dX2_isWhole_39 : decode cX2_isWhole 39 = .ok (.iand, 1) := by decide +kernel
theorem dX2_isWhole_40 : decode cX2_isWhole 40 = .ok (.ldc 26, 2) := by decide +kernel
theorem dX2_isWhole_42 : decode cX2_isWhole 42 = .ok (.iand, 1) := by decide +kernel
theorem dX2_isWhole_43 : decode cX2_isWhole 43 = .ok (.ior, 1) := by decide +kernel
theorem dX2_isWhole_44 : decode cX2_isWhole 44 = .ok (.istore_n 1, 1) := by decide +kernel
theorem dX2_isWhole_45 : decode cX2_isWhole 45 = .ok (.iinc 2 1, 3) := by decide +kernel
theorem dX2_isWhole_48 : decode cX2_isWhole 48 = .ok (.goto (-41), 3) := by decide +kernel
theorem dX2_isWhole_51 : decode cX2_isWhole 51 = .ok (.iload_n 1, 1) := by decide +kernel
theorem dX2_isWhole_52 : decode cX2_isWhole 52 = .ok (.iload_n 0, 1) := by decide +kernel
theorem dX2_isWhole_53 : decode cX2_isWhole 53 = .ok (.if_icmp .ne 7, 3) := by decide +kernel
theorem dX2_isWhole_56 : decode cX2_isWhole 56 = .ok (.iconst 1, 1) := by decide +kernel
theorem dX2_isWhole_57 : decode cX2_isWhole 57 = .ok (.goto 4, 3) := by decide +kernel
theorem dX2_isWhole_60 : decode cX2_isWhole 60 = .ok (.iconst 0, 1) := by decide +kernel
theorem dX2_isWhole_61 : decode cX2_isWhole 61 = .ok (.ireturn, 1) := by decide +kernel
theorem lk_X2_isWhole_0 : Cond.constant RX2 25 61166 ∈ wsX2_isWhole := by decide +kernel
theorem lk_X2_isWhole_1 : Cond.constant RX2 26 65535 ∈ wsX2_isWhole := by decide +kernel
set_option maxRecDepth 100000 in
theorem r_X2_isWhole_0 {X : Bn} (C : Cx X cX2_isWhole 4 RX2 wsX2_isWhole 0 0) {ws : va_W} (x0 : Int32) (h : At X 4 (ws) 7 [(0, .int x0), (1, .int (x0 &&& (-x0))), (2, .int 0)] []) : At X 4 (ws) 0 [(0, .int x0)] [] := by
  refine at_iload_n C dX2_isWhole_0 rfl (j := 0) rfl ?_
  refine at_iload_n C dX2_isWhole_1 rfl (j := 0) rfl ?_
  refine at_ineg C dX2_isWhole_2 ?_
  refine at_iand C dX2_isWhole_3 ?_
  refine at_istore_n C dX2_isWhole_4 rfl (by decide) (lv' := [(1, .int (x0 &&& (-x0))), (0, .int x0)]) rfl ?_
  refine at_iconst C dX2_isWhole_5 (v := 0) rfl ?_
  refine at_istore_n C dX2_isWhole_6 rfl (by decide) (lv' := [(2, .int 0), (1, .int (x0 &&& (-x0))), (0, .int x0)]) rfl ?_
  refine at_lv [2, 1, 0] rfl ?_
  exact h
set_option maxRecDepth 100000 in
theorem r_X2_isWhole_7 {X : Bn} (C : Cx X cX2_isWhole 4 RX2 wsX2_isWhole 0 0) {ws : va_W} (x0 : Int32) (x1 : Int32) (x2 : Int32) (h : ((16 ≤ x2) → (Ends X (some .boolean) (some (.int (b2i (if x1 = x0 then true else false)))) (ws))) ∧ (¬ 16 ≤ x2 → (At X 4 (ws) 7 [(0, .int x0), (1, .int (x1 ||| ((((((ishl x1 4) ||| (iush x1 4)) ||| (ishl (x1 &&& 30583) 1)) ||| (iush (x1 &&& 61166) 1)) &&& x0) &&& 65535))), (2, .int (x2 + 1))] []))) : At X 4 (ws) 7 [(0, .int x0), (1, .int x1), (2, .int x2)] [] := by
  refine at_iload_n C dX2_isWhole_7 rfl (j := 2) rfl ?_
  refine at_bipush C dX2_isWhole_8 (v := 16) rfl ?_
  refine at_icmp_ge C dX2_isWhole_10 (tgt := 51) (by decide) (fun hc0 => ?_) (fun hc0 => ?_)
  · replace h := h.1 hc0
    refine at_iload_n C dX2_isWhole_51 rfl (j := 1) rfl ?_
    refine at_iload_n C dX2_isWhole_52 rfl (j := 0) rfl ?_
    have K : At X 4 (ws) 61 [] [.int (b2i (if x1 = x0 then true else false))] := by
      exact at_zret C dX2_isWhole_61 (b2i_nar _) h
    refine at_icmp_ne C dX2_isWhole_53 (tgt := 60) (by decide) (fun hc1 => ?_) (fun hc1 => ?_)
    · skip
      refine at_iconst C dX2_isWhole_60 (v := 0) rfl ?_
      refine at_lv [] rfl ?_
      first | (simp only [if_neg hc1] at K; exact K) | exact K
    · skip
      refine at_iconst C dX2_isWhole_56 (v := 1) rfl ?_
      refine at_goto C dX2_isWhole_57 (tgt := 61) (by decide) ?_
      refine at_lv [] rfl ?_
      first | (simp only [if_pos hc1] at K; exact K) | exact K
  · replace h := h.2 hc0
    refine at_iload_n C dX2_isWhole_13 rfl (j := 1) rfl ?_
    refine at_iconst C dX2_isWhole_14 (v := 4) rfl ?_
    refine at_ishl C dX2_isWhole_15 ?_
    refine at_iload_n C dX2_isWhole_16 rfl (j := 1) rfl ?_
    refine at_iconst C dX2_isWhole_17 (v := 4) rfl ?_
    refine at_iushr C dX2_isWhole_18 ?_
    refine at_ior C dX2_isWhole_19 ?_
    refine at_iload_n C dX2_isWhole_20 rfl (j := 1) rfl ?_
    refine at_sipush C dX2_isWhole_21 (v := 30583) rfl ?_
    refine at_iand C dX2_isWhole_24 ?_
    refine at_iconst C dX2_isWhole_25 (v := 1) rfl ?_
    refine at_ishl C dX2_isWhole_26 ?_
    refine at_ior C dX2_isWhole_27 ?_
    refine at_iload_n C dX2_isWhole_28 rfl (j := 1) rfl ?_
    refine at_ldc C lk_X2_isWhole_0 dX2_isWhole_29 ?_
    refine at_iand C dX2_isWhole_31 ?_
    refine at_iconst C dX2_isWhole_32 (v := 1) rfl ?_
    refine at_iushr C dX2_isWhole_33 ?_
    refine at_ior C dX2_isWhole_34 ?_
    refine at_istore_n C dX2_isWhole_35 rfl (by decide) (lv' := [(3, .int ((((ishl x1 4) ||| (iush x1 4)) ||| (ishl (x1 &&& 30583) 1)) ||| (iush (x1 &&& 61166) 1))), (0, .int x0), (1, .int x1), (2, .int x2)]) rfl ?_
    refine at_iload_n C dX2_isWhole_36 rfl (j := 2) rfl ?_
    refine at_iload_n C dX2_isWhole_37 rfl (j := 0) rfl ?_
    refine at_iload_n C dX2_isWhole_38 rfl (j := 1) rfl ?_
    refine at_iand C dX2_isWhole_39 ?_
    refine at_ldc C lk_X2_isWhole_1 dX2_isWhole_40 ?_
    refine at_iand C dX2_isWhole_42 ?_
    refine at_ior C dX2_isWhole_43 ?_
    refine at_istore_n C dX2_isWhole_44 rfl (by decide) (lv' := [(1, .int (x1 ||| ((((((ishl x1 4) ||| (iush x1 4)) ||| (ishl (x1 &&& 30583) 1)) ||| (iush (x1 &&& 61166) 1)) &&& x0) &&& 65535))), (3, .int ((((ishl x1 4) ||| (iush x1 4)) ||| (ishl (x1 &&& 30583) 1)) ||| (iush (x1 &&& 61166) 1))), (0, .int x0), (2, .int x2)]) rfl ?_
    refine at_iinc C dX2_isWhole_45 (j := 3) (v := x2 + 1) rfl rfl (by decide) (lv' := [(2, .int (x2 + 1)), (1, .int (x1 ||| ((((((ishl x1 4) ||| (iush x1 4)) ||| (ishl (x1 &&& 30583) 1)) ||| (iush (x1 &&& 61166) 1)) &&& x0) &&& 65535))), (3, .int ((((ishl x1 4) ||| (iush x1 4)) ||| (ishl (x1 &&& 30583) 1)) ||| (iush (x1 &&& 61166) 1))), (0, .int x0)]) rfl ?_
    refine at_goto C dX2_isWhole_48 (tgt := 7) (by decide) ?_
    refine at_lv [3, 1, 0] rfl ?_
    exact h
def grStep (x g : Int32) : Int32 := g ||| ((((((ishl g 4) ||| (iush g 4)) ||| (ishl (g &&& 30583) 1)) ||| (iush (g &&& 61166) 1)) &&& x) &&& 65535)
def f_X2_isWhole (x : Int32) : Bool := if itF (fun _ g => grStep x g) 0 16 (x &&& (-x)) = x then true else false
set_option maxRecDepth 100000 in
theorem c_X2_isWhole (l : Launch) (D : va_G) (E : Nat → ClassId) (a1 a2 : Nat)  (x0 : Int32) : Fn l D E a1 a2 yX2_isWhole wsX2_isWhole 0 0 [.int x0] [] (some (.int (b2i (f_X2_isWhole x0)))) [] := by
  refine Fn.of (cc := cX2_isWhole) (maxL := 4) (ret := (some .boolean)) (own := RX2) (by decide) rfl rfl rfl (Nat.le_of_ble_eq_true rfl) (fun X h1 h2 h3 h4 h5 C hE => ?_)
  subst h1 h2 h3 h4 h5
  refine r_X2_isWhole_0 C x0 ?_
  refine for_go (P := fun i g => At X 4 [] 7 [(0, .int x0), (1, .int g), (2, .int (nI i))] []) (N := 16) (fun _ g => grStep x0 g) (fun i g hi h => ?_) 16 0 _ rfl ?_
  · exact r_X2_isWhole_7 C x0 g (nI i) ⟨fun q => nlt_no (by decide) hi q, fun _ => by rw [nI_1]; exact h⟩
  · exact r_X2_isWhole_7 C x0 _ (nI 16) ⟨fun _ => hE, fun q => nle_no q⟩
set_option maxRecDepth 20000 in
theorem ggX2_outline_J6_bitCount_0f7a4 : GoodIn wsX2_outline wsJ6_bitCount_0f7a4 := goodIn_r _ [5, 6, 7, 8] (by decide +kernel) (by decide +kernel)
set_option maxRecDepth 20000 in
theorem gX2_outline_J6_bitCount_0f7a4 : GoodIn wsX2_outline (va_wsS RX2 27 yJ6_bitCount_0f7a4 wsJ6_bitCount_0f7a4) := goodIn_app (goodIn_of _ (by decide +kernel)) ggX2_outline_J6_bitCount_0f7a4
theorem dX2_outline_0 : decode cX2_outline 0 = .ok (.iload_n 0, 1) := by decide +kernel
theorem dX2_outline_1 : decode cX2_outline 1 = .ok (.iload_n 0, 1) := by decide +kernel
theorem dX2_outline_2 : decode cX2_outline 2 = .ok (.iconst 4, 1) := by decide +kernel
theorem dX2_outline_3 : decode cX2_outline 3 = .ok (.iushr, 1) := by decide +kernel
theorem dX2_outline_4 : decode cX2_outline 4 = .ok (.iand, 1) := by decide +kernel
theorem dX2_outline_5 : decode cX2_outline 5 = .ok (.invokestatic 27, 3) := by decide +kernel
theorem dX2_outline_8 : decode cX2_outline 8 = .ok (.istore_n 1, 1) := by decide +kernel
theorem dX2_outline_9 : decode cX2_outline 9 = .ok (.iload_n 0, 1) := by decide +kernel
theorem dX2_outline_10 : decode cX2_outline 10 = .ok (.iload_n 0, 1) := by decide +kernel
theorem dX2_outline_11 : decode cX2_outline 11 = .ok (.ldc 25, 2) := by decide +kernel
theorem dX2_outline_13 : decode cX2_outline 13 = .ok (.iand, 1) := by decide +kernel
theorem dX2_outline_14 : decode cX2_outline 14 = .ok (.iconst 1, 1) := by decide +kernel
theorem dX2_outline_15 : decode cX2_outline 15 = .ok (.iushr, 1) := by decide +kernel
theorem dX2_outline_16 : decode cX2_outline 16 = .ok (.iand, 1) := by decide +kernel
theorem dX2_outline_17 : decode cX2_outline 17 = .ok (.invokestatic 27, 3) := by decide +kernel
theorem dX2_outline_20 : decode cX2_outline 20 = .ok (.istore_n 2, 1) := by decide +kernel
theorem dX2_outline_21 : decode cX2_outline 21 = .ok (.iconst 4, 1) := by decide +kernel
theorem dX2_outline_22 : decode cX2_outline 22 = .ok (.iload_n 0, 1) := by decide +kernel
theorem dX2_outline_23 : decode cX2_outline 23 = .ok (.invokestatic 27, 3) := by decide +kernel
theorem dX2_outline_26 : decode cX2_outline 26 = .ok (.imul, 1) := by decide +kernel
theorem dX2_outline_27 : decode cX2_outline 27 = .ok (.iconst 2, 1) := by decide +kernel
theorem dX2_outline_28 : decode cX2_outline 28 = .ok (.iload_n 1, 1) := by decide +kernel
theorem dX2_outline_29 : decode cX2_outline 29 = .ok (.iload_n 2, 1) := by decide +kernel
theorem dX2_outline_30 : decode cX2_outline 30 = .ok (.iadd, 1) := by decide +kernel
theorem dX2_outline_31 : decode cX2_outline 31 = .ok (.imul, 1) := by decide +kernel
theorem dX2_outline_32 : decode cX2_outline 32 = .ok (.isub, 1) := by decide +kernel
theorem dX2_outline_33 : decode cX2_outline 33 = .ok (.ireturn, 1) := by decide +kernel
theorem lk_X2_outline_0 : Cond.constant RX2 25 61166 ∈ wsX2_outline := by decide +kernel
set_option maxRecDepth 100000 in
theorem r_X2_outline_0 {X : Bn} (C : Cx X cX2_outline 3 RX2 wsX2_outline 1 20) {ws : va_W} (x0 : Int32) (h : Ends X (some .int) (some (.int ((4 * (f_J6_bitCount_0f7a4 x0)) - (2 * ((f_J6_bitCount_0f7a4 (x0 &&& (iush x0 4))) + (f_J6_bitCount_0f7a4 (x0 &&& (iush (x0 &&& 61166) 1)))))))) (ws)) : At X 3 (ws) 0 [(0, .int x0)] [] := by
  refine at_iload_n C dX2_outline_0 rfl (j := 0) rfl ?_
  refine at_iload_n C dX2_outline_1 rfl (j := 0) rfl ?_
  refine at_iconst C dX2_outline_2 (v := 4) rfl ?_
  refine at_iushr C dX2_outline_3 ?_
  refine at_iand C dX2_outline_4 ?_
  refine at_cS0 C 1 (c_J6_bitCount_0f7a4 X.l X.D X.E X.a1 X.a2 (x0 &&& (iush x0 4))) gX2_outline_J6_bitCount_0f7a4 rfl (by decide +kernel) ⟨rfl, rfl⟩ rfl rfl rfl dX2_outline_5 ?_
  refine at_istore_n C dX2_outline_8 rfl (by decide) (lv' := [(1, .int (f_J6_bitCount_0f7a4 (x0 &&& (iush x0 4)))), (0, .int x0)]) rfl ?_
  refine at_iload_n C dX2_outline_9 rfl (j := 1) rfl ?_
  refine at_iload_n C dX2_outline_10 rfl (j := 1) rfl ?_
  refine at_ldc C lk_X2_outline_0 dX2_outline_11 ?_
  refine at_iand C dX2_outline_13 ?_
  refine at_iconst C dX2_outline_14 (v := 1) rfl ?_
  refine at_iushr C dX2_outline_15 ?_
  refine at_iand C dX2_outline_16 ?_
  refine at_cS0 C 1 (c_J6_bitCount_0f7a4 X.l X.D X.E X.a1 X.a2 (x0 &&& (iush (x0 &&& 61166) 1))) gX2_outline_J6_bitCount_0f7a4 rfl (by decide +kernel) ⟨rfl, rfl⟩ rfl rfl rfl dX2_outline_17 ?_
  refine at_istore_n C dX2_outline_20 rfl (by decide) (lv' := [(2, .int (f_J6_bitCount_0f7a4 (x0 &&& (iush (x0 &&& 61166) 1)))), (1, .int (f_J6_bitCount_0f7a4 (x0 &&& (iush x0 4)))), (0, .int x0)]) rfl ?_
  refine at_iconst C dX2_outline_21 (v := 4) rfl ?_
  refine at_iload_n C dX2_outline_22 rfl (j := 2) rfl ?_
  refine at_cS0 C 1 (c_J6_bitCount_0f7a4 X.l X.D X.E X.a1 X.a2 x0) gX2_outline_J6_bitCount_0f7a4 rfl (by decide +kernel) ⟨rfl, rfl⟩ rfl rfl rfl dX2_outline_23 ?_
  refine at_imul C dX2_outline_26 ?_
  refine at_iconst C dX2_outline_27 (v := 2) rfl ?_
  refine at_iload_n C dX2_outline_28 rfl (j := 1) rfl ?_
  refine at_iload_n C dX2_outline_29 rfl (j := 0) rfl ?_
  refine at_iadd C dX2_outline_30 ?_
  refine at_imul C dX2_outline_31 ?_
  refine at_isub C dX2_outline_32 ?_
  exact at_iret C dX2_outline_33 h
def f_X2_outline (x0 : Int32) : Int32 := (4 * (f_J6_bitCount_0f7a4 x0)) - (2 * ((f_J6_bitCount_0f7a4 (x0 &&& (iush x0 4))) + (f_J6_bitCount_0f7a4 (x0 &&& (iush (x0 &&& 61166) 1)))))
set_option maxRecDepth 100000 in
theorem c_X2_outline (l : Launch) (D : va_G) (E : Nat → ClassId) (a1 a2 : Nat) (x0 : Int32) : Fn l D E a1 a2 yX2_outline wsX2_outline 1 20 [.int x0] ([]) (some (.int (f_X2_outline x0))) ([]) := by
  refine Fn.of (cc := cX2_outline) (maxL := 3) (ret := (some .int)) (own := RX2) (by decide) rfl rfl rfl (Nat.le_of_ble_eq_true rfl) (fun X h1 h2 h3 h4 h5 C hE => ?_)
  subst h1 h2 h3 h4 h5
  refine r_X2_outline_0 C x0 ?_
  simp only [f_X2_outline] at hE
  exact hE
set_option maxRecDepth 20000 in
theorem ggX2_farOff_X2_bit : GoodIn wsX2_farOff wsX2_bit := goodIn_r _ [4, 5] (by decide +kernel) (by decide +kernel)
set_option maxRecDepth 20000 in
theorem gX2_farOff_X2_bit : GoodIn wsX2_farOff (va_wsS RX2 10 yX2_bit wsX2_bit) := goodIn_app (goodIn_of _ (by decide +kernel)) ggX2_farOff_X2_bit
theorem dX2_farOff_0 : decode cX2_farOff 0 = .ok (.iload_n 1, 1) := by decide +kernel
theorem dX2_farOff_1 : decode cX2_farOff 1 = .ok (.ifCond .eq 8, 3) := by decide +kernel
theorem dX2_farOff_4 : decode cX2_farOff 4 = .ok (.iload_n 1, 1) := by decide +kernel
theorem dX2_farOff_5 : decode cX2_farOff 5 = .ok (.iconst 2, 1) := by decide +kernel
theorem dX2_farOff_6 : decode cX2_farOff 6 = .ok (.if_icmp .ne 7, 3) := by decide +kernel
theorem dX2_farOff_9 : decode cX2_farOff 9 = .ok (.iconst 1, 1) := by decide +kernel
theorem dX2_farOff_10 : decode cX2_farOff 10 = .ok (.goto 4, 3) := by decide +kernel
theorem dX2_farOff_13 : decode cX2_farOff 13 = .ok (.iconst 0, 1) := by decide +kernel
theorem dX2_farOff_14 : decode cX2_farOff 14 = .ok (.istore_n 3, 1) := by decide +kernel
theorem dX2_farOff_15 : decode cX2_farOff 15 = .ok (.iconst 1, 1) := by decide +kernel
theorem dX2_farOff_16 : decode cX2_farOff 16 = .ok (.istore 4, 2) := by decide +kernel
theorem dX2_farOff_18 : decode cX2_farOff 18 = .ok (.iload 4, 2) := by decide +kernel
theorem dX2_farOff_20 : decode cX2_farOff 20 = .ok (.iconst 4, 1) := by decide +kernel
theorem dX2_farOff_21 : decode cX2_farOff 21 = .ok (.if_icmp .gt 62, 3) := by decide +kernel
theorem dX2_farOff_24 : decode cX2_farOff 24 = .ok (.iload_n 1, 1) := by decide +kernel
theorem dX2_farOff_25 : decode cX2_farOff 25 = .ok (.ifCond .eq 8, 3) := by decide +kernel
theorem dX2_farOff_28 : decode cX2_farOff 28 = .ok (.iload_n 1, 1) := by decide +kernel
theorem dX2_farOff_29 : decode cX2_farOff 29 = .ok (.iconst 3, 1) := by decide +kernel
theorem dX2_farOff_30 : decode cX2_farOff 30 = .ok (.if_icmp .ne 10, 3) := by decide +kernel
theorem dX2_farOff_33 : decode cX2_farOff 33 = .ok (.iload 4, 2) := by decide +kernel
theorem dX2_farOff_35 : decode cX2_farOff 35 = .ok (.iconst 1, 1) := by decide +kernel
theorem dX2_farOff_36 : decode cX2_farOff 36 = .ok (.isub, 1) := by decide +kernel
theorem dX2_farOff_37 : decode cX2_farOff 37 = .ok (.goto 7, 3) := by decide +kernel
theorem dX2_farOff_40 : decode cX2_farOff 40 = .ok (.iconst 4, 1) := by decide +kernel
theorem dX2_farOff_41 : decode cX2_farOff 41 = .ok (.iload 4, 2) := by decide +kernel
theorem dX2_farOff_43 : decode cX2_farOff 43 = .ok (.isub, 1) := by decide +kernel
theorem dX2_farOff_44 : decode cX2_farOff 44 = .ok (.istore 5, 2) := by decide +kernel
theorem dX2_farOff_46 : decode cX2_farOff 46 = .ok (.iload_n 3, 1) := by decide +kernel
theorem dX2_farOff_47 : decode cX2_farOff 47 = .ok (.ifCond .eq 12, 3) := by decide +kernel
theorem dX2_farOff_50 : decode cX2_farOff 50 = .ok (.iload 5, 2) := by decide +kernel
theorem dX2_farOff_52 : decode cX2_farOff 52 = .ok (.iload_n 2, 1) := by decide +kernel
theorem dX2_farOff_53 : decode cX2_farOff 53 = .ok (.invokestatic 10, 3) := by decide +kernel
theorem dX2_farOff_56 : decode cX2_farOff 56 = .ok (.goto 9, 3) := by decide +kernel
theorem dX2_farOff_59 : decode cX2_farOff 59 = .ok (.iload_n 2, 1) := by decide +kernel
theorem dX2_farOff_60 : decode cX2_farOff 60 = .ok (.iload 5, 2) := by decide +kernel
theorem dX2_farOff_62 : decode cX2_farOff 62 = .ok (.invokestatic 10, 3) := by decide +kernel
theorem dX2_farOff_65 : decode cX2_farOff 65 = .ok (.istore 6, 2) := by decide +kernel
theorem dX2_farOff_67 : decode cX2_farOff 67 = .ok (.iload_n 0, 1) := by decide +kernel
theorem dX2_farOff_68 : decode cX2_farOff 68 = .ok (.iload 6, 2) := by decide +kernel
theorem dX2_farOff_70 : decode cX2_farOff 70 = .ok (.iand, 1) := by decide +kernel
theorem dX2_farOff_71 : decode cX2_farOff 71 = .ok (.ifCond .eq 6, 3) := by decide +kernel
theorem dX2_farOff_74 : decode cX2_farOff 74 = .ok (.iload 4, 2) := by decide +kernel
theorem dX2_farOff_76 : decode cX2_farOff 76 = .ok (.ireturn, 1) := by decide +kernel
theorem dX2_farOff_77 : decode cX2_farOff 77 = .ok (.iinc 4 1, 3) := by decide +kernel
theorem dX2_farOff_80 : decode cX2_farOff 80 = .ok (.goto (-62), 3) := by decide +kernel
theorem dX2_farOff_83 : decode cX2_farOff 83 = .ok (.iconst 0, 1) := by decide +kernel
theorem dX2_farOff_84 : decode cX2_farOff 84 = .ok (.ireturn, 1) := by decide +kernel
set_option maxRecDepth 100000 in
theorem r_X2_farOff_0 {X : Bn} (C : Cx X cX2_farOff 7 RX2 wsX2_farOff 1 21) {ws : va_W} (x0 : Int32) (x1 : Int32) (x2 : Int32) (h : At X 7 (ws) 18 [(0, .int x0), (1, .int x1), (2, .int x2), (3, .int (b2i (if x1 = 0 then true else (if x1 = 2 then true else false)))), (4, .int 1)] []) : At X 7 (ws) 0 [(0, .int x0), (1, .int x1), (2, .int x2)] [] := by
  refine at_iload_n C dX2_farOff_0 rfl (j := 1) rfl ?_
  have K : At X 7 (ws) 14 [(0, .int x0), (1, .int x1), (2, .int x2)] [.int (b2i (if x1 = 0 then true else (if x1 = 2 then true else false)))] := by
    refine at_istore_n C dX2_farOff_14 rfl (by decide) (lv' := [(3, .int (b2i (if x1 = 0 then true else (if x1 = 2 then true else false)))), (0, .int x0), (1, .int x1), (2, .int x2)]) rfl ?_
    refine at_iconst C dX2_farOff_15 (v := 1) rfl ?_
    refine at_istore C dX2_farOff_16 (by decide) (lv' := [(4, .int 1), (3, .int (b2i (if x1 = 0 then true else (if x1 = 2 then true else false)))), (0, .int x0), (1, .int x1), (2, .int x2)]) rfl ?_
    refine at_lv [2, 3, 4, 1, 0] rfl ?_
    exact h
  refine at_if_eq C dX2_farOff_1 (tgt := 9) (by decide) (fun hc0 => ?_) (fun hc0 => ?_)
  · skip
    refine at_iconst C dX2_farOff_9 (v := 1) rfl ?_
    refine at_goto C dX2_farOff_10 (tgt := 14) (by decide) ?_
    first | (simp only [if_pos hc0] at K; exact K) | exact K
  · skip
    refine at_iload_n C dX2_farOff_4 rfl (j := 1) rfl ?_
    refine at_iconst C dX2_farOff_5 (v := 2) rfl ?_
    refine at_icmp_ne C dX2_farOff_6 (tgt := 13) (by decide) (fun hc1 => ?_) (fun hc1 => ?_)
    · skip
      refine at_iconst C dX2_farOff_13 (v := 0) rfl ?_
      first | (simp only [if_neg hc0, if_neg hc1] at K; exact K) | exact K
    · skip
      refine at_iconst C dX2_farOff_9 (v := 1) rfl ?_
      refine at_goto C dX2_farOff_10 (tgt := 14) (by decide) ?_
      first | (simp only [if_neg hc0, if_pos hc1] at K; exact K) | exact K
set_option maxRecDepth 100000 in
theorem r_X2_farOff_18 {X : Bn} (C : Cx X cX2_farOff 7 RX2 wsX2_farOff 1 21) {ws : va_W} (x0 : Int32) (x1 : Int32) (x2 : Int32) (x3 : Int32) (x4 : Int32) (h : ((4 < x4) → (Ends X (some .int) (some (.int 0)) (ws))) ∧ (¬ 4 < x4 → (((x0 &&& (if x3 = 0 then f_X2_bit x2 (if x1 = 0 then x4 - 1 else (if x1 = 3 then x4 - 1 else 4 - x4)) else f_X2_bit (if x1 = 0 then x4 - 1 else (if x1 = 3 then x4 - 1 else 4 - x4)) x2) = 0) → (At X 7 (ws) 18 [(0, .int x0), (1, .int x1), (2, .int x2), (3, .int x3), (4, .int (x4 + 1))] [])) ∧ (¬ x0 &&& (if x3 = 0 then f_X2_bit x2 (if x1 = 0 then x4 - 1 else (if x1 = 3 then x4 - 1 else 4 - x4)) else f_X2_bit (if x1 = 0 then x4 - 1 else (if x1 = 3 then x4 - 1 else 4 - x4)) x2) = 0 → (Ends X (some .int) (some (.int x4)) (ws)))))) : At X 7 (ws) 18 [(0, .int x0), (1, .int x1), (2, .int x2), (3, .int x3), (4, .int x4)] [] := by
  refine at_iload C dX2_farOff_18 (j := 4) rfl ?_
  refine at_iconst C dX2_farOff_20 (v := 4) rfl ?_
  refine at_icmp_gt C dX2_farOff_21 (tgt := 83) (by decide) (fun hc0 => ?_) (fun hc0 => ?_)
  · replace h := h.1 hc0
    refine at_iconst C dX2_farOff_83 (v := 0) rfl ?_
    exact at_iret C dX2_farOff_84 h
  · replace h := h.2 hc0
    refine at_iload_n C dX2_farOff_24 rfl (j := 1) rfl ?_
    have K : At X 7 (ws) 44 [(0, .int x0), (1, .int x1), (2, .int x2), (3, .int x3), (4, .int x4)] [.int (if x1 = 0 then x4 - 1 else (if x1 = 3 then x4 - 1 else 4 - x4))] := by
      refine at_istore C dX2_farOff_44 (by decide) (lv' := [(5, .int (if x1 = 0 then x4 - 1 else (if x1 = 3 then x4 - 1 else 4 - x4))), (0, .int x0), (1, .int x1), (2, .int x2), (3, .int x3), (4, .int x4)]) rfl ?_
      refine at_iload_n C dX2_farOff_46 rfl (j := 4) rfl ?_
      have K : At X 7 (ws) 65 [(0, .int x0), (1, .int x1), (2, .int x2), (3, .int x3), (4, .int x4)] [.int (if x3 = 0 then f_X2_bit x2 (if x1 = 0 then x4 - 1 else (if x1 = 3 then x4 - 1 else 4 - x4)) else f_X2_bit (if x1 = 0 then x4 - 1 else (if x1 = 3 then x4 - 1 else 4 - x4)) x2)] := by
        refine at_istore C dX2_farOff_65 (by decide) (lv' := [(6, .int (if x3 = 0 then f_X2_bit x2 (if x1 = 0 then x4 - 1 else (if x1 = 3 then x4 - 1 else 4 - x4)) else f_X2_bit (if x1 = 0 then x4 - 1 else (if x1 = 3 then x4 - 1 else 4 - x4)) x2)), (0, .int x0), (1, .int x1), (2, .int x2), (3, .int x3), (4, .int x4)]) rfl ?_
        refine at_iload_n C dX2_farOff_67 rfl (j := 1) rfl ?_
        refine at_iload C dX2_farOff_68 (j := 0) rfl ?_
        refine at_iand C dX2_farOff_70 ?_
        refine at_if_eq C dX2_farOff_71 (tgt := 77) (by decide) (fun hc1 => ?_) (fun hc1 => ?_)
        · replace h := h.1 hc1
          refine at_iinc C dX2_farOff_77 (j := 5) (v := x4 + 1) rfl rfl (by decide) (lv' := [(4, .int (x4 + 1)), (6, .int (if x3 = 0 then f_X2_bit x2 (if x1 = 0 then x4 - 1 else (if x1 = 3 then x4 - 1 else 4 - x4)) else f_X2_bit (if x1 = 0 then x4 - 1 else (if x1 = 3 then x4 - 1 else 4 - x4)) x2)), (0, .int x0), (1, .int x1), (2, .int x2), (3, .int x3)]) rfl ?_
          refine at_goto C dX2_farOff_80 (tgt := 18) (by decide) ?_
          refine at_lv [2, 3, 4, 5, 0] rfl ?_
          exact h
        · replace h := h.2 hc1
          refine at_iload C dX2_farOff_74 (j := 5) rfl ?_
          exact at_iret C dX2_farOff_76 h
      refine at_if_eq C dX2_farOff_47 (tgt := 59) (by decide) (fun hc1 => ?_) (fun hc1 => ?_)
      · skip
        refine at_iload_n C dX2_farOff_59 rfl (j := 3) rfl ?_
        refine at_iload C dX2_farOff_60 (j := 0) rfl ?_
        refine at_cS0 C 2 (c_X2_bit X.l X.D X.E X.a1 X.a2 x2 (if x1 = 0 then x4 - 1 else (if x1 = 3 then x4 - 1 else 4 - x4))) gX2_farOff_X2_bit rfl (by decide +kernel) ⟨rfl, rfl⟩ rfl rfl rfl dX2_farOff_62 ?_
        refine at_lv [1, 2, 3, 4, 5] rfl ?_
        first | (simp only [if_pos hc1] at K; exact K) | exact K
      · skip
        refine at_iload C dX2_farOff_50 (j := 0) rfl ?_
        refine at_iload_n C dX2_farOff_52 rfl (j := 3) rfl ?_
        refine at_cS0 C 2 (c_X2_bit X.l X.D X.E X.a1 X.a2 (if x1 = 0 then x4 - 1 else (if x1 = 3 then x4 - 1 else 4 - x4)) x2) gX2_farOff_X2_bit rfl (by decide +kernel) ⟨rfl, rfl⟩ rfl rfl rfl dX2_farOff_53 ?_
        refine at_goto C dX2_farOff_56 (tgt := 65) (by decide) ?_
        refine at_lv [1, 2, 3, 4, 5] rfl ?_
        first | (simp only [if_neg hc1] at K; exact K) | exact K
    refine at_if_eq C dX2_farOff_25 (tgt := 33) (by decide) (fun hc1 => ?_) (fun hc1 => ?_)
    · skip
      refine at_iload C dX2_farOff_33 (j := 4) rfl ?_
      refine at_iconst C dX2_farOff_35 (v := 1) rfl ?_
      refine at_isub C dX2_farOff_36 ?_
      refine at_goto C dX2_farOff_37 (tgt := 44) (by decide) ?_
      first | (simp only [if_pos hc1] at K; exact K) | exact K
    · skip
      refine at_iload_n C dX2_farOff_28 rfl (j := 1) rfl ?_
      refine at_iconst C dX2_farOff_29 (v := 3) rfl ?_
      refine at_icmp_ne C dX2_farOff_30 (tgt := 40) (by decide) (fun hc2 => ?_) (fun hc2 => ?_)
      · skip
        refine at_iconst C dX2_farOff_40 (v := 4) rfl ?_
        refine at_iload C dX2_farOff_41 (j := 4) rfl ?_
        refine at_isub C dX2_farOff_43 ?_
        first | (simp only [if_neg hc1, if_neg hc2] at K; exact K) | exact K
      · skip
        refine at_iload C dX2_farOff_33 (j := 4) rfl ?_
        refine at_iconst C dX2_farOff_35 (v := 1) rfl ?_
        refine at_isub C dX2_farOff_36 ?_
        refine at_goto C dX2_farOff_37 (tgt := 44) (by decide) ?_
        first | (simp only [if_neg hc1, if_pos hc2] at K; exact K) | exact K
def foCell (s : Int32) (line off : Nat) : Int32 := if (if s = 0 then true else (if s = 2 then true else false)) then f_X2_bit (if s = 0 then nI off - 1 else (if s = 3 then nI off - 1 else 4 - nI off)) (nI line) else f_X2_bit (nI line) (if s = 0 then nI off - 1 else (if s = 3 then nI off - 1 else 4 - nI off))
def foF (x s : Int32) (line : Nat) : Nat → Nat → Int32
  | 0, _ => 0
  | k + 1, off => if x &&& foCell s line off = 0 then foF x s line k (off + 1) else nI off
def f_X2_farOff (x s l : Int32) : Int32 := foF x s l.toNatClampNeg 4 1
theorem c_X2_farOff (l : Launch) (D : va_G) (E : Nat → ClassId) (a1 a2 : Nat) (x0 x1 x2 : Int32) (hp : ∃ n, n < 4 ∧ x2 = nI n) : Fn l D E a1 a2 yX2_farOff wsX2_farOff 1 21 [.int x0, .int x1, .int x2] [] (some (.int (f_X2_farOff x0 x1 x2))) [] := by
  refine Fn.of (cc := cX2_farOff) (maxL := 7) (ret := (some .int)) (own := RX2) (by decide) rfl rfl rfl (Nat.le_of_ble_eq_true rfl) (fun X q1 q2 q3 q4 q5 C hE => ?_)
  subst q1 q2 q3 q4 q5
  obtain ⟨n, hn, rfl⟩ := hp
  have en : (nI n).toNatClampNeg = n := nI_clamp (by omega)
  rw [f_X2_farOff, en] at hE
  refine r_X2_farOff_0 C x0 x1 (nI n) ?_
  have a : ∀ (k i : Nat), i + k = 5 → foF x0 x1 n k i = foF x0 x1 n 4 1 → At X 7 [] 18 [(0, .int x0), (1, .int x1), (2, .int (nI n)), (3, .int (b2i (if x1 = 0 then true else (if x1 = 2 then true else false)))), (4, .int (nI i))] [] := by
    intro k
    induction k with
    | zero =>
      intro i hi e
      have : i = 5 := by omega
      subst this
      rw [← e] at hE
      exact r_X2_farOff_18 C _ _ _ _ (nI 5) ⟨fun _ => hE, fun q => absurd (by decide) q⟩
    | succ k ih =>
      intro i hi e
      have hb : ∀ (b : Bool) (u v : Int32), (if b2i b = 0 then u else v) = (if b then v else u) := by intro b u v; cases b <;> rfl
      have i4 : ¬ (4 : Int32) < nI i := fun q => absurd ((nlt (a := 4) (b := i) (by decide) (by omega)).mp q) (by omega)
      have hm : ∀ z : Int32, (if b2i (if x1 = 0 then true else (if x1 = 2 then true else false)) = 0 then f_X2_bit (nI n) (if x1 = 0 then nI i - 1 else (if x1 = 3 then nI i - 1 else 4 - nI i)) else f_X2_bit (if x1 = 0 then nI i - 1 else (if x1 = 3 then nI i - 1 else 4 - nI i)) (nI n)) = foCell x1 n i := by intro _; rw [hb]; rfl
      refine r_X2_farOff_18 C x0 x1 (nI n) _ (nI i) ⟨fun q => absurd q i4, fun _ => ?_⟩
      rw [hm 0]
      refine ⟨fun z => ?_, fun z => ?_⟩
      · rw [nI_1]
        exact ih (i + 1) (by omega) (by rw [← e]; exact (if_pos z).symm)
      · rw [← e, show foF x0 x1 n (k + 1) i = nI i from if_neg z] at hE
        exact hE
  exact a 4 1 rfl rfl
set_option maxRecDepth 20000 in
theorem ggX2_sightFrom_X2_farOff : GoodIn wsX2_sightFrom wsX2_farOff := goodIn_r _ [4, 5, 6, 3, 7, 8] (by decide +kernel) (by decide +kernel)
set_option maxRecDepth 20000 in
theorem gX2_sightFrom_X2_farOff : GoodIn wsX2_sightFrom (va_wsS RX2 32 yX2_farOff wsX2_farOff) := goodIn_app (goodIn_of _ (by decide +kernel)) ggX2_sightFrom_X2_farOff
theorem dX2_sightFrom_0 : decode cX2_sightFrom 0 = .ok (.iconst 0, 1) := by decide +kernel
theorem dX2_sightFrom_1 : decode cX2_sightFrom 1 = .ok (.istore_n 2, 1) := by decide +kernel
theorem dX2_sightFrom_2 : decode cX2_sightFrom 2 = .ok (.iconst 0, 1) := by decide +kernel
theorem dX2_sightFrom_3 : decode cX2_sightFrom 3 = .ok (.istore_n 3, 1) := by decide +kernel
theorem dX2_sightFrom_4 : decode cX2_sightFrom 4 = .ok (.iload_n 3, 1) := by decide +kernel
theorem dX2_sightFrom_5 : decode cX2_sightFrom 5 = .ok (.iconst 4, 1) := by decide +kernel
theorem dX2_sightFrom_6 : decode cX2_sightFrom 6 = .ok (.if_icmp .ge 20, 3) := by decide +kernel
theorem dX2_sightFrom_9 : decode cX2_sightFrom 9 = .ok (.iconst 5, 1) := by decide +kernel
theorem dX2_sightFrom_10 : decode cX2_sightFrom 10 = .ok (.iload_n 2, 1) := by decide +kernel
theorem dX2_sightFrom_11 : decode cX2_sightFrom 11 = .ok (.imul, 1) := by decide +kernel
theorem dX2_sightFrom_12 : decode cX2_sightFrom 12 = .ok (.iload_n 0, 1) := by decide +kernel
theorem dX2_sightFrom_13 : decode cX2_sightFrom 13 = .ok (.iload_n 1, 1) := by decide +kernel
theorem dX2_sightFrom_14 : decode cX2_sightFrom 14 = .ok (.iload_n 3, 1) := by decide +kernel
theorem dX2_sightFrom_15 : decode cX2_sightFrom 15 = .ok (.invokestatic 32, 3) := by decide +kernel
theorem dX2_sightFrom_18 : decode cX2_sightFrom 18 = .ok (.iadd, 1) := by decide +kernel
theorem dX2_sightFrom_19 : decode cX2_sightFrom 19 = .ok (.istore_n 2, 1) := by decide +kernel
theorem dX2_sightFrom_20 : decode cX2_sightFrom 20 = .ok (.iinc 3 1, 3) := by decide +kernel
theorem dX2_sightFrom_23 : decode cX2_sightFrom 23 = .ok (.goto (-19), 3) := by decide +kernel
theorem dX2_sightFrom_26 : decode cX2_sightFrom 26 = .ok (.iload_n 2, 1) := by decide +kernel
theorem dX2_sightFrom_27 : decode cX2_sightFrom 27 = .ok (.ireturn, 1) := by decide +kernel
set_option maxRecDepth 100000 in
theorem r_X2_sightFrom_0 {X : Bn} (C : Cx X cX2_sightFrom 4 RX2 wsX2_sightFrom 2 47) {ws : va_W} (x0 : Int32) (x1 : Int32) (h : At X 4 (ws) 4 [(0, .int x0), (1, .int x1), (2, .int 0), (3, .int 0)] []) : At X 4 (ws) 0 [(0, .int x0), (1, .int x1)] [] := by
  refine at_iconst C dX2_sightFrom_0 (v := 0) rfl ?_
  refine at_istore_n C dX2_sightFrom_1 rfl (by decide) (lv' := [(2, .int 0), (0, .int x0), (1, .int x1)]) rfl ?_
  refine at_iconst C dX2_sightFrom_2 (v := 0) rfl ?_
  refine at_istore_n C dX2_sightFrom_3 rfl (by decide) (lv' := [(3, .int 0), (2, .int 0), (0, .int x0), (1, .int x1)]) rfl ?_
  refine at_lv [2, 3, 1, 0] rfl ?_
  exact h
set_option maxRecDepth 100000 in
theorem r_X2_sightFrom_4 {X : Bn} (C : Cx X cX2_sightFrom 4 RX2 wsX2_sightFrom 2 47) {ws : va_W} (x0 : Int32) (x1 : Int32) (x2 : Int32) (x3 : Int32) (h : ((4 ≤ x3) → (Ends X (some .int) (some (.int x2)) (ws))) ∧ (¬ 4 ≤ x3 → ((∃ n, n < 4 ∧ x3 = nI n) ∧ (At X 4 (ws) 4 [(0, .int x0), (1, .int x1), (2, .int ((5 * x2) + (f_X2_farOff x0 x1 x3))), (3, .int (x3 + 1))] [])))) : At X 4 (ws) 4 [(0, .int x0), (1, .int x1), (2, .int x2), (3, .int x3)] [] := by
  refine at_iload_n C dX2_sightFrom_4 rfl (j := 3) rfl ?_
  refine at_iconst C dX2_sightFrom_5 (v := 4) rfl ?_
  refine at_icmp_ge C dX2_sightFrom_6 (tgt := 26) (by decide) (fun hc0 => ?_) (fun hc0 => ?_)
  · replace h := h.1 hc0
    refine at_iload_n C dX2_sightFrom_26 rfl (j := 2) rfl ?_
    exact at_iret C dX2_sightFrom_27 h
  · replace h := h.2 hc0
    refine at_iconst C dX2_sightFrom_9 (v := 5) rfl ?_
    refine at_iload_n C dX2_sightFrom_10 rfl (j := 2) rfl ?_
    refine at_imul C dX2_sightFrom_11 ?_
    refine at_iload_n C dX2_sightFrom_12 rfl (j := 0) rfl ?_
    refine at_iload_n C dX2_sightFrom_13 rfl (j := 1) rfl ?_
    refine at_iload_n C dX2_sightFrom_14 rfl (j := 3) rfl ?_
    refine at_cS0 C 3 (c_X2_farOff X.l X.D X.E X.a1 X.a2 x0 x1 x3 h.1) gX2_sightFrom_X2_farOff rfl (by decide +kernel) ⟨rfl, rfl⟩ rfl rfl rfl dX2_sightFrom_15 ?_
    replace h := h.2
    refine at_iadd C dX2_sightFrom_18 ?_
    refine at_istore_n C dX2_sightFrom_19 rfl (by decide) (lv' := [(2, .int ((5 * x2) + (f_X2_farOff x0 x1 x3))), (0, .int x0), (1, .int x1), (3, .int x3)]) rfl ?_
    refine at_iinc C dX2_sightFrom_20 (j := 3) (v := x3 + 1) rfl rfl (by decide) (lv' := [(3, .int (x3 + 1)), (2, .int ((5 * x2) + (f_X2_farOff x0 x1 x3))), (0, .int x0), (1, .int x1)]) rfl ?_
    refine at_goto C dX2_sightFrom_23 (tgt := 4) (by decide) ?_
    refine at_lv [2, 3, 1, 0] rfl ?_
    exact h
def f_X2_sightFrom (x s : Int32) : Int32 := itF (fun line a => 5 * a + f_X2_farOff x s (nI line)) 0 4 0
set_option maxRecDepth 100000 in
theorem c_X2_sightFrom (l : Launch) (D : va_G) (E : Nat → ClassId) (a1 a2 : Nat)  (x0 x1 : Int32) : Fn l D E a1 a2 yX2_sightFrom wsX2_sightFrom 2 47 [.int x0, .int x1] [] (some (.int (f_X2_sightFrom x0 x1))) [] := by
  refine Fn.of (cc := cX2_sightFrom) (maxL := 4) (ret := (some .int)) (own := RX2) (by decide) rfl rfl rfl (Nat.le_of_ble_eq_true rfl) (fun X h1 h2 h3 h4 h5 C hE => ?_)
  subst h1 h2 h3 h4 h5
  refine r_X2_sightFrom_0 C x0 x1 ?_
  refine for_go (P := fun i a => At X 4 [] 4 [(0, .int x0), (1, .int x1), (2, .int a), (3, .int (nI i))] []) (N := 4) (fun line a => 5 * a + f_X2_farOff x0 x1 (nI line)) (fun i a hi h => ?_) 4 0 _ rfl ?_
  · exact r_X2_sightFrom_4 C x0 x1 a (nI i) ⟨fun q => nlt_no (by decide) hi q, fun _ => ⟨⟨i, hi, rfl⟩, by rw [nI_1]; exact h⟩⟩
  · exact r_X2_sightFrom_4 C x0 x1 _ (nI 4) ⟨fun _ => hE, fun q => nle_no q⟩
