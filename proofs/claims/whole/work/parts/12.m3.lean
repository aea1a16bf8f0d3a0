set_option maxRecDepth 20000 in
theorem ggX8_isOne_X8_turned : GoodIn wsX8_isOne wsX8_turned := goodIn_r _ [4, 5, 6, 3, 7, 8, 9, 10] (by decide +kernel) (by decide +kernel)
set_option maxRecDepth 20000 in
theorem gX8_isOne_X8_turned : GoodIn wsX8_isOne (va_wsS RX8 132 yX8_turned wsX8_turned) := goodIn_app (goodIn_of _ (by decide +kernel)) ggX8_isOne_X8_turned
set_option maxRecDepth 20000 in
theorem ggX8_isOne_X8_movedUp : GoodIn wsX8_isOne wsX8_movedUp := goodIn_r _ [13, 14, 15] (by decide +kernel) (by decide +kernel)
set_option maxRecDepth 20000 in
theorem gX8_isOne_X8_movedUp : GoodIn wsX8_isOne (va_wsS RX8 135 yX8_movedUp wsX8_movedUp) := goodIn_app (goodIn_of _ (by decide +kernel)) ggX8_isOne_X8_movedUp
theorem dX8_isOne_0 : decode cX8_isOne 0 = .ok (.iconst 0, 1) := by decide +kernel
theorem dX8_isOne_1 : decode cX8_isOne 1 = .ok (.istore_n 2, 1) := by decide +kernel
theorem dX8_isOne_2 : decode cX8_isOne 2 = .ok (.iconst 0, 1) := by decide +kernel
theorem dX8_isOne_3 : decode cX8_isOne 3 = .ok (.istore_n 3, 1) := by decide +kernel
theorem dX8_isOne_4 : decode cX8_isOne 4 = .ok (.iload_n 3, 1) := by decide +kernel
theorem dX8_isOne_5 : decode cX8_isOne 5 = .ok (.iconst 4, 1) := by decide +kernel
theorem dX8_isOne_6 : decode cX8_isOne 6 = .ok (.if_icmp .ge 34, 3) := by decide +kernel
theorem dX8_isOne_9 : decode cX8_isOne 9 = .ok (.iload_n 2, 1) := by decide +kernel
theorem dX8_isOne_10 : decode cX8_isOne 10 = .ok (.ifCond .ne 18, 3) := by decide +kernel
theorem dX8_isOne_13 : decode cX8_isOne 13 = .ok (.iload_n 0, 1) := by decide +kernel
theorem dX8_isOne_14 : decode cX8_isOne 14 = .ok (.iload_n 3, 1) := by decide +kernel
theorem dX8_isOne_15 : decode cX8_isOne 15 = .ok (.invokestatic 132, 3) := by decide +kernel
theorem dX8_isOne_18 : decode cX8_isOne 18 = .ok (.invokestatic 135, 3) := by decide +kernel
theorem dX8_isOne_21 : decode cX8_isOne 21 = .ok (.iload_n 1, 1) := by decide +kernel
theorem dX8_isOne_22 : decode cX8_isOne 22 = .ok (.invokestatic 135, 3) := by decide +kernel
theorem dX8_isOne_25 : decode cX8_isOne 25 = .ok (.if_icmp .ne 7, 3) := by decide +kernel
theorem dX8_isOne_28 : decode cX8_isOne 28 = .ok (.iconst 1, 1) := by decide +kernel
theorem dX8_isOne_29 : decode cX8_isOne 29 = .ok (.goto 4, 3) := by decide +kernel
theorem dX8_isOne_32 : decode cX8_isOne 32 = .ok (.iconst 0, 1) := by decide +kernel
theorem dX8_isOne_33 : decode cX8_isOne 33 = .ok (.istore_n 2, 1) := by decide +kernel
theorem dX8_isOne_34 : decode cX8_isOne 34 = .ok (.iinc 3 1, 3) := by decide +kernel
theorem dX8_isOne_37 : decode cX8_isOne 37 = .ok (.goto (-33), 3) := by decide +kernel
theorem dX8_isOne_40 : decode cX8_isOne 40 = .ok (.iload_n 2, 1) := by decide +kernel
theorem dX8_isOne_41 : decode cX8_isOne 41 = .ok (.ireturn, 1) := by decide +kernel
set_option maxRecDepth 100000 in
theorem r_X8_isOne_0 {X : Bn} (C : Cx X cX8_isOne 4 RX8 wsX8_isOne 3 67) {ws : va_W} (x0 : Int32) (x1 : Int32) (h : At X 4 (ws) 4 [(0, .int x0), (1, .int x1), (2, .int 0), (3, .int 0)] []) : At X 4 (ws) 0 [(0, .int x0), (1, .int x1)] [] := by
  refine at_iconst C dX8_isOne_0 (v := 0) rfl ?_
  refine at_istore_n C dX8_isOne_1 rfl (by decide) (lv' := [(2, .int 0), (0, .int x0), (1, .int x1)]) rfl ?_
  refine at_iconst C dX8_isOne_2 (v := 0) rfl ?_
  refine at_istore_n C dX8_isOne_3 rfl (by decide) (lv' := [(3, .int 0), (2, .int 0), (0, .int x0), (1, .int x1)]) rfl ?_
  refine at_lv [2, 3, 1, 0] rfl ?_
  exact h
set_option maxRecDepth 100000 in
theorem r_X8_isOne_4 {X : Bn} (C : Cx X cX8_isOne 4 RX8 wsX8_isOne 3 67) {ws : va_W} (x0 : Int32) (x1 : Int32) (x2 : Int32) (x3 : Int32) (h : ((4 ≤ x3) → ((narrow .boolean (.int x2) = .int x2) ∧ (Ends X (some .boolean) (some (.int x2)) (ws)))) ∧ (¬ 4 ≤ x3 → ((((x2 = 0) → (p_X8_movedUp (f_X8_turned x0 x3)) ∧ (p_X8_movedUp x1))) ∧ (At X 4 (ws) 4 [(0, .int x0), (1, .int x1), (2, .int (b2i (if x2 = 0 then (if f_X8_movedUp (f_X8_turned x0 x3) = f_X8_movedUp x1 then true else false) else true))), (3, .int (x3 + 1))] [])))) : At X 4 (ws) 4 [(0, .int x0), (1, .int x1), (2, .int x2), (3, .int x3)] [] := by
  refine at_iload_n C dX8_isOne_4 rfl (j := 3) rfl ?_
  refine at_iconst C dX8_isOne_5 (v := 4) rfl ?_
  refine at_icmp_ge C dX8_isOne_6 (tgt := 40) (by decide) (fun hc0 => ?_) (fun hc0 => ?_)
  · replace h := h.1 hc0
    refine at_iload_n C dX8_isOne_40 rfl (j := 2) rfl ?_
    exact at_zret C dX8_isOne_41 h.1 h.2
  · replace h := h.2 hc0
    refine at_iload_n C dX8_isOne_9 rfl (j := 2) rfl ?_
    have hq := h.1
    replace h := h.2
    have K : At X 4 (ws) 33 [(0, .int x0), (1, .int x1), (3, .int x3)] [.int (b2i (if x2 = 0 then (if f_X8_movedUp (f_X8_turned x0 x3) = f_X8_movedUp x1 then true else false) else true))] := by
      refine at_istore_n C dX8_isOne_33 rfl (by decide) (lv' := [(2, .int (b2i (if x2 = 0 then (if f_X8_movedUp (f_X8_turned x0 x3) = f_X8_movedUp x1 then true else false) else true))), (0, .int x0), (1, .int x1), (3, .int x3)]) rfl ?_
      refine at_iinc C dX8_isOne_34 (j := 3) (v := x3 + 1) rfl rfl (by decide) (lv' := [(3, .int (x3 + 1)), (2, .int (b2i (if x2 = 0 then (if f_X8_movedUp (f_X8_turned x0 x3) = f_X8_movedUp x1 then true else false) else true))), (0, .int x0), (1, .int x1)]) rfl ?_
      refine at_goto C dX8_isOne_37 (tgt := 4) (by decide) ?_
      refine at_lv [2, 3, 1, 0] rfl ?_
      exact h
    replace h := hq
    refine at_if_ne C dX8_isOne_10 (tgt := 28) (by decide) (fun hc1 => ?_) (fun hc1 => ?_)
    · skip
      refine at_iconst C dX8_isOne_28 (v := 1) rfl ?_
      refine at_goto C dX8_isOne_29 (tgt := 33) (by decide) ?_
      refine at_lv [0, 1, 3] rfl ?_
      first | (simp only [if_neg hc1] at K; exact K) | exact K
    · replace h := h hc1
      refine at_iload_n C dX8_isOne_13 rfl (j := 0) rfl ?_
      refine at_iload_n C dX8_isOne_14 rfl (j := 3) rfl ?_
      refine at_cS0 C 2 (c_X8_turned X.l X.D X.E X.a1 X.a2 x0 x3) gX8_isOne_X8_turned rfl (by decide +kernel) ⟨rfl, rfl⟩ rfl rfl rfl dX8_isOne_15 ?_
      refine at_cS0 C 1 (c_X8_movedUp X.l X.D X.E X.a1 X.a2 (f_X8_turned x0 x3) h.1) gX8_isOne_X8_movedUp rfl (by decide +kernel) ⟨rfl, rfl⟩ rfl rfl rfl dX8_isOne_18 ?_
      replace h := h.2
      refine at_iload_n C dX8_isOne_21 rfl (j := 1) rfl ?_
      refine at_cS0 C 1 (c_X8_movedUp X.l X.D X.E X.a1 X.a2 x1 h) gX8_isOne_X8_movedUp rfl (by decide +kernel) ⟨rfl, rfl⟩ rfl rfl rfl dX8_isOne_22 ?_
      refine at_icmp_ne C dX8_isOne_25 (tgt := 32) (by decide) (fun hc2 => ?_) (fun hc2 => ?_)
      · skip
        refine at_iconst C dX8_isOne_32 (v := 0) rfl ?_
        refine at_lv [0, 1, 3] rfl ?_
        first | (simp only [if_pos hc1, if_neg hc2] at K; exact K) | exact K
      · skip
        refine at_iconst C dX8_isOne_28 (v := 1) rfl ?_
        refine at_goto C dX8_isOne_29 (tgt := 33) (by decide) ?_
        refine at_lv [0, 1, 3] rfl ?_
        first | (simp only [if_pos hc1, if_pos hc2] at K; exact K) | exact K
def f_X8_isOne (a b : Int32) : Bool := itF (fun t is => is || decide (f_X8_movedUp (f_X8_turned a (nI t)) = f_X8_movedUp b)) 0 4 false
def p_X8_isOne (a b : Int32) : Prop := p_X8_movedUp a ∧ p_X8_movedUp b
theorem p_nI {x : Int32} (h : p_X8_movedUp x) : ∃ n, sh16 n ∧ x = nI n := ⟨uI x, h, (nI_uI x).symm⟩
set_option maxRecDepth 100000 in
theorem c_X8_isOne (l : Launch) (D : va_G) (E : Nat → ClassId) (a1 a2 : Nat)  (x0 x1 : Int32) (hp : p_X8_isOne x0 x1) : Fn l D E a1 a2 yX8_isOne wsX8_isOne 3 67 [.int x0, .int x1] [] (some (.int (b2i (f_X8_isOne x0 x1)))) [] := by
  refine Fn.of (cc := cX8_isOne) (maxL := 4) (ret := (some .boolean)) (own := RX8) (by decide) rfl rfl rfl (Nat.le_of_ble_eq_true rfl) (fun X h1 h2 h3 h4 h5 C hE => ?_)
  subst h1 h2 h3 h4 h5
  obtain ⟨n, hn, rfl⟩ := p_nI hp.1
  refine r_X8_isOne_0 C (nI n) x1 ?_
  refine for_go (P := fun t is => At X 4 [] 4 [(0, .int (nI n)), (1, .int x1), (2, .int (b2i is)), (3, .int (nI t))] []) (N := 4) (fun t is => is || decide (f_X8_movedUp (f_X8_turned (nI n) (nI t)) = f_X8_movedUp x1)) (fun t is ht h => ?_) 4 0 false rfl ?_
  · refine r_X8_isOne_4 C (nI n) x1 (b2i is) (nI t) ⟨fun q => nlt_no (by decide) ht q, fun _ => ⟨fun _ => ⟨?_, hp.2⟩, ?_⟩⟩
    · rw [turned_nI hn.2 (by omega)]
      exact sh16_p (sh16_tnK t hn)
    · rw [nI_1 t]
      have e : (if b2i is = 0 then (if f_X8_movedUp (f_X8_turned (nI n) (nI t)) = f_X8_movedUp x1 then true else false) else true) = (is || decide (f_X8_movedUp (f_X8_turned (nI n) (nI t)) = f_X8_movedUp x1)) := by
        cases is
        · rw [if_pos (show b2i false = 0 from rfl), Bool.false_or]
          by_cases q : f_X8_movedUp (f_X8_turned (nI n) (nI t)) = f_X8_movedUp x1
          · rw [if_pos q, decide_eq_true q]
          · rw [if_neg q, decide_eq_false q]
        · rfl
      rw [e]
      exact h
  · exact r_X8_isOne_4 C (nI n) x1 _ (nI 4) ⟨fun _ => ⟨b2i_nar _, hE⟩, fun q => nle_no q⟩
set_option maxRecDepth 20000 in
theorem ggX8_isWhole_X8_isCell : GoodIn wsX8_isWhole wsX8_isCell := goodIn_r _ [4, 5, 6, 7, 3, 8, 9, 10, 11, 12, 13, 14] (by decide +kernel) (by decide +kernel)
set_option maxRecDepth 20000 in
theorem gX8_isWhole_X8_isCell : GoodIn wsX8_isWhole (va_wsS RX8 159 yX8_isCell wsX8_isCell) := goodIn_app (goodIn_of _ (by decide +kernel)) ggX8_isWhole_X8_isCell
set_option maxRecDepth 20000 in
theorem ggX8_isWhole_X8_bitOf : GoodIn wsX8_isWhole wsX8_bitOf := goodIn_r _ [11] (by decide +kernel) (by decide +kernel)
set_option maxRecDepth 20000 in
theorem gX8_isWhole_X8_bitOf : GoodIn wsX8_isWhole (va_wsS RX8 124 yX8_bitOf wsX8_bitOf) := goodIn_app (goodIn_of _ (by decide +kernel)) ggX8_isWhole_X8_bitOf
theorem dX8_isWhole_0 : decode cX8_isWhole 0 = .ok (.iload_n 0, 1) := by decide +kernel
theorem dX8_isWhole_1 : decode cX8_isWhole 1 = .ok (.iload_n 0, 1) := by decide +kernel
theorem dX8_isWhole_2 : decode cX8_isWhole 2 = .ok (.ineg, 1) := by decide +kernel
theorem dX8_isWhole_3 : decode cX8_isWhole 3 = .ok (.iand, 1) := by decide +kernel
theorem dX8_isWhole_4 : decode cX8_isWhole 4 = .ok (.istore_n 1, 1) := by decide +kernel
theorem dX8_isWhole_5 : decode cX8_isWhole 5 = .ok (.iconst 0, 1) := by decide +kernel
theorem dX8_isWhole_6 : decode cX8_isWhole 6 = .ok (.istore_n 2, 1) := by decide +kernel
theorem dX8_isWhole_7 : decode cX8_isWhole 7 = .ok (.iload_n 1, 1) := by decide +kernel
theorem dX8_isWhole_8 : decode cX8_isWhole 8 = .ok (.iload_n 2, 1) := by decide +kernel
theorem dX8_isWhole_9 : decode cX8_isWhole 9 = .ok (.if_icmp .eq 121, 3) := by decide +kernel
theorem dX8_isWhole_12 : decode cX8_isWhole 12 = .ok (.iload_n 1, 1) := by decide +kernel
theorem dX8_isWhole_13 : decode cX8_isWhole 13 = .ok (.istore_n 2, 1) := by decide +kernel
theorem dX8_isWhole_14 : decode cX8_isWhole 14 = .ok (.iconst 0, 1) := by decide +kernel
theorem dX8_isWhole_15 : decode cX8_isWhole 15 = .ok (.istore_n 3, 1) := by decide +kernel
theorem dX8_isWhole_16 : decode cX8_isWhole 16 = .ok (.iload_n 3, 1) := by decide +kernel
theorem dX8_isWhole_17 : decode cX8_isWhole 17 = .ok (.iconst 4, 1) := by decide +kernel
theorem dX8_isWhole_18 : decode cX8_isWhole 18 = .ok (.if_icmp .ge 109, 3) := by decide +kernel
theorem dX8_isWhole_21 : decode cX8_isWhole 21 = .ok (.iconst 0, 1) := by decide +kernel
theorem dX8_isWhole_22 : decode cX8_isWhole 22 = .ok (.istore 4, 2) := by decide +kernel
theorem dX8_isWhole_24 : decode cX8_isWhole 24 = .ok (.iload 4, 2) := by decide +kernel
theorem dX8_isWhole_26 : decode cX8_isWhole 26 = .ok (.iconst 4, 1) := by decide +kernel
theorem dX8_isWhole_27 : decode cX8_isWhole 27 = .ok (.if_icmp .ge 94, 3) := by decide +kernel
theorem dX8_isWhole_30 : decode cX8_isWhole 30 = .ok (.iload_n 1, 1) := by decide +kernel
theorem dX8_isWhole_31 : decode cX8_isWhole 31 = .ok (.iload_n 3, 1) := by decide +kernel
theorem dX8_isWhole_32 : decode cX8_isWhole 32 = .ok (.iconst 1, 1) := by decide +kernel
theorem dX8_isWhole_33 : decode cX8_isWhole 33 = .ok (.isub, 1) := by decide +kernel
theorem dX8_isWhole_34 : decode cX8_isWhole 34 = .ok (.iload 4, 2) := by decide +kernel
theorem dX8_isWhole_36 : decode cX8_isWhole 36 = .ok (.invokestatic 159, 3) := by decide +kernel
theorem dX8_isWhole_39 : decode cX8_isWhole 39 = .ok (.ifCond .ne 39, 3) := by decide +kernel
theorem dX8_isWhole_42 : decode cX8_isWhole 42 = .ok (.iload_n 1, 1) := by decide +kernel
theorem dX8_isWhole_43 : decode cX8_isWhole 43 = .ok (.iload_n 3, 1) := by decide +kernel
theorem dX8_isWhole_44 : decode cX8_isWhole 44 = .ok (.iconst 1, 1) := by decide +kernel
theorem dX8_isWhole_45 : decode cX8_isWhole 45 = .ok (.iadd, 1) := by decide +kernel
theorem dX8_isWhole_46 : decode cX8_isWhole 46 = .ok (.iload 4, 2) := by decide +kernel
theorem dX8_isWhole_48 : decode cX8_isWhole 48 = .ok (.invokestatic 159, 3) := by decide +kernel
theorem dX8_isWhole_51 : decode cX8_isWhole 51 = .ok (.ifCond .ne 27, 3) := by decide +kernel
theorem dX8_isWhole_54 : decode cX8_isWhole 54 = .ok (.iload_n 1, 1) := by decide +kernel
theorem dX8_isWhole_55 : decode cX8_isWhole 55 = .ok (.iload_n 3, 1) := by decide +kernel
theorem dX8_isWhole_56 : decode cX8_isWhole 56 = .ok (.iload 4, 2) := by decide +kernel
theorem dX8_isWhole_58 : decode cX8_isWhole 58 = .ok (.iconst 1, 1) := by decide +kernel
theorem dX8_isWhole_59 : decode cX8_isWhole 59 = .ok (.isub, 1) := by decide +kernel
theorem dX8_isWhole_60 : decode cX8_isWhole 60 = .ok (.invokestatic 159, 3) := by decide +kernel
theorem dX8_isWhole_63 : decode cX8_isWhole 63 = .ok (.ifCond .ne 15, 3) := by decide +kernel
theorem dX8_isWhole_66 : decode cX8_isWhole 66 = .ok (.iload_n 1, 1) := by decide +kernel
theorem dX8_isWhole_67 : decode cX8_isWhole 67 = .ok (.iload_n 3, 1) := by decide +kernel
theorem dX8_isWhole_68 : decode cX8_isWhole 68 = .ok (.iload 4, 2) := by decide +kernel
theorem dX8_isWhole_70 : decode cX8_isWhole 70 = .ok (.iconst 1, 1) := by decide +kernel
theorem dX8_isWhole_71 : decode cX8_isWhole 71 = .ok (.iadd, 1) := by decide +kernel
theorem dX8_isWhole_72 : decode cX8_isWhole 72 = .ok (.invokestatic 159, 3) := by decide +kernel
theorem dX8_isWhole_75 : decode cX8_isWhole 75 = .ok (.ifCond .eq 7, 3) := by decide +kernel
theorem dX8_isWhole_78 : decode cX8_isWhole 78 = .ok (.iconst 1, 1) := by decide +kernel
theorem dX8_isWhole_79 : decode cX8_isWhole 79 = .ok (.goto 4, 3) := by decide +kernel
theorem dX8_isWhole_82 : decode cX8_isWhole 82 = .ok (.iconst 0, 1) := by decide +kernel
theorem dX8_isWhole_83 : decode cX8_isWhole 83 = .ok (.istore 5, 2) := by decide +kernel
theorem dX8_isWhole_85 : decode cX8_isWhole 85 = .ok (.iload_n 1, 1) := by decide +kernel
theorem dX8_isWhole_86 : decode cX8_isWhole 86 = .ok (.iload 5, 2) := by decide +kernel
theorem dX8_isWhole_88 : decode cX8_isWhole 88 = .ok (.ifCond .eq 24, 3) := by decide +kernel
theorem dX8_isWhole_91 : decode cX8_isWhole 91 = .ok (.iload_n 0, 1) := by decide +kernel
theorem dX8_isWhole_92 : decode cX8_isWhole 92 = .ok (.iload_n 3, 1) := by decide +kernel
theorem dX8_isWhole_93 : decode cX8_isWhole 93 = .ok (.iload 4, 2) := by decide +kernel
theorem dX8_isWhole_95 : decode cX8_isWhole 95 = .ok (.invokestatic 159, 3) := by decide +kernel
theorem dX8_isWhole_98 : decode cX8_isWhole 98 = .ok (.ifCond .eq 14, 3) := by decide +kernel
theorem dX8_isWhole_101 : decode cX8_isWhole 101 = .ok (.iconst 1, 1) := by decide +kernel
theorem dX8_isWhole_102 : decode cX8_isWhole 102 = .ok (.iload_n 3, 1) := by decide +kernel
theorem dX8_isWhole_103 : decode cX8_isWhole 103 = .ok (.iload 4, 2) := by decide +kernel
theorem dX8_isWhole_105 : decode cX8_isWhole 105 = .ok (.invokestatic 124, 3) := by decide +kernel
theorem dX8_isWhole_108 : decode cX8_isWhole 108 = .ok (.ishl, 1) := by decide +kernel
theorem dX8_isWhole_109 : decode cX8_isWhole 109 = .ok (.goto 4, 3) := by decide +kernel
theorem dX8_isWhole_112 : decode cX8_isWhole 112 = .ok (.iconst 0, 1) := by decide +kernel
theorem dX8_isWhole_113 : decode cX8_isWhole 113 = .ok (.ior, 1) := by decide +kernel
theorem dX8_isWhole_114 : decode cX8_isWhole 114 = .ok (.istore_n 1, 1) := by decide +kernel
theorem dX8_isWhole_115 : decode cX8_isWhole 115 = .ok (.iinc 4 1, 3) := by decide +kernel
theorem dX8_isWhole_118 : decode cX8_isWhole 118 = .ok (.goto (-94), 3) := by decide +kernel
theorem dX8_isWhole_121 : decode cX8_isWhole 121 = .ok (.iinc 3 1, 3) := by decide +kernel
theorem dX8_isWhole_124 : decode cX8_isWhole 124 = .ok (.goto (-108), 3) := by decide +kernel
theorem dX8_isWhole_127 : decode cX8_isWhole 127 = .ok (.goto (-120), 3) := by decide +kernel
theorem dX8_isWhole_130 : decode cX8_isWhole 130 = .ok (.iload_n 1, 1) := by decide +kernel
theorem dX8_isWhole_131 : decode cX8_isWhole 131 = .ok (.iload_n 0, 1) := by decide +kernel
theorem dX8_isWhole_132 : decode cX8_isWhole 132 = .ok (.if_icmp .ne 7, 3) := by decide +kernel
theorem dX8_isWhole_135 : decode cX8_isWhole 135 = .ok (.iconst 1, 1) := by decide +kernel
theorem dX8_isWhole_136 : decode cX8_isWhole 136 = .ok (.goto 4, 3) := by decide +kernel
theorem dX8_isWhole_139 : decode cX8_isWhole 139 = .ok (.iconst 0, 1) := by decide +kernel
theorem dX8_isWhole_140 : decode cX8_isWhole 140 = .ok (.ireturn, 1) := by decide +kernel
set_option maxRecDepth 100000 in
theorem r_X8_isWhole_0 {X : Bn} (C : Cx X cX8_isWhole 6 RX8 wsX8_isWhole 2 47) {ws : va_W} (x0 : Int32) (h : At X 6 (ws) 7 [(0, .int x0), (1, .int (x0 &&& (-x0))), (2, .int 0)] []) : At X 6 (ws) 0 [(0, .int x0)] [] := by
  refine at_iload_n C dX8_isWhole_0 rfl (j := 0) rfl ?_
  refine at_iload_n C dX8_isWhole_1 rfl (j := 0) rfl ?_
  refine at_ineg C dX8_isWhole_2 ?_
  refine at_iand C dX8_isWhole_3 ?_
  refine at_istore_n C dX8_isWhole_4 rfl (by decide) (lv' := [(1, .int (x0 &&& (-x0))), (0, .int x0)]) rfl ?_
  refine at_iconst C dX8_isWhole_5 (v := 0) rfl ?_
  refine at_istore_n C dX8_isWhole_6 rfl (by decide) (lv' := [(2, .int 0), (1, .int (x0 &&& (-x0))), (0, .int x0)]) rfl ?_
  refine at_lv [2, 1, 0] rfl ?_
  exact h
set_option maxRecDepth 100000 in
theorem r_X8_isWhole_7 {X : Bn} (C : Cx X cX8_isWhole 6 RX8 wsX8_isWhole 2 47) {ws : va_W} (x0 : Int32) (x1 : Int32) (x2 : Int32) (h : ((x1 = x2) → (Ends X (some .boolean) (some (.int (b2i (if x1 = x0 then true else false)))) (ws))) ∧ (¬ x1 = x2 → (At X 6 (ws) 16 [(0, .int x0), (1, .int x1), (2, .int x1), (3, .int 0)] []))) : At X 6 (ws) 7 [(0, .int x0), (1, .int x1), (2, .int x2)] [] := by
  refine at_iload_n C dX8_isWhole_7 rfl (j := 1) rfl ?_
  refine at_iload_n C dX8_isWhole_8 rfl (j := 2) rfl ?_
  refine at_icmp_eq C dX8_isWhole_9 (tgt := 130) (by decide) (fun hc0 => ?_) (fun hc0 => ?_)
  · replace h := h.1 hc0
    refine at_iload_n C dX8_isWhole_130 rfl (j := 1) rfl ?_
    refine at_iload_n C dX8_isWhole_131 rfl (j := 0) rfl ?_
    have K : At X 6 (ws) 140 [] [.int (b2i (if x1 = x0 then true else false))] := by
      exact at_zret C dX8_isWhole_140 (b2i_nar _) h
    refine at_icmp_ne C dX8_isWhole_132 (tgt := 139) (by decide) (fun hc1 => ?_) (fun hc1 => ?_)
    · skip
      refine at_iconst C dX8_isWhole_139 (v := 0) rfl ?_
      refine at_lv [] rfl ?_
      first | (simp only [if_neg hc1] at K; exact K) | exact K
    · skip
      refine at_iconst C dX8_isWhole_135 (v := 1) rfl ?_
      refine at_goto C dX8_isWhole_136 (tgt := 140) (by decide) ?_
      refine at_lv [] rfl ?_
      first | (simp only [if_pos hc1] at K; exact K) | exact K
  · replace h := h.2 hc0
    refine at_iload_n C dX8_isWhole_12 rfl (j := 1) rfl ?_
    refine at_istore_n C dX8_isWhole_13 rfl (by decide) (lv' := [(2, .int x1), (0, .int x0), (1, .int x1)]) rfl ?_
    refine at_iconst C dX8_isWhole_14 (v := 0) rfl ?_
    refine at_istore_n C dX8_isWhole_15 rfl (by decide) (lv' := [(3, .int 0), (2, .int x1), (0, .int x0), (1, .int x1)]) rfl ?_
    refine at_lv [2, 3, 1, 0] rfl ?_
    exact h
set_option maxRecDepth 100000 in
theorem r_X8_isWhole_16 {X : Bn} (C : Cx X cX8_isWhole 6 RX8 wsX8_isWhole 2 47) {ws : va_W} (x0 : Int32) (x1 : Int32) (x2 : Int32) (x3 : Int32) (h : ((4 ≤ x3) → (At X 6 (ws) 7 [(0, .int x0), (1, .int x1), (2, .int x2)] [])) ∧ (¬ 4 ≤ x3 → (At X 6 (ws) 24 [(0, .int x0), (1, .int x1), (2, .int x2), (3, .int x3), (4, .int 0)] []))) : At X 6 (ws) 16 [(0, .int x0), (1, .int x1), (2, .int x2), (3, .int x3)] [] := by
  refine at_iload_n C dX8_isWhole_16 rfl (j := 3) rfl ?_
  refine at_iconst C dX8_isWhole_17 (v := 4) rfl ?_
  refine at_icmp_ge C dX8_isWhole_18 (tgt := 127) (by decide) (fun hc1 => ?_) (fun hc1 => ?_)
  · replace h := h.1 hc1
    refine at_goto C dX8_isWhole_127 (tgt := 7) (by decide) ?_
    refine at_lv [0, 1, 2] rfl ?_
    exact h
  · replace h := h.2 hc1
    refine at_iconst C dX8_isWhole_21 (v := 0) rfl ?_
    refine at_istore C dX8_isWhole_22 (by decide) (lv' := [(4, .int 0), (0, .int x0), (1, .int x1), (2, .int x2), (3, .int x3)]) rfl ?_
    refine at_lv [1, 2, 3, 4, 0] rfl ?_
    exact h
set_option maxRecDepth 100000 in
theorem r_X8_isWhole_24 {X : Bn} (C : Cx X cX8_isWhole 6 RX8 wsX8_isWhole 2 47) {ws : va_W} (x0 : Int32) (x1 : Int32) (x2 : Int32) (x3 : Int32) (x4 : Int32) (h : ((4 ≤ x4) → (At X 6 (ws) 16 [(0, .int x0), (1, .int x1), (2, .int x2), (3, .int (x3 + 1))] [])) ∧ (¬ 4 ≤ x4 → (At X 6 (ws) 24 [(0, .int x0), (1, .int (x1 ||| (if (if (f_X8_isCell x1 (x3 - 1) x4) then true else (if (f_X8_isCell x1 (x3 + 1) x4) then true else (if (f_X8_isCell x1 x3 (x4 - 1)) then true else (if (f_X8_isCell x1 x3 (x4 + 1)) then true else false)))) then (if (f_X8_isCell x0 x3 x4) then ishl 1 (f_X8_bitOf x3 x4) else 0) else 0))), (2, .int x2), (3, .int x3), (4, .int (x4 + 1))] []))) : At X 6 (ws) 24 [(0, .int x0), (1, .int x1), (2, .int x2), (3, .int x3), (4, .int x4)] [] := by
  refine at_iload C dX8_isWhole_24 (j := 4) rfl ?_
  refine at_iconst C dX8_isWhole_26 (v := 4) rfl ?_
  refine at_icmp_ge C dX8_isWhole_27 (tgt := 121) (by decide) (fun hc2 => ?_) (fun hc2 => ?_)
  · replace h := h.1 hc2
    refine at_iinc C dX8_isWhole_121 (j := 3) (v := x3 + 1) rfl rfl (by decide) (lv' := [(3, .int (x3 + 1)), (0, .int x0), (1, .int x1), (2, .int x2), (4, .int x4)]) rfl ?_
    refine at_goto C dX8_isWhole_124 (tgt := 16) (by decide) ?_
    refine at_lv [1, 2, 3, 0] rfl ?_
    exact h
  · replace h := h.2 hc2
    refine at_iload_n C dX8_isWhole_30 rfl (j := 1) rfl ?_
    refine at_iload_n C dX8_isWhole_31 rfl (j := 3) rfl ?_
    refine at_iconst C dX8_isWhole_32 (v := 1) rfl ?_
    refine at_isub C dX8_isWhole_33 ?_
    refine at_iload C dX8_isWhole_34 (j := 4) rfl ?_
    refine at_cS0 C 3 (c_X8_isCell X.l X.D X.E X.a1 X.a2 x1 (x3 - 1) x4) gX8_isWhole_X8_isCell rfl (by decide +kernel) ⟨rfl, rfl⟩ rfl rfl rfl dX8_isWhole_36 ?_
    have K : At X 6 (ws) 83 [(0, .int x0), (1, .int x1), (2, .int x2), (3, .int x3), (4, .int x4)] [.int (b2i (if (f_X8_isCell x1 (x3 - 1) x4) then true else (if (f_X8_isCell x1 (x3 + 1) x4) then true else (if (f_X8_isCell x1 x3 (x4 - 1)) then true else (if (f_X8_isCell x1 x3 (x4 + 1)) then true else false)))))] := by
      refine at_istore C dX8_isWhole_83 (by decide) (lv' := [(5, .int (b2i (if (f_X8_isCell x1 (x3 - 1) x4) then true else (if (f_X8_isCell x1 (x3 + 1) x4) then true else (if (f_X8_isCell x1 x3 (x4 - 1)) then true else (if (f_X8_isCell x1 x3 (x4 + 1)) then true else false)))))), (0, .int x0), (1, .int x1), (2, .int x2), (3, .int x3), (4, .int x4)]) rfl ?_
      refine at_iload_n C dX8_isWhole_85 rfl (j := 2) rfl ?_
      refine at_iload C dX8_isWhole_86 (j := 0) rfl ?_
      have K : At X 6 (ws) 113 [(0, .int x0), (2, .int x2), (3, .int x3), (4, .int x4)] [.int (if (if (f_X8_isCell x1 (x3 - 1) x4) then true else (if (f_X8_isCell x1 (x3 + 1) x4) then true else (if (f_X8_isCell x1 x3 (x4 - 1)) then true else (if (f_X8_isCell x1 x3 (x4 + 1)) then true else false)))) then (if (f_X8_isCell x0 x3 x4) then ishl 1 (f_X8_bitOf x3 x4) else 0) else 0), .int x1] := by
        refine at_ior C dX8_isWhole_113 ?_
        refine at_istore_n C dX8_isWhole_114 rfl (by decide) (lv' := [(1, .int (x1 ||| (if (if (f_X8_isCell x1 (x3 - 1) x4) then true else (if (f_X8_isCell x1 (x3 + 1) x4) then true else (if (f_X8_isCell x1 x3 (x4 - 1)) then true else (if (f_X8_isCell x1 x3 (x4 + 1)) then true else false)))) then (if (f_X8_isCell x0 x3 x4) then ishl 1 (f_X8_bitOf x3 x4) else 0) else 0))), (0, .int x0), (2, .int x2), (3, .int x3), (4, .int x4)]) rfl ?_
        refine at_iinc C dX8_isWhole_115 (j := 4) (v := x4 + 1) rfl rfl (by decide) (lv' := [(4, .int (x4 + 1)), (1, .int (x1 ||| (if (if (f_X8_isCell x1 (x3 - 1) x4) then true else (if (f_X8_isCell x1 (x3 + 1) x4) then true else (if (f_X8_isCell x1 x3 (x4 - 1)) then true else (if (f_X8_isCell x1 x3 (x4 + 1)) then true else false)))) then (if (f_X8_isCell x0 x3 x4) then ishl 1 (f_X8_bitOf x3 x4) else 0) else 0))), (0, .int x0), (2, .int x2), (3, .int x3)]) rfl ?_
        refine at_goto C dX8_isWhole_118 (tgt := 24) (by decide) ?_
        refine at_lv [2, 1, 3, 4, 0] rfl ?_
        exact h
      refine at_ifB_eq C dX8_isWhole_88 (tgt := 112) (by decide) (fun hc3 => ?_) (fun hc3 => ?_)
      · skip
        refine at_iconst C dX8_isWhole_112 (v := 0) rfl ?_
        refine at_lv [1, 3, 4, 5] rfl ?_
        first | (simp only [if_neg (show ¬ (if (f_X8_isCell x1 (x3 - 1) x4) then true else (if (f_X8_isCell x1 (x3 + 1) x4) then true else (if (f_X8_isCell x1 x3 (x4 - 1)) then true else (if (f_X8_isCell x1 x3 (x4 + 1)) then true else false)))) = true by rw [hc3]; decide)] at K; exact K) | exact K
      · skip
        refine at_iload_n C dX8_isWhole_91 rfl (j := 1) rfl ?_
        refine at_iload_n C dX8_isWhole_92 rfl (j := 4) rfl ?_
        refine at_iload C dX8_isWhole_93 (j := 5) rfl ?_
        refine at_cS0 C 3 (c_X8_isCell X.l X.D X.E X.a1 X.a2 x0 x3 x4) gX8_isWhole_X8_isCell rfl (by decide +kernel) ⟨rfl, rfl⟩ rfl rfl rfl dX8_isWhole_95 ?_
        refine at_ifB_eq C dX8_isWhole_98 (tgt := 112) (by decide) (fun hc4 => ?_) (fun hc4 => ?_)
        · skip
          refine at_iconst C dX8_isWhole_112 (v := 0) rfl ?_
          refine at_lv [1, 3, 4, 5] rfl ?_
          first | (simp only [if_pos hc3, if_neg (show ¬ (f_X8_isCell x0 x3 x4) = true by rw [hc4]; decide)] at K; exact K) | exact K
        · skip
          refine at_iconst C dX8_isWhole_101 (v := 1) rfl ?_
          refine at_iload_n C dX8_isWhole_102 rfl (j := 4) rfl ?_
          refine at_iload C dX8_isWhole_103 (j := 5) rfl ?_
          refine at_cS0 C 2 (c_X8_bitOf X.l X.D X.E X.a1 X.a2 x3 x4) gX8_isWhole_X8_bitOf rfl (by decide +kernel) ⟨rfl, rfl⟩ rfl rfl rfl dX8_isWhole_105 ?_
          refine at_ishl C dX8_isWhole_108 ?_
          refine at_goto C dX8_isWhole_109 (tgt := 113) (by decide) ?_
          refine at_lv [1, 3, 4, 5] rfl ?_
          first | (simp only [if_pos hc3, if_pos hc4] at K; exact K) | exact K
    refine at_ifB_ne C dX8_isWhole_39 (tgt := 78) (by decide) (fun hc3 => ?_) (fun hc3 => ?_)
    · skip
      refine at_iconst C dX8_isWhole_78 (v := 1) rfl ?_
      refine at_goto C dX8_isWhole_79 (tgt := 83) (by decide) ?_
      first | (simp only [if_pos hc3] at K; exact K) | exact K
    · skip
      refine at_iload_n C dX8_isWhole_42 rfl (j := 1) rfl ?_
      refine at_iload_n C dX8_isWhole_43 rfl (j := 3) rfl ?_
      refine at_iconst C dX8_isWhole_44 (v := 1) rfl ?_
      refine at_iadd C dX8_isWhole_45 ?_
      refine at_iload C dX8_isWhole_46 (j := 4) rfl ?_
      refine at_cS0 C 3 (c_X8_isCell X.l X.D X.E X.a1 X.a2 x1 (x3 + 1) x4) gX8_isWhole_X8_isCell rfl (by decide +kernel) ⟨rfl, rfl⟩ rfl rfl rfl dX8_isWhole_48 ?_
      refine at_ifB_ne C dX8_isWhole_51 (tgt := 78) (by decide) (fun hc4 => ?_) (fun hc4 => ?_)
      · skip
        refine at_iconst C dX8_isWhole_78 (v := 1) rfl ?_
        refine at_goto C dX8_isWhole_79 (tgt := 83) (by decide) ?_
        first | (simp only [if_neg (show ¬ (f_X8_isCell x1 (x3 - 1) x4) = true by rw [hc3]; decide), if_pos hc4] at K; exact K) | exact K
      · skip
        refine at_iload_n C dX8_isWhole_54 rfl (j := 1) rfl ?_
        refine at_iload_n C dX8_isWhole_55 rfl (j := 3) rfl ?_
        refine at_iload C dX8_isWhole_56 (j := 4) rfl ?_
        refine at_iconst C dX8_isWhole_58 (v := 1) rfl ?_
        refine at_isub C dX8_isWhole_59 ?_
        refine at_cS0 C 3 (c_X8_isCell X.l X.D X.E X.a1 X.a2 x1 x3 (x4 - 1)) gX8_isWhole_X8_isCell rfl (by decide +kernel) ⟨rfl, rfl⟩ rfl rfl rfl dX8_isWhole_60 ?_
        refine at_ifB_ne C dX8_isWhole_63 (tgt := 78) (by decide) (fun hc5 => ?_) (fun hc5 => ?_)
        · skip
          refine at_iconst C dX8_isWhole_78 (v := 1) rfl ?_
          refine at_goto C dX8_isWhole_79 (tgt := 83) (by decide) ?_
          first | (simp only [if_neg (show ¬ (f_X8_isCell x1 (x3 - 1) x4) = true by rw [hc3]; decide), if_neg (show ¬ (f_X8_isCell x1 (x3 + 1) x4) = true by rw [hc4]; decide), if_pos hc5] at K; exact K) | exact K
        · skip
          refine at_iload_n C dX8_isWhole_66 rfl (j := 1) rfl ?_
          refine at_iload_n C dX8_isWhole_67 rfl (j := 3) rfl ?_
          refine at_iload C dX8_isWhole_68 (j := 4) rfl ?_
          refine at_iconst C dX8_isWhole_70 (v := 1) rfl ?_
          refine at_iadd C dX8_isWhole_71 ?_
          refine at_cS0 C 3 (c_X8_isCell X.l X.D X.E X.a1 X.a2 x1 x3 (x4 + 1)) gX8_isWhole_X8_isCell rfl (by decide +kernel) ⟨rfl, rfl⟩ rfl rfl rfl dX8_isWhole_72 ?_
          refine at_ifB_eq C dX8_isWhole_75 (tgt := 82) (by decide) (fun hc6 => ?_) (fun hc6 => ?_)
          · skip
            refine at_iconst C dX8_isWhole_82 (v := 0) rfl ?_
            first | (simp only [if_neg (show ¬ (f_X8_isCell x1 (x3 - 1) x4) = true by rw [hc3]; decide), if_neg (show ¬ (f_X8_isCell x1 (x3 + 1) x4) = true by rw [hc4]; decide), if_neg (show ¬ (f_X8_isCell x1 x3 (x4 - 1)) = true by rw [hc5]; decide), if_neg (show ¬ (f_X8_isCell x1 x3 (x4 + 1)) = true by rw [hc6]; decide)] at K; exact K) | exact K
          · skip
            refine at_iconst C dX8_isWhole_78 (v := 1) rfl ?_
            refine at_goto C dX8_isWhole_79 (tgt := 83) (by decide) ?_
            first | (simp only [if_neg (show ¬ (f_X8_isCell x1 (x3 - 1) x4) = true by rw [hc3]; decide), if_neg (show ¬ (f_X8_isCell x1 (x3 + 1) x4) = true by rw [hc4]; decide), if_neg (show ¬ (f_X8_isCell x1 x3 (x4 - 1)) = true by rw [hc5]; decide), if_pos hc6] at K; exact K) | exact K
theorem isIn_nI {n j : Nat} (hn : n < 2 ^ 31) (hj : j < 32) : f_X8_isIn (nI n) (nI j) = n.testBit j := by
  rw [f_X8_isIn, isar_nI hj hn, and1_nI, show (1 : Int32) = nI 1 from rfl, Nat.testBit_eq_decide_div_mod_eq]
  have h1 : n / 2 ^ j % 2 < 2 := Nat.mod_lt _ (by decide)
  by_cases h : n / 2 ^ j % 2 = 1
  · rw [h, if_pos rfl]; rfl
  · rw [if_neg (fun e => h ((nI_eq (by omega) (by decide)).mp e)), decide_eq_false h]
theorem isCell_in {x r c : Int32} (h1 : f_X8_in r.toInt64 0 3 = true) (h2 : f_X8_in c.toInt64 0 3 = true) : f_X8_isCell x r c = f_X8_isIn x (f_X8_bitOf r c) := by
  simp only [f_X8_isCell, h1, h2]
  cases f_X8_isIn x (f_X8_bitOf r c) <;> rfl
theorem isCell_r {x r c : Int32} (h1 : f_X8_in r.toInt64 0 3 = false) : f_X8_isCell x r c = false := by
  simp only [f_X8_isCell, h1]; rfl
theorem isCell_c {x r c : Int32} (h2 : f_X8_in c.toInt64 0 3 = false) : f_X8_isCell x r c = false := by
  simp only [f_X8_isCell, h2]
  cases f_X8_in r.toInt64 0 3 <;> rfl
theorem in_03 : ∀ r, r < 4 → f_X8_in (nI r).toInt64 0 3 = true := by decide
theorem ic_0 {n r c : Nat} (hn : n < 65536) (hr : r < 4) (hc : c < 4) : f_X8_isCell (nI n) (nI r) (nI c) = n.testBit (15 - 4 * r - c) := by
  rw [isCell_in (in_03 r hr) (in_03 c hc), bo_1 r hr c hc]
  exact isIn_nI (by omega) (by omega)
theorem ic_u {n r c : Nat} (hn : n < 65536) (hr : r < 4) (hc : c < 4) : f_X8_isCell (nI n) (nI r - 1) (nI c) = (decide (0 < r) && n.testBit (15 - 4 * (r - 1) - c)) := by
  cases r with
  | zero => rw [isCell_r (by decide)]; rfl
  | succ r => rw [nI_pred, ic_0 hn (by omega) hc]; simp
theorem ic_d {n r c : Nat} (hn : n < 65536) (hr : r < 4) (hc : c < 4) : f_X8_isCell (nI n) (nI r + 1) (nI c) = (decide (r < 3) && n.testBit (15 - 4 * (r + 1) - c)) := by
  rw [nI_1]
  by_cases h : r < 3
  · rw [ic_0 hn (by omega) hc, decide_eq_true h, Bool.true_and]
  · have : r = 3 := by omega
    subst this
    rw [isCell_r (by decide)]; rfl
theorem ic_l {n r c : Nat} (hn : n < 65536) (hr : r < 4) (hc : c < 4) : f_X8_isCell (nI n) (nI r) (nI c - 1) = (decide (0 < c) && n.testBit (15 - 4 * r - (c - 1))) := by
  cases c with
  | zero => rw [isCell_c (by decide)]; rfl
  | succ c => rw [nI_pred, ic_0 hn hr (by omega)]; simp
theorem ic_r {n r c : Nat} (hn : n < 65536) (hr : r < 4) (hc : c < 4) : f_X8_isCell (nI n) (nI r) (nI c + 1) = (decide (c < 3) && n.testBit (15 - 4 * r - (c + 1))) := by
  rw [nI_1]
  by_cases h : c < 3
  · rw [ic_0 hn hr (by omega), decide_eq_true h, Bool.true_and]
  · have : c = 3 := by omega
    subst this
    rw [isCell_c (by decide)]; rfl
/-- whether a cell beside (r, c) is there -/
def nbN (h r c : Nat) : Bool := (decide (0 < r) && h.testBit (15 - 4 * (r - 1) - c)) || ((decide (r < 3) && h.testBit (15 - 4 * (r + 1) - c)) || ((decide (0 < c) && h.testBit (15 - 4 * r - (c - 1))) || (decide (c < 3) && h.testBit (15 - 4 * r - (c + 1)))))
def swS (n r c h : Nat) : Nat := h ||| (if nbN h r c && n.testBit (15 - 4 * r - c) then 2 ^ (15 - 4 * r - c) else 0)
def swN (n h : Nat) : Nat := itF (fun r a => itF (fun c a => swS n r c a) 0 4 a) 0 4 h
def wl : Nat → Nat → Nat → Nat
  | 0, _, h => h
  | k + 1, n, h => if swN n h = h then h else wl k n (swN n h)
def lowN (n : Nat) : Nat := uI (nI n &&& -(nI n))
def whN (n : Nat) : Bool := decide (wl 65536 n (lowN n) = n)
def f_X8_isWhole (x : Int32) : Bool := whN (uI x)
theorem tb_or2 {n k : Nat} (h : n.testBit k = true) : 2 ^ k ||| n = n := by
  apply Nat.eq_of_testBit_eq
  intro i
  rw [Nat.testBit_or, Nat.testBit_two_pow]
  by_cases e : k = i
  · subst e; simp [h]
  · simp [e]
theorem swS_sub {n r c h : Nat} (hs : h ||| n = n) : swS n r c h ||| n = n := by
  unfold swS
  split
  · rename_i q
    rw [Bool.and_eq_true] at q
    rw [Nat.or_assoc, tb_or2 q.2, hs]
  · rw [Nat.or_zero, hs]
theorem swS_le {n r c h : Nat} : h ≤ swS n r c h := Nat.left_le_or
theorem swN_sub {n h : Nat} (hs : h ||| n = n) : swN n h ||| n = n :=
  itF_inv (N := 4) (fun _ a => a ||| n = n) _ (fun r a _ ha => itF_inv (N := 4) (fun _ a => a ||| n = n) _ (fun c a _ ha => swS_sub ha) 4 0 a rfl ha) 4 0 h rfl hs
theorem swN_le {n h : Nat} : h ≤ swN n h :=
  itF_inv (N := 4) (fun _ a => h ≤ a) _ (fun r a _ ha => itF_inv (N := 4) (fun _ a => h ≤ a) _ (fun c a _ ha => Nat.le_trans ha swS_le) 4 0 a rfl ha) 4 0 h rfl (Nat.le_refl _)
theorem sub_le {n h : Nat} (hs : h ||| n = n) : h ≤ n := by rw [← hs]; exact Nat.left_le_or
theorem lowN_sub {n : Nat} (hn : n < 2 ^ 32) : lowN n ||| n = n := by
  have e : lowN n = n &&& (-(nI n)).toBitVec.toNat := by
    show ((nI n).toBitVec &&& (-(nI n)).toBitVec).toNat = _
    rw [BitVec.toNat_and, pk_tn hn]
  rw [e]
  apply Nat.eq_of_testBit_eq
  intro i
  rw [Nat.testBit_or, Nat.testBit_and]
  cases n.testBit i <;> simp
theorem lowN_pos {n : Nat} (h : sh16 n) : 0 < lowN n := by
  rcases Nat.eq_zero_or_pos (lowN n) with e | e
  · exfalso
    have h1 : nI n &&& -(nI n) = 0 := uI_0.mpr e
    have h2 : (nI n).toBitVec &&& -(nI n).toBitVec = 0#32 := by
      have := congrArg Int32.toBitVec h1
      simpa using this
    have h3 : (nI n).toBitVec = 0#32 := by
      generalize (nI n).toBitVec = b at h2
      apply BitVec.eq_of_toNat_eq
      rcases Nat.eq_zero_or_pos b.toNat with z | z
      · simpa using z
      · exfalso
        have h4 : b.toNat &&& (2 ^ 32 - b.toNat) = 0 := by
          have := congrArg BitVec.toNat h2
          rw [BitVec.toNat_and, BitVec.toNat_neg, Nat.mod_eq_of_lt (by have := b.isLt; omega)] at this
          simpa using this
        -- the lowest bit of b is one of its negative too
        have key : ∀ (k a m : Nat), 0 < a → a < 2 ^ k → a + m = 2 ^ k → a &&& m ≠ 0 := by
          intro k
          induction k with
          | zero => intro a m h1 h2; omega
          | succ k ih =>
            intro a m h1 h2 h3 h4
            have p := Nat.pow_succ (n := 2) (m := k)
            rcases Nat.mod_two_eq_zero_or_one a with e | e
            · refine ih (a / 2) (m / 2) (by omega) (by omega) (by omega) ?_
              rw [← Nat.and_div_two, h4]
            · have em : m % 2 = 1 := by omega
              have : (a &&& m) % 2 = 1 := by
                have h3 : (a &&& m) % 2 = (a % 2) &&& (m % 2) := by
                  have := Nat.and_mod_two_pow (a := a) (b := m) (n := 1)
                  simpa using this
                rw [h3, e, em]
                rfl
              rw [h4] at this
              cases this
        exact key 32 b.toNat _ z b.isLt (by have := b.isLt; omega) h4
    have h5 : (nI n).toBitVec.toNat = n := pk_tn (by have := h.2; omega)
    rw [h3] at h5
    have := h.1
    simp at h5
    omega
  · exact e
theorem ishl_1 {k : Nat} (hk : k < 31) : ishl 1 (nI k) = nI (2 ^ k) := by
  have : 2 ^ k < 2 ^ 31 := Nat.pow_lt_pow_right (by decide) hk
  rw [show (1 : Int32) = nI 1 from rfl, ishl_nI (by omega) (by omega), Nat.one_mul]
set_option maxRecDepth 100000 in
theorem c_X8_isWhole (l : Launch) (D : va_G) (E : Nat → ClassId) (a1 a2 : Nat)  (x0 : Int32) (hp : p_X8_movedUp x0) : Fn l D E a1 a2 yX8_isWhole wsX8_isWhole 2 47 [.int x0] [] (some (.int (b2i (f_X8_isWhole x0)))) [] := by
  refine Fn.of (cc := cX8_isWhole) (maxL := 6) (ret := (some .boolean)) (own := RX8) (by decide) rfl rfl rfl (Nat.le_of_ble_eq_true rfl) (fun X h1 h2 h3 h4 h5 C hE => ?_)
  subst h1 h2 h3 h4 h5
  obtain ⟨n, hn, rfl⟩ := p_nI hp
  have hn2 : n < 65536 := hn.2
  rw [f_X8_isWhole, uI_nI (by omega)] at hE
  refine r_X8_isWhole_0 C (nI n) ?_
  have sweep : ∀ (h la : Nat), h ||| n = n → At X 6 [] 7 [(0, .int (nI n)), (1, .int (nI (swN n h))), (2, .int (nI la))] [] → At X 6 [] 16 [(0, .int (nI n)), (1, .int (nI h)), (2, .int (nI la)), (3, .int 0)] [] := by
    intro h la hs k
    refine for_goI (P := fun r a => At X 6 [] 16 [(0, .int (nI n)), (1, .int (nI a)), (2, .int (nI la)), (3, .int (nI r))] []) (N := 4) (fun _ a => a ||| n = n) (fun r a => itF (fun c a => swS n r c a) 0 4 a) (fun r a _ ha => itF_inv (N := 4) (fun _ a => a ||| n = n) _ (fun c a _ ha => swS_sub ha) 4 0 a rfl ha) (fun r a hr ha k => ?_) 4 0 h rfl hs (fun _ => ?_)
    · refine r_X8_isWhole_16 C (nI n) (nI a) (nI la) (nI r) ⟨fun q => nlt_no (by decide) hr q, fun _ => ?_⟩
      refine for_goI (P := fun c a => At X 6 [] 24 [(0, .int (nI n)), (1, .int (nI a)), (2, .int (nI la)), (3, .int (nI r)), (4, .int (nI c))] []) (N := 4) (fun _ a => a ||| n = n) (fun c a => swS n r c a) (fun c a _ ha => swS_sub ha) (fun c a hc ha k => ?_) 4 0 a rfl ha (fun _ => ?_)
      · refine r_X8_isWhole_24 C (nI n) (nI a) (nI la) (nI r) (nI c) ⟨fun q => nlt_no (by decide) hc q, fun _ => ?_⟩
        have ha2 : a < 65536 := Nat.lt_of_le_of_lt (sub_le ha) hn2
        have e : (nI a ||| (if (if (f_X8_isCell (nI a) (nI r - 1) (nI c)) then true else (if (f_X8_isCell (nI a) (nI r + 1) (nI c)) then true else (if (f_X8_isCell (nI a) (nI r) (nI c - 1)) then true else (if (f_X8_isCell (nI a) (nI r) (nI c + 1)) then true else false)))) then (if (f_X8_isCell (nI n) (nI r) (nI c)) then ishl 1 (f_X8_bitOf (nI r) (nI c)) else 0) else 0)) = nI (swS n r c a) := by
          rw [ic_u ha2 hr hc, ic_d ha2 hr hc, ic_l ha2 hr hc, ic_r ha2 hr hc, ic_0 hn2 hr hc, bo_1 r hr c hc, ishl_1 (by omega)]
          have e1 : ∀ p q u v : Bool, (if p then true else (if q then true else (if u then true else (if v then true else false)))) = (p || (q || (u || v))) := by decide
          rw [e1]
          show nI a ||| (if nbN a r c = true then (if n.testBit (15 - 4 * r - c) = true then nI (2 ^ (15 - 4 * r - c)) else 0) else 0) = _
          unfold swS
          cases nbN a r c <;> cases n.testBit (15 - 4 * r - c) <;> first | (rw [show (0 : Int32) = nI 0 from rfl]; exact or_nI _ _) | exact or_nI _ _
        rw [e, nI_1 c]
        exact k
      · exact r_X8_isWhole_24 C (nI n) _ (nI la) (nI r) (nI 4) ⟨fun _ => by rw [nI_1 r]; exact k, fun q => nle_no q⟩
    · exact r_X8_isWhole_16 C (nI n) _ (nI la) (nI 4) ⟨fun _ => k, fun q => nle_no q⟩
  have key : ∀ (k h la : Nat), h ≠ la → la < 65536 → h ||| n = n → n - h < k → decide (wl k n h = n) = whN n → At X 6 [] 7 [(0, .int (nI n)), (1, .int (nI h)), (2, .int (nI la))] [] := by
    intro k
    induction k with
    | zero => intro h la h1 h2 h3 h4; omega
    | succ k ih =>
      intro h la h1 h2 h3 h4 h5
      have hh : h ≤ n := sub_le h3
      refine r_X8_isWhole_7 C (nI n) (nI h) (nI la) ⟨fun q => absurd ((nI_eq (by omega) (by omega)).mp q) h1, fun _ => ?_⟩
      refine sweep h h h3 ?_
      by_cases q : swN n h = h
      · rw [q]
        refine r_X8_isWhole_7 C (nI n) (nI h) (nI h) ⟨fun _ => ?_, fun z => absurd rfl z⟩
        rw [wl, if_pos q] at h5
        have e : (if nI h = nI n then true else false) = whN n := by
          rw [← h5]
          by_cases z : h = n
          · rw [if_pos (by rw [z]), decide_eq_true z]
          · rw [if_neg (fun e => z ((nI_eq (by omega) (by omega)).mp e)), decide_eq_false z]
        rw [e]
        exact hE
      · rw [wl, if_neg q] at h5
        have hl := swN_le (n := n) (h := h)
        have hs := swN_sub h3
        have hs2 := sub_le hs
        exact ih (swN n h) h q (by omega) hs (by omega) h5
  have hl := lowN_sub (n := n) (by omega)
  have e0 : nI n &&& -(nI n) = nI (lowN n) := (nI_uI _).symm
  rw [e0]
  have hp0 := lowN_pos hn
  exact key 65536 (lowN n) 0 (by omega) (by decide) hl (by omega) rfl
