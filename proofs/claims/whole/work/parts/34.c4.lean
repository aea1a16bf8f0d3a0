/-! the bits of a long -/
def tbL (x : Int64) (c : Nat) : Bool := x.toBitVec.getLsbD c
theorem tbL_or {x y : Int64} {c : Nat} : tbL (x ||| y) c = (tbL x c || tbL y c) := by
  show (x.toBitVec ||| y.toBitVec).getLsbD c = _
  exact BitVec.getLsbD_or
theorem tbL_and {x y : Int64} {c : Nat} : tbL (x &&& y) c = (tbL x c && tbL y c) := by
  show (x.toBitVec &&& y.toBitVec).getLsbD c = _
  exact BitVec.getLsbD_and
theorem tbL_ge {x : Int64} {c : Nat} (h : 64 ≤ c) : tbL x c = false := BitVec.getLsbD_of_ge _ _ h
theorem tbL_ext {x y : Int64} (h : ∀ c, c < 64 → tbL x c = tbL y c) : x = y := Int64.toBitVec_inj.mp (BitVec.eq_of_getLsbD_eq fun i hi => h i hi)
theorem tbL_0 (c : Nat) : tbL 0 c = false := by
  show (0#64).getLsbD c = false
  exact BitVec.getLsbD_zero
theorem tbL_m1 {c : Nat} (h : c < 64) : tbL (-1) c = true := by
  have : (-1 : Int64).toBitVec = BitVec.allOnes 64 := by decide
  show (-1 : Int64).toBitVec.getLsbD c = true
  rw [this, BitVec.getLsbD_allOnes, decide_eq_true h]
theorem shl_amt : ∀ n, n < 64 → (((nI n).toInt64 &&& 63).toBitVec.smod 64).toNat = n := by decide
theorem shr_amt : ∀ n, n < 64 → (((nI n).toInt64.toUInt64 &&& Int64.toUInt64 63).toBitVec % 64).toNat = n := by decide
theorem tbL_shl {x : Int64} {k c : Nat} (hk : k < 64) : tbL (lshl x (nI k)) c = (decide (c < 64) && (!decide (c < k) && tbL x (c - k))) := by
  show (x.toBitVec <<< (((nI k).toInt64 &&& 63).toBitVec.smod 64)).getLsbD c = _
  rw [BitVec.shiftLeft_eq', shl_amt k hk, BitVec.getLsbD_shiftLeft, Bool.and_assoc]
  rfl
theorem tbL_shr {x : Int64} {k c : Nat} (hk : k < 64) : tbL (lush x (nI k)) c = tbL x (k + c) := by
  show (x.toBitVec >>> (((nI k).toInt64.toUInt64 &&& Int64.toUInt64 63).toBitVec % 64)).getLsbD c = _
  rw [BitVec.ushiftRight_eq', shr_amt k hk, BitVec.getLsbD_ushiftRight]
  rfl
theorem tbL_1 (c : Nat) : tbL 1 c = decide (c = 0) := by
  show (1#64).getLsbD c = _
  rw [BitVec.getLsbD_one]
  simp
theorem tbL_bit {k c : Nat} (hk : k < 64) : tbL (lshl 1 (nI k)) c = decide (c = k) := by
  rw [tbL_shl hk, tbL_1]
  by_cases h : c = k
  · subst h; simp [hk]
  · rw [decide_eq_false h]
    by_cases h2 : c < k
    · simp [h2]
    · rw [decide_eq_false (show ¬ c - k = 0 by omega)]; simp
theorem has_tb {x : Int64} {c : Nat} (hc : c < 64) : (lush x (nI c) &&& 1 = 1) ↔ tbL x c = true := by
  constructor
  · intro h
    have := congrArg (fun z => tbL z 0) h
    simp only [tbL_and, tbL_shr hc, tbL_1] at this
    simpa using this
  · intro h
    refine tbL_ext (fun d _ => ?_)
    rw [tbL_and, tbL_shr hc, tbL_1]
    by_cases q : d = 0
    · subst q; simp [h]
    · simp [q]
theorem has_eq {x : Int64} {c : Nat} (hc : c < 64) : f_X1_has x (nI c) = tbL x c := by
  unfold f_X1_has
  rw [show (64 : Int32) = nI 64 from rfl, within_y (by decide) hc]
  by_cases h : tbL x c = true
  · rw [if_pos ((has_tb hc).mpr h), h]; rfl
  · rw [if_neg (fun q => h ((has_tb hc).mp q)), Bool.not_eq_true _ |>.mp h]; rfl
theorem has_no {x : Int64} {z : Int32} (h : ¬ ∃ c, c < 64 ∧ z = nI c) : f_X1_has x z = false := by
  unfold f_X1_has
  rw [show (64 : Int32) = nI 64 from rfl, within_no (by decide) h]; rfl
theorem pv_twice {S : MS} {k i : Nat} {x y : Int64} : pv (pv S k i x) k i y = pv S k i y := by
  unfold pv
  refine Prod.ext rfl ?_
  funext a b
  show upL (upL S.2 k i x) k i y a b = upL S.2 k i y a b
  unfold upL vp_updL
  by_cases h : a = k
  · simp only [if_pos h]
    by_cases h2 : b = i <;> simp [h2]
  · simp [h]
theorem ground_eq (b : Int32) : f_X1_isGround b = ground b := by
  unfold f_X1_isGround ground
  by_cases h1 : b = 46 <;> by_cases h2 : b = 35 <;> simp [h1, h2]
set_option maxRecDepth 20000 in
theorem ggX1_widthOf_X5_at : GoodIn wsX1_widthOf wsX5_at := goodIn_r _ [5, 6, 7, 12, 13] (by decide +kernel) (by decide +kernel)
set_option maxRecDepth 20000 in
theorem gX1_widthOf_X5_at : GoodIn wsX1_widthOf (wsV RX1 37 RX5 yX5_at wsX5_at) := goodIn_app (goodIn_of _ (by decide +kernel)) ggX1_widthOf_X5_at
set_option maxRecDepth 20000 in
theorem ggX1_widthOf_X1_isGround : GoodIn wsX1_widthOf wsX1_isGround := goodIn_r _ [11] (by decide +kernel) (by decide +kernel)
set_option maxRecDepth 20000 in
theorem gX1_widthOf_X1_isGround : GoodIn wsX1_widthOf (va_wsS RX1 90 yX1_isGround wsX1_isGround) := goodIn_app (goodIn_of _ (by decide +kernel)) ggX1_widthOf_X1_isGround
theorem dX1_widthOf_0 : decode cX1_widthOf 0 = .ok (.iconst 0, 1) := by decide +kernel
theorem dX1_widthOf_1 : decode cX1_widthOf 1 = .ok (.istore_n 1, 1) := by decide +kernel
theorem dX1_widthOf_2 : decode cX1_widthOf 2 = .ok (.iload_n 1, 1) := by decide +kernel
theorem dX1_widthOf_3 : decode cX1_widthOf 3 = .ok (.bipush 8, 2) := by decide +kernel
theorem dX1_widthOf_5 : decode cX1_widthOf 5 = .ok (.if_icmp .ge 20, 3) := by decide +kernel
theorem dX1_widthOf_8 : decode cX1_widthOf 8 = .ok (.aload_n 0, 1) := by decide +kernel
theorem dX1_widthOf_9 : decode cX1_widthOf 9 = .ok (.iload_n 1, 1) := by decide +kernel
theorem dX1_widthOf_10 : decode cX1_widthOf 10 = .ok (.invokevirtual 37, 3) := by decide +kernel
theorem dX1_widthOf_13 : decode cX1_widthOf 13 = .ok (.invokestatic 90, 3) := by decide +kernel
theorem dX1_widthOf_16 : decode cX1_widthOf 16 = .ok (.ifCond .eq 9, 3) := by decide +kernel
theorem dX1_widthOf_19 : decode cX1_widthOf 19 = .ok (.iinc 1 1, 3) := by decide +kernel
theorem dX1_widthOf_22 : decode cX1_widthOf 22 = .ok (.goto (-20), 3) := by decide +kernel
theorem dX1_widthOf_25 : decode cX1_widthOf 25 = .ok (.iload_n 1, 1) := by decide +kernel
theorem dX1_widthOf_26 : decode cX1_widthOf 26 = .ok (.ireturn, 1) := by decide +kernel
set_option maxRecDepth 100000 in
theorem r_X1_widthOf_0 {X : Bn} (C : Cx X cX1_widthOf 2 RX1 wsX1_widthOf 1 21) (ad : Nat → Nat) (S : MS) (h : At X 2 (cW X.E ad S) 2 [(0, .ref (ad 3)), (1, .int 0)] []) : At X 2 (cW X.E ad S) 0 [(0, .ref (ad 3))] [] := by
  refine at_iconst C dX1_widthOf_0 (v := 0) rfl ?_
  refine at_istore_n C dX1_widthOf_1 rfl (by decide) (lv' := [(1, .int 0), (0, .ref (ad 3))]) rfl ?_
  refine at_lv [1, 0] rfl ?_
  exact h
set_option maxRecDepth 100000 in
theorem r_X1_widthOf_2 {X : Bn} (C : Cx X cX1_widthOf 2 RX1 wsX1_widthOf 1 21) (ad : Nat → Nat) (S : MS) (x1 : Int32) (h : ((8 ≤ x1) → (Ends X (some .int) (some (.int x1)) (cW X.E ad S))) ∧ (¬ 8 ≤ x1 → ((((f_X1_isGround (f_X5_at S 1 x1)) = true) → (At X 2 (cW X.E ad S) 2 [(0, .ref (ad 3)), (1, .int (x1 + 1))] [])) ∧ ((f_X1_isGround (f_X5_at S 1 x1)) = false → (Ends X (some .int) (some (.int x1)) (cW X.E ad S)))))) : At X 2 (cW X.E ad S) 2 [(0, .ref (ad 3)), (1, .int x1)] [] := by
  refine at_iload_n C dX1_widthOf_2 rfl (j := 1) rfl ?_
  refine at_bipush C dX1_widthOf_3 (v := 8) rfl ?_
  refine at_icmp_ge C dX1_widthOf_5 (tgt := 25) (by decide) (fun hc0 => ?_) (fun hc0 => ?_)
  · replace h := h.1 hc0
    refine at_iload_n C dX1_widthOf_25 rfl (j := 1) rfl ?_
    exact at_iret C dX1_widthOf_26 h
  · replace h := h.2 hc0
    refine at_aload_n C dX1_widthOf_8 rfl (j := 0) rfl ?_
    refine at_iload_n C dX1_widthOf_9 rfl (j := 1) rfl ?_
    refine at_cV1 C 1 (e_X5_at X.l X.D X.E X.a1 X.a2 ad S 1 (by decide) x1) gX1_widthOf_X5_at rfl (by decide +kernel) ⟨rfl, rfl⟩ rfl rfl rfl 3 cW_c3 rfl dX1_widthOf_10 ?_
    refine at_cS0 C 1 (c_X1_isGround X.l X.D X.E X.a1 X.a2 (f_X5_at S 1 x1)) gX1_widthOf_X1_isGround rfl (by decide +kernel) ⟨rfl, rfl⟩ rfl rfl rfl dX1_widthOf_13 ?_
    refine at_ifB_eq C dX1_widthOf_16 (tgt := 25) (by decide) (fun hc1 => ?_) (fun hc1 => ?_)
    · replace h := h.2 hc1
      refine at_iload_n C dX1_widthOf_25 rfl (j := 1) rfl ?_
      exact at_iret C dX1_widthOf_26 h
    · replace h := h.1 hc1
      refine at_iinc C dX1_widthOf_19 (j := 1) (v := x1 + 1) rfl rfl (by decide) (lv' := [(1, .int (x1 + 1)), (0, .ref (ad 3))]) rfl ?_
      refine at_goto C dX1_widthOf_22 (tgt := 2) (by decide) ?_
      refine at_lv [1, 0] rfl ?_
      exact h
theorem c_X1_widthOf (ad : Nat → Nat) (S : MS) {n : Nat} (hn : n ≤ 71) (e3 : S.1 3 0 = nI n) (l : Launch) (D : va_G) (E : Nat → ClassId) (a1 a2 : Nat) : Fn l D E a1 a2 yX1_widthOf wsX1_widthOf 1 21 [.ref (ad 3)] (cW E ad S) (some (.int (nI (widH (hxv (S.1 1) 0 n))))) (cW E ad S) := by
  refine Fn.of (cc := cX1_widthOf) (maxL := 2) (ret := (some .int)) (own := RX1) (by decide) rfl rfl (sameC _ _ _ _) (Nat.le_of_ble_eq_true rfl) (fun X q1 q2 q3 q4 q5 C hE => ?_)
  subst q1 q2 q3 q4 q5
  have hat : ∀ p, p < 2 ^ 31 → f_X5_at S 1 (nI p) = hxv (S.1 1) 0 n p := fun p hp => at_eq (k := 1) hn e3 hp
  generalize hxv (S.1 1) 0 n = hx at hE hat
  refine r_X1_widthOf_0 C ad S ?_
  have a : ∀ (k i : Nat), i + k = 8 → i + lead hx k i = widH hx → At X 2 (cW X.E ad S) 2 [(0, .ref (ad 3)), (1, .int (nI i))] [] := by
    intro k
    induction k with
    | zero =>
      intro i hi e
      have : i = 8 := by omega
      subst this
      rw [← e] at hE
      exact r_X1_widthOf_2 C ad S (nI 8) ⟨fun _ => hE, fun q => nle_no q⟩
    | succ k ih =>
      intro i hi e
      refine r_X1_widthOf_2 C ad S (nI i) ⟨fun q => nlt_no (a := i) (b := 8) (by decide) (by omega) q, fun _ => ?_⟩
      rw [hat i (by omega), ground_eq]
      rw [lead] at e
      refine ⟨fun z => ?_, fun z => ?_⟩
      · rw [if_pos z] at e
        rw [nI_1]
        exact ih (i + 1) (by omega) (by omega)
      · rw [if_neg (by rw [z]; decide)] at e
        rw [← e] at hE
        exact hE
  exact a 8 0 rfl (Nat.zero_add _)
set_option maxRecDepth 20000 in
theorem ggX1_findFault_X5_at : GoodIn wsX1_findFault wsX5_at := goodIn_r _ [6, 7, 8, 13, 14] (by decide +kernel) (by decide +kernel)
set_option maxRecDepth 20000 in
theorem gX1_findFault_X5_at : GoodIn wsX1_findFault (wsV RX1 37 RX5 yX5_at wsX5_at) := goodIn_app (goodIn_of _ (by decide +kernel)) ggX1_findFault_X5_at
set_option maxRecDepth 20000 in
theorem ggX1_findFault_X1_isGround : GoodIn wsX1_findFault wsX1_isGround := goodIn_r _ [12] (by decide +kernel) (by decide +kernel)
set_option maxRecDepth 20000 in
theorem gX1_findFault_X1_isGround : GoodIn wsX1_findFault (va_wsS RX1 90 yX1_isGround wsX1_isGround) := goodIn_app (goodIn_of _ (by decide +kernel)) ggX1_findFault_X1_isGround
theorem dX1_findFault_0 : decode cX1_findFault 0 = .ok (.aload_n 0, 1) := by decide +kernel
theorem dX1_findFault_1 : decode cX1_findFault 1 = .ok (.getfield 93, 3) := by decide +kernel
theorem dX1_findFault_4 : decode cX1_findFault 4 = .ok (.ifCond .ne 5, 3) := by decide +kernel
theorem dX1_findFault_7 : decode cX1_findFault 7 = .ok (.iconst (-1), 1) := by decide +kernel
theorem dX1_findFault_8 : decode cX1_findFault 8 = .ok (.ireturn, 1) := by decide +kernel
theorem dX1_findFault_9 : decode cX1_findFault 9 = .ok (.iload_n 1, 1) := by decide +kernel
theorem dX1_findFault_10 : decode cX1_findFault 10 = .ok (.ifCond .ne 5, 3) := by decide +kernel
theorem dX1_findFault_13 : decode cX1_findFault 13 = .ok (.iconst 0, 1) := by decide +kernel
theorem dX1_findFault_14 : decode cX1_findFault 14 = .ok (.ireturn, 1) := by decide +kernel
theorem dX1_findFault_15 : decode cX1_findFault 15 = .ok (.iconst 0, 1) := by decide +kernel
theorem dX1_findFault_16 : decode cX1_findFault 16 = .ok (.istore_n 2, 1) := by decide +kernel
theorem dX1_findFault_17 : decode cX1_findFault 17 = .ok (.iconst 0, 1) := by decide +kernel
theorem dX1_findFault_18 : decode cX1_findFault 18 = .ok (.istore_n 3, 1) := by decide +kernel
theorem dX1_findFault_19 : decode cX1_findFault 19 = .ok (.iload_n 3, 1) := by decide +kernel
theorem dX1_findFault_20 : decode cX1_findFault 20 = .ok (.bipush 8, 2) := by decide +kernel
theorem dX1_findFault_22 : decode cX1_findFault 22 = .ok (.if_icmp .ge 65, 3) := by decide +kernel
theorem dX1_findFault_25 : decode cX1_findFault 25 = .ok (.iconst 0, 1) := by decide +kernel
theorem dX1_findFault_26 : decode cX1_findFault 26 = .ok (.istore 4, 2) := by decide +kernel
theorem dX1_findFault_28 : decode cX1_findFault 28 = .ok (.iload 4, 2) := by decide +kernel
theorem dX1_findFault_30 : decode cX1_findFault 30 = .ok (.iload_n 1, 1) := by decide +kernel
theorem dX1_findFault_31 : decode cX1_findFault 31 = .ok (.if_icmp .ge 25, 3) := by decide +kernel
theorem dX1_findFault_34 : decode cX1_findFault 34 = .ok (.aload_n 0, 1) := by decide +kernel
theorem dX1_findFault_35 : decode cX1_findFault 35 = .ok (.iload_n 2, 1) := by decide +kernel
theorem dX1_findFault_36 : decode cX1_findFault 36 = .ok (.invokevirtual 37, 3) := by decide +kernel
theorem dX1_findFault_39 : decode cX1_findFault 39 = .ok (.invokestatic 90, 3) := by decide +kernel
theorem dX1_findFault_42 : decode cX1_findFault 42 = .ok (.ifCond .ne 5, 3) := by decide +kernel
theorem dX1_findFault_45 : decode cX1_findFault 45 = .ok (.iload_n 2, 1) := by decide +kernel
theorem dX1_findFault_46 : decode cX1_findFault 46 = .ok (.ireturn, 1) := by decide +kernel
theorem dX1_findFault_47 : decode cX1_findFault 47 = .ok (.iinc 2 1, 3) := by decide +kernel
theorem dX1_findFault_50 : decode cX1_findFault 50 = .ok (.iinc 4 1, 3) := by decide +kernel
theorem dX1_findFault_53 : decode cX1_findFault 53 = .ok (.goto (-25), 3) := by decide +kernel
theorem dX1_findFault_56 : decode cX1_findFault 56 = .ok (.iload_n 2, 1) := by decide +kernel
theorem dX1_findFault_57 : decode cX1_findFault 57 = .ok (.aload_n 0, 1) := by decide +kernel
theorem dX1_findFault_58 : decode cX1_findFault 58 = .ok (.getfield 93, 3) := by decide +kernel
theorem dX1_findFault_61 : decode cX1_findFault 61 = .ok (.if_icmp .ne 5, 3) := by decide +kernel
theorem dX1_findFault_64 : decode cX1_findFault 64 = .ok (.iconst (-1), 1) := by decide +kernel
theorem dX1_findFault_65 : decode cX1_findFault 65 = .ok (.ireturn, 1) := by decide +kernel
theorem dX1_findFault_66 : decode cX1_findFault 66 = .ok (.aload_n 0, 1) := by decide +kernel
theorem dX1_findFault_67 : decode cX1_findFault 67 = .ok (.iload_n 2, 1) := by decide +kernel
theorem dX1_findFault_68 : decode cX1_findFault 68 = .ok (.invokevirtual 37, 3) := by decide +kernel
theorem dX1_findFault_71 : decode cX1_findFault 71 = .ok (.bipush 59, 2) := by decide +kernel
theorem dX1_findFault_73 : decode cX1_findFault 73 = .ok (.if_icmp .eq 5, 3) := by decide +kernel
theorem dX1_findFault_76 : decode cX1_findFault 76 = .ok (.iload_n 2, 1) := by decide +kernel
theorem dX1_findFault_77 : decode cX1_findFault 77 = .ok (.ireturn, 1) := by decide +kernel
theorem dX1_findFault_78 : decode cX1_findFault 78 = .ok (.iinc 2 1, 3) := by decide +kernel
theorem dX1_findFault_81 : decode cX1_findFault 81 = .ok (.iinc 3 1, 3) := by decide +kernel
theorem dX1_findFault_84 : decode cX1_findFault 84 = .ok (.goto (-65), 3) := by decide +kernel
theorem dX1_findFault_87 : decode cX1_findFault 87 = .ok (.iload_n 2, 1) := by decide +kernel
theorem dX1_findFault_88 : decode cX1_findFault 88 = .ok (.ireturn, 1) := by decide +kernel
theorem iw_X1_findFault_X5 : ∀ w ∈ u_ws RX5 TX5 2, w ∈ wsX1_findFault := by decide +kernel
theorem lk_X1_findFault_0 : Cond.fieldLink RX1 93 (TX5 1).1 (TX5 1).2.1 (TX5 1).2.2.1 ∈ wsX1_findFault := by decide +kernel
set_option maxRecDepth 100000 in
theorem r_X1_findFault_0 {X : Bn} (C : Cx X cX1_findFault 5 RX1 wsX1_findFault 1 21) (ad : Nat → Nat) (S : MS) (x1 : Int32) (h : ((S.1 3 0 = 0) → (Ends X (some .int) (some (.int (-1))) (cW X.E ad S))) ∧ (¬ S.1 3 0 = 0 → (((x1 = 0) → (Ends X (some .int) (some (.int 0)) (cW X.E ad S))) ∧ (¬ x1 = 0 → (At X 5 (cW X.E ad S) 19 [(0, .ref (ad 3)), (1, .int x1), (2, .int 0), (3, .int 0)] []))))) : At X 5 (cW X.E ad S) 0 [(0, .ref (ad 3)), (1, .int x1)] [] := by
  refine at_aload_n C dX1_findFault_0 rfl (j := 0) rfl ?_
  refine at_get C (K := RX5) (T := TX5) (N := 2) (ci := 4) (v := .int (S.1 3 0)) iw_X1_findFault_X5 3 cW_c3 rfl 1 (by decide) lk_X1_findFault_0 rfl dX1_findFault_1 ?_
  refine at_if_ne C dX1_findFault_4 (tgt := 9) (by decide) (fun hc0 => ?_) (fun hc0 => ?_)
  · replace h := h.2 hc0
    refine at_iload_n C dX1_findFault_9 rfl (j := 1) rfl ?_
    refine at_if_ne C dX1_findFault_10 (tgt := 15) (by decide) (fun hc1 => ?_) (fun hc1 => ?_)
    · replace h := h.2 hc1
      refine at_iconst C dX1_findFault_15 (v := 0) rfl ?_
      refine at_istore_n C dX1_findFault_16 rfl (by decide) (lv' := [(2, .int 0), (0, .ref (ad 3)), (1, .int x1)]) rfl ?_
      refine at_iconst C dX1_findFault_17 (v := 0) rfl ?_
      refine at_istore_n C dX1_findFault_18 rfl (by decide) (lv' := [(3, .int 0), (2, .int 0), (0, .ref (ad 3)), (1, .int x1)]) rfl ?_
      refine at_lv [2, 3, 1, 0] rfl ?_
      exact h
    · replace h := h.1 hc1
      refine at_iconst C dX1_findFault_13 (v := 0) rfl ?_
      exact at_iret C dX1_findFault_14 h
  · replace h := h.1 hc0
    refine at_iconst C dX1_findFault_7 (v := (-1)) rfl ?_
    exact at_iret C dX1_findFault_8 h
set_option maxRecDepth 100000 in
theorem r_X1_findFault_19 {X : Bn} (C : Cx X cX1_findFault 5 RX1 wsX1_findFault 1 21) (ad : Nat → Nat) (S : MS) (x1 : Int32) (x2 : Int32) (x3 : Int32) (h : ((8 ≤ x3) → (Ends X (some .int) (some (.int x2)) (cW X.E ad S))) ∧ (¬ 8 ≤ x3 → (At X 5 (cW X.E ad S) 28 [(0, .ref (ad 3)), (1, .int x1), (2, .int x2), (3, .int x3), (4, .int 0)] []))) : At X 5 (cW X.E ad S) 19 [(0, .ref (ad 3)), (1, .int x1), (2, .int x2), (3, .int x3)] [] := by
  refine at_iload_n C dX1_findFault_19 rfl (j := 3) rfl ?_
  refine at_bipush C dX1_findFault_20 (v := 8) rfl ?_
  refine at_icmp_ge C dX1_findFault_22 (tgt := 87) (by decide) (fun hc2 => ?_) (fun hc2 => ?_)
  · replace h := h.1 hc2
    refine at_iload_n C dX1_findFault_87 rfl (j := 2) rfl ?_
    exact at_iret C dX1_findFault_88 h
  · replace h := h.2 hc2
    refine at_iconst C dX1_findFault_25 (v := 0) rfl ?_
    refine at_istore C dX1_findFault_26 (by decide) (lv' := [(4, .int 0), (0, .ref (ad 3)), (1, .int x1), (2, .int x2), (3, .int x3)]) rfl ?_
    refine at_lv [1, 2, 3, 4, 0] rfl ?_
    exact h
set_option maxRecDepth 100000 in
theorem r_X1_findFault_28 {X : Bn} (C : Cx X cX1_findFault 5 RX1 wsX1_findFault 1 21) (ad : Nat → Nat) (S : MS) (x1 : Int32) (x2 : Int32) (x3 : Int32) (x4 : Int32) (h : ((x1 ≤ x4) → (((x2 = S.1 3 0) → (Ends X (some .int) (some (.int (-1))) (cW X.E ad S))) ∧ (¬ x2 = S.1 3 0 → (((f_X5_at S 1 x2 = 59) → (At X 5 (cW X.E ad S) 19 [(0, .ref (ad 3)), (1, .int x1), (2, .int (x2 + 1)), (3, .int (x3 + 1))] [])) ∧ (¬ f_X5_at S 1 x2 = 59 → (Ends X (some .int) (some (.int x2)) (cW X.E ad S))))))) ∧ (¬ x1 ≤ x4 → ((((f_X1_isGround (f_X5_at S 1 x2)) = true) → (At X 5 (cW X.E ad S) 28 [(0, .ref (ad 3)), (1, .int x1), (2, .int (x2 + 1)), (3, .int x3), (4, .int (x4 + 1))] [])) ∧ ((f_X1_isGround (f_X5_at S 1 x2)) = false → (Ends X (some .int) (some (.int x2)) (cW X.E ad S)))))) : At X 5 (cW X.E ad S) 28 [(0, .ref (ad 3)), (1, .int x1), (2, .int x2), (3, .int x3), (4, .int x4)] [] := by
  refine at_iload C dX1_findFault_28 (j := 4) rfl ?_
  refine at_iload_n C dX1_findFault_30 rfl (j := 1) rfl ?_
  refine at_icmp_ge C dX1_findFault_31 (tgt := 56) (by decide) (fun hc3 => ?_) (fun hc3 => ?_)
  · replace h := h.1 hc3
    refine at_iload_n C dX1_findFault_56 rfl (j := 2) rfl ?_
    refine at_aload_n C dX1_findFault_57 rfl (j := 0) rfl ?_
    refine at_get C (K := RX5) (T := TX5) (N := 2) (ci := 4) (v := .int (S.1 3 0)) iw_X1_findFault_X5 3 cW_c3 rfl 1 (by decide) lk_X1_findFault_0 rfl dX1_findFault_58 ?_
    refine at_icmp_ne C dX1_findFault_61 (tgt := 66) (by decide) (fun hc4 => ?_) (fun hc4 => ?_)
    · replace h := h.2 hc4
      refine at_aload_n C dX1_findFault_66 rfl (j := 0) rfl ?_
      refine at_iload_n C dX1_findFault_67 rfl (j := 2) rfl ?_
      refine at_cV1 C 1 (e_X5_at X.l X.D X.E X.a1 X.a2 ad S 1 (by decide) x2) gX1_findFault_X5_at rfl (by decide +kernel) ⟨rfl, rfl⟩ rfl rfl rfl 3 cW_c3 rfl dX1_findFault_68 ?_
      refine at_bipush C dX1_findFault_71 (v := 59) rfl ?_
      refine at_icmp_eq C dX1_findFault_73 (tgt := 78) (by decide) (fun hc5 => ?_) (fun hc5 => ?_)
      · replace h := h.1 hc5
        refine at_iinc C dX1_findFault_78 (j := 2) (v := x2 + 1) rfl rfl (by decide) (lv' := [(2, .int (x2 + 1)), (0, .ref (ad 3)), (1, .int x1), (3, .int x3), (4, .int x4)]) rfl ?_
        refine at_iinc C dX1_findFault_81 (j := 3) (v := x3 + 1) rfl rfl (by decide) (lv' := [(3, .int (x3 + 1)), (2, .int (x2 + 1)), (0, .ref (ad 3)), (1, .int x1), (4, .int x4)]) rfl ?_
        refine at_goto C dX1_findFault_84 (tgt := 19) (by decide) ?_
        refine at_lv [2, 3, 1, 0] rfl ?_
        exact h
      · replace h := h.2 hc5
        refine at_iload_n C dX1_findFault_76 rfl (j := 2) rfl ?_
        exact at_iret C dX1_findFault_77 h
    · replace h := h.1 hc4
      refine at_iconst C dX1_findFault_64 (v := (-1)) rfl ?_
      exact at_iret C dX1_findFault_65 h
  · replace h := h.2 hc3
    refine at_aload_n C dX1_findFault_34 rfl (j := 0) rfl ?_
    refine at_iload_n C dX1_findFault_35 rfl (j := 2) rfl ?_
    refine at_cV1 C 1 (e_X5_at X.l X.D X.E X.a1 X.a2 ad S 1 (by decide) x2) gX1_findFault_X5_at rfl (by decide +kernel) ⟨rfl, rfl⟩ rfl rfl rfl 3 cW_c3 rfl dX1_findFault_36 ?_
    refine at_cS0 C 1 (c_X1_isGround X.l X.D X.E X.a1 X.a2 (f_X5_at S 1 x2)) gX1_findFault_X1_isGround rfl (by decide +kernel) ⟨rfl, rfl⟩ rfl rfl rfl dX1_findFault_39 ?_
    refine at_ifB_ne C dX1_findFault_42 (tgt := 47) (by decide) (fun hc6 => ?_) (fun hc6 => ?_)
    · replace h := h.1 hc6
      refine at_iinc C dX1_findFault_47 (j := 2) (v := x2 + 1) rfl rfl (by decide) (lv' := [(2, .int (x2 + 1)), (0, .ref (ad 3)), (1, .int x1), (3, .int x3), (4, .int x4)]) rfl ?_
      refine at_iinc C dX1_findFault_50 (j := 4) (v := x4 + 1) rfl rfl (by decide) (lv' := [(4, .int (x4 + 1)), (2, .int (x2 + 1)), (0, .ref (ad 3)), (1, .int x1), (3, .int x3)]) rfl ?_
      refine at_goto C dX1_findFault_53 (tgt := 28) (by decide) ?_
      refine at_lv [2, 3, 1, 4, 0] rfl ?_
      exact h
    · replace h := h.2 hc6
      refine at_iload_n C dX1_findFault_45 rfl (j := 2) rfl ?_
      exact at_iret C dX1_findFault_46 h
theorem c_X1_findFault (ad : Nat → Nat) (S : MS) {n : Nat} (hn : n ≤ 71) (e3 : S.1 3 0 = nI n) (l : Launch) (D : va_G) (E : Nat → ClassId) (a1 a2 : Nat) : Fn l D E a1 a2 yX1_findFault wsX1_findFault 1 21 [.ref (ad 3), .int (nI (widH (hxv (S.1 1) 0 n)))] (cW E ad S) (some (.int (faultH (hxv (S.1 1) 0 n) n))) (cW E ad S) := by
  refine Fn.of (cc := cX1_findFault) (maxL := 5) (ret := (some .int)) (own := RX1) (by decide) rfl rfl (sameC _ _ _ _) (Nat.le_of_ble_eq_true rfl) (fun X q1 q2 q3 q4 q5 C hE => ?_)
  subst q1 q2 q3 q4 q5
  have hat : ∀ p, p < 2 ^ 31 → f_X5_at S 1 (nI p) = hxv (S.1 1) 0 n p := fun p hp => at_eq (k := 1) hn e3 hp
  have hgn : ∀ p, ground (hxv (S.1 1) 0 n p) = true → p < n := fun p hg => by
    rcases Nat.lt_or_ge p n with q | q
    · exact q
    · rw [hxv_end q] at hg; exact absurd hg (by decide)
  generalize hxv (S.1 1) 0 n = hx at hE hat hgn
  have hw8 : widH hx ≤ 8 := lead_le hx 8 0
  unfold faultH at hE
  generalize widH hx = w at hE hw8
  by_cases h0 : n = 0
  · rw [if_pos h0] at hE
    exact r_X1_findFault_0 C ad S _ ⟨fun _ => hE, fun q => absurd (by rw [e3, h0]; rfl) q⟩
  rw [if_neg h0] at hE
  refine r_X1_findFault_0 C ad S _ ⟨fun q => absurd ((nI_eq (b := 0) (by omega) (by decide)).mp (by rw [← e3]; exact q)) h0, fun _ => ?_⟩
  by_cases hw0 : w = 0
  · rw [if_pos hw0] at hE
    exact ⟨fun _ => hE, fun q => absurd (by rw [hw0]; rfl) q⟩
  rw [if_neg hw0] at hE
  refine ⟨fun q => absurd ((nI_eq (b := 0) (by omega) (by decide)).mp q) hw0, fun _ => ?_⟩
  have inner : ∀ (m j P row : Nat), j + m = w → P < 1000 →
      (lead hx m (P + j) < m → Ends X (some .int) (some (.int (nI (P + j + lead hx m (P + j))))) (cW X.E ad S)) →
      (¬ lead hx m (P + j) < m → At X 5 (cW X.E ad S) 28 [(0, .ref (ad 3)), (1, .int (nI w)), (2, .int (nI (P + w))), (3, .int (nI row)), (4, .int (nI w))] []) →
      At X 5 (cW X.E ad S) 28 [(0, .ref (ad 3)), (1, .int (nI w)), (2, .int (nI (P + j))), (3, .int (nI row)), (4, .int (nI j))] [] := by
    intro m
    induction m with
    | zero =>
      intro j P row hj hP F K
      have : j = w := by omega
      subst this
      exact K (Nat.not_lt_zero _)
    | succ m ih =>
      intro j P row hj hP F K
      refine r_X1_findFault_28 C ad S (nI w) (nI (P + j)) (nI row) (nI j) ⟨fun q => nlt_no (a := j) (b := w) (by omega) (by omega) q, fun _ => ?_⟩
      rw [hat _ (by omega), ground_eq]
      rw [lead] at F K
      refine ⟨fun z => ?_, fun z => ?_⟩
      · rw [if_pos z] at F K
        rw [nI_1, nI_1]
        exact ih (j + 1) P row (by omega) hP (fun q => by rw [show P + (j + 1) + lead hx m (P + (j + 1)) = P + j + (lead hx m (P + j + 1) + 1) from by rw [show P + (j + 1) = P + j + 1 by omega]; omega]; exact F (by rw [show P + (j + 1) = P + j + 1 by omega] at q; omega)) (fun q => K (by rw [show P + (j + 1) = P + j + 1 by omega] at q; omega))
      · rw [if_neg (by rw [z]; decide)] at F
        exact F (by omega)
  have outer : ∀ (f row : Nat), f + row = 8 → fsH hx n w f row = fsH hx n w 8 0 → At X 5 (cW X.E ad S) 19 [(0, .ref (ad 3)), (1, .int (nI w)), (2, .int (nI (row * (w + 1)))), (3, .int (nI row))] [] := by
    intro f
    induction f with
    | zero =>
      intro row hr e
      have : row = 8 := by omega
      subst this
      rw [← e] at hE
      exact r_X1_findFault_19 C ad S _ _ (nI 8) ⟨fun _ => hE, fun q => nle_no q⟩
    | succ f ih =>
      intro row hr e
      refine r_X1_findFault_19 C ad S _ _ (nI row) ⟨fun q => nlt_no (a := row) (b := 8) (by decide) (by omega) q, fun _ => ?_⟩
      have hP : row * (w + 1) ≤ 7 * 9 := Nat.mul_le_mul (by omega) (by omega)
      rw [fsH] at e
      generalize hPP : row * (w + 1) = P at e hP
      have := inner w 0 P row (Nat.zero_add _) (by omega) (fun q => ?_) (fun q => ?_)
      · exact this
      · rw [Nat.add_zero] at q ⊢
        rw [if_pos q] at e
        rw [← e] at hE; exact hE
      · rw [Nat.add_zero] at q
        rw [if_neg q] at e
        have hl : lead hx w P = w := by have := lead_le hx w P; omega
        have hin : P + w ≤ n := by
          have := hgn (P + (w - 1)) (lead_ground hx w P (w - 1) (by omega))
          omega
        refine r_X1_findFault_28 C ad S _ _ (nI row) (nI w) ⟨fun _ => ⟨fun q2 => ?_, fun q2 => ?_⟩, fun q => nle_no q⟩
        · rw [e3] at q2
          have := (nI_eq (by omega) (by omega)).mp q2
          rw [if_pos (by omega)] at e
          rw [← e] at hE; exact hE
        · have hq : ¬ P + w = n := fun z => q2 (by rw [e3, ← z])
          rw [if_neg (by omega)] at e
          rw [hat _ (by omega)]
          refine ⟨fun z => ?_, fun z => ?_⟩
          · rw [if_pos z] at e
            rw [nI_1, nI_1, show P + w + 1 = (row + 1) * (w + 1) from by rw [← hPP, Nat.add_mul]; omega]
            exact ih (row + 1) (by omega) e
          · rw [if_neg z] at e
            rw [← e] at hE; exact hE
  have := outer 8 0 rfl rfl
  rw [Nat.zero_mul] at this
  exact this
set_option maxRecDepth 20000 in
theorem ggX1_load_X1_widthOf : GoodIn wsX1_load wsX1_widthOf := goodIn_r _ [6, 7, 8, 9, 10, 11, 12, 13, 14, 15, 5, 16, 27, 28] (by decide +kernel) (by decide +kernel)
set_option maxRecDepth 20000 in
theorem gX1_load_X1_widthOf : GoodIn wsX1_load (va_wsS RX1 25 yX1_widthOf wsX1_widthOf) := goodIn_app (goodIn_of _ (by decide +kernel)) ggX1_load_X1_widthOf
set_option maxRecDepth 20000 in
theorem ggX1_load_X1_findFault : GoodIn wsX1_load wsX1_findFault := goodIn_r _ [19, 20, 7, 8, 9, 10, 11, 12, 13, 14, 15, 5, 16, 27, 28] (by decide +kernel) (by decide +kernel)
set_option maxRecDepth 20000 in
theorem gX1_load_X1_findFault : GoodIn wsX1_load (va_wsS RX1 29 yX1_findFault wsX1_findFault) := goodIn_app (goodIn_of _ (by decide +kernel)) ggX1_load_X1_findFault
set_option maxRecDepth 20000 in
theorem ggX1_load_X5_at : GoodIn wsX1_load wsX5_at := goodIn_r _ [11, 12, 13, 27, 28] (by decide +kernel) (by decide +kernel)
set_option maxRecDepth 20000 in
theorem gX1_load_X5_at : GoodIn wsX1_load (wsV RX1 37 RX5 yX5_at wsX5_at) := goodIn_app (goodIn_of _ (by decide +kernel)) ggX1_load_X5_at
theorem dX1_load_0 : decode cX1_load 0 = .ok (.aload_n 1, 1) := by decide +kernel
theorem dX1_load_1 : decode cX1_load 1 = .ok (.invokestatic 25, 3) := by decide +kernel
theorem dX1_load_4 : decode cX1_load 4 = .ok (.istore_n 2, 1) := by decide +kernel
theorem dX1_load_5 : decode cX1_load 5 = .ok (.aload_n 0, 1) := by decide +kernel
theorem dX1_load_6 : decode cX1_load 6 = .ok (.aload_n 1, 1) := by decide +kernel
theorem dX1_load_7 : decode cX1_load 7 = .ok (.iload_n 2, 1) := by decide +kernel
theorem dX1_load_8 : decode cX1_load 8 = .ok (.invokestatic 29, 3) := by decide +kernel
theorem dX1_load_11 : decode cX1_load 11 = .ok (.putfield 15, 3) := by decide +kernel
theorem dX1_load_14 : decode cX1_load 14 = .ok (.aload_n 0, 1) := by decide +kernel
theorem dX1_load_15 : decode cX1_load 15 = .ok (.lconst 0, 1) := by decide +kernel
theorem dX1_load_16 : decode cX1_load 16 = .ok (.putfield 33, 3) := by decide +kernel
theorem dX1_load_19 : decode cX1_load 19 = .ok (.aload_n 0, 1) := by decide +kernel
theorem dX1_load_20 : decode cX1_load 20 = .ok (.getfield 15, 3) := by decide +kernel
theorem dX1_load_23 : decode cX1_load 23 = .ok (.iconst (-1), 1) := by decide +kernel
theorem dX1_load_24 : decode cX1_load 24 = .ok (.if_icmp .eq 4, 3) := by decide +kernel
theorem dX1_load_27 : decode cX1_load 27 = .ok (.return_, 1) := by decide +kernel
theorem dX1_load_28 : decode cX1_load 28 = .ok (.iconst 0, 1) := by decide +kernel
theorem dX1_load_29 : decode cX1_load 29 = .ok (.istore_n 3, 1) := by decide +kernel
theorem dX1_load_30 : decode cX1_load 30 = .ok (.iload_n 3, 1) := by decide +kernel
theorem dX1_load_31 : decode cX1_load 31 = .ok (.bipush 8, 2) := by decide +kernel
theorem dX1_load_33 : decode cX1_load 33 = .ok (.if_icmp .ge 59, 3) := by decide +kernel
theorem dX1_load_36 : decode cX1_load 36 = .ok (.iconst 0, 1) := by decide +kernel
theorem dX1_load_37 : decode cX1_load 37 = .ok (.istore 4, 2) := by decide +kernel
theorem dX1_load_39 : decode cX1_load 39 = .ok (.iload 4, 2) := by decide +kernel
theorem dX1_load_41 : decode cX1_load 41 = .ok (.iload_n 2, 1) := by decide +kernel
theorem dX1_load_42 : decode cX1_load 42 = .ok (.if_icmp .ge 44, 3) := by decide +kernel
theorem dX1_load_45 : decode cX1_load 45 = .ok (.aload_n 1, 1) := by decide +kernel
theorem dX1_load_46 : decode cX1_load 46 = .ok (.iload_n 3, 1) := by decide +kernel
theorem dX1_load_47 : decode cX1_load 47 = .ok (.iload_n 2, 1) := by decide +kernel
theorem dX1_load_48 : decode cX1_load 48 = .ok (.iconst 1, 1) := by decide +kernel
theorem dX1_load_49 : decode cX1_load 49 = .ok (.iadd, 1) := by decide +kernel
theorem dX1_load_50 : decode cX1_load 50 = .ok (.imul, 1) := by decide +kernel
theorem dX1_load_51 : decode cX1_load 51 = .ok (.iload 4, 2) := by decide +kernel
theorem dX1_load_53 : decode cX1_load 53 = .ok (.iadd, 1) := by decide +kernel
theorem dX1_load_54 : decode cX1_load 54 = .ok (.invokevirtual 37, 3) := by decide +kernel
theorem dX1_load_57 : decode cX1_load 57 = .ok (.bipush 46, 2) := by decide +kernel
theorem dX1_load_59 : decode cX1_load 59 = .ok (.if_icmp .ne 21, 3) := by decide +kernel
theorem dX1_load_62 : decode cX1_load 62 = .ok (.aload_n 0, 1) := by decide +kernel
theorem dX1_load_63 : decode cX1_load 63 = .ok (.dup, 1) := by decide +kernel
theorem dX1_load_64 : decode cX1_load 64 = .ok (.getfield 33, 3) := by decide +kernel
theorem dX1_load_67 : decode cX1_load 67 = .ok (.lconst 1, 1) := by decide +kernel
theorem dX1_load_68 : decode cX1_load 68 = .ok (.bipush 8, 2) := by decide +kernel
theorem dX1_load_70 : decode cX1_load 70 = .ok (.iload_n 3, 1) := by decide +kernel
theorem dX1_load_71 : decode cX1_load 71 = .ok (.imul, 1) := by decide +kernel
theorem dX1_load_72 : decode cX1_load 72 = .ok (.iload 4, 2) := by decide +kernel
theorem dX1_load_74 : decode cX1_load 74 = .ok (.iadd, 1) := by decide +kernel
theorem dX1_load_75 : decode cX1_load 75 = .ok (.lshl, 1) := by decide +kernel
theorem dX1_load_76 : decode cX1_load 76 = .ok (.lor, 1) := by decide +kernel
theorem dX1_load_77 : decode cX1_load 77 = .ok (.putfield 33, 3) := by decide +kernel
theorem dX1_load_80 : decode cX1_load 80 = .ok (.iinc 4 1, 3) := by decide +kernel
theorem dX1_load_83 : decode cX1_load 83 = .ok (.goto (-44), 3) := by decide +kernel
theorem dX1_load_86 : decode cX1_load 86 = .ok (.iinc 3 1, 3) := by decide +kernel
theorem dX1_load_89 : decode cX1_load 89 = .ok (.goto (-59), 3) := by decide +kernel
theorem dX1_load_92 : decode cX1_load 92 = .ok (.return_, 1) := by decide +kernel
theorem iw_X1_load_X1 : ∀ w ∈ u_ws RX1 TX1 6, w ∈ wsX1_load := by decide +kernel
theorem lk_X1_load_0 : Cond.fieldLink RX1 15 (TX1 2).1 (TX1 2).2.1 (TX1 2).2.2.1 ∈ wsX1_load := by decide +kernel
theorem lk_X1_load_1 : Cond.fieldLink RX1 33 (TX1 1).1 (TX1 1).2.1 (TX1 1).2.2.1 ∈ wsX1_load := by decide +kernel
set_option maxRecDepth 100000 in
theorem r_X1_load_0 {X : Bn} (C : Cx X cX1_load 5 RX1 wsX1_load 2 45) (ad : Nat → Nat) (S : MS) (h : ∃ (r1 : Int32), (Fn X.l X.D X.E X.a1 X.a2 yX1_widthOf wsX1_widthOf 1 21 [.ref (ad 3)] (cW X.E ad S) (some (.int r1)) (cW X.E ad S)) ∧ (∃ (r2 : Int32), (Fn X.l X.D X.E X.a1 X.a2 yX1_findFault wsX1_findFault 1 21 [.ref (ad 3), .int r1] (cW X.E ad S) (some (.int r2)) (cW X.E ad S)) ∧ (((r2 = (-1)) → (At X 5 (cW X.E ad (pv (pg S 8 0 r2) 1 0 0)) 30 [(0, .ref (ad 8)), (1, .ref (ad 3)), (2, .int r1), (3, .int 0)] [])) ∧ (¬ r2 = (-1) → (Ends X (none) none (cW X.E ad (pv (pg S 8 0 r2) 1 0 0))))))) : At X 5 (cW X.E ad S) 0 [(0, .ref (ad 8)), (1, .ref (ad 3))] [] := by
  refine at_aload_n C dX1_load_0 rfl (j := 1) rfl ?_
  obtain ⟨r1, hF1, h⟩ := h
  refine at_cS1 C 1 hF1 gX1_load_X1_widthOf rfl (by decide +kernel) ⟨rfl, rfl⟩ rfl rfl rfl dX1_load_1 ?_
  refine at_istore_n C dX1_load_4 rfl (by decide) (lv' := [(2, .int r1), (0, .ref (ad 8)), (1, .ref (ad 3))]) rfl ?_
  refine at_aload_n C dX1_load_5 rfl (j := 1) rfl ?_
  refine at_aload_n C dX1_load_6 rfl (j := 2) rfl ?_
  refine at_iload_n C dX1_load_7 rfl (j := 0) rfl ?_
  obtain ⟨r2, hF2, h⟩ := h
  refine at_cS1 C 2 hF2 gX1_load_X1_findFault rfl (by decide +kernel) ⟨rfl, rfl⟩ rfl rfl rfl dX1_load_8 ?_
  refine at_put C (K := RX1) (T := TX1) (N := 6) (ci := 1) (ty := .int) iw_X1_load_X1 tyX1 tyX1_ok nmX1 8 cW_c8 rfl 2 (by decide) lk_X1_load_0 rfl rfl rfl rfl (Nat.le_of_ble_eq_true rfl) cW_f8_2 dX1_load_11 ?_
  refine at_aload_n C dX1_load_14 rfl (j := 1) rfl ?_
  refine at_lconst C dX1_load_15 (v := 0) rfl ?_
  refine at_put C (K := RX1) (T := TX1) (N := 6) (ci := 1) (ty := .long) iw_X1_load_X1 tyX1 tyX1_ok nmX1 8 cW_c8 rfl 1 (by decide) lk_X1_load_1 rfl rfl rfl rfl (Nat.le_of_ble_eq_true rfl) cW_f8_1 dX1_load_16 ?_
  refine at_aload_n C dX1_load_19 rfl (j := 1) rfl ?_
  refine at_get C (K := RX1) (T := TX1) (N := 6) (ci := 1) (v := .int ((pv (pg S 8 0 r2) 1 0 0).1 8 0)) iw_X1_load_X1 8 cW_c8 rfl 2 (by decide) lk_X1_load_0 rfl dX1_load_20 ?_
  refine at_topI ((pv_g).trans (pg_s)) ?_
  refine at_iconst C dX1_load_23 (v := (-1)) rfl ?_
  refine at_icmp_eq C dX1_load_24 (tgt := 28) (by decide) (fun hc0 => ?_) (fun hc0 => ?_)
  · replace h := h.1 hc0
    refine at_iconst C dX1_load_28 (v := 0) rfl ?_
    refine at_istore_n C dX1_load_29 rfl (by decide) (lv' := [(3, .int 0), (2, .int r1), (0, .ref (ad 8)), (1, .ref (ad 3))]) rfl ?_
    refine at_lv [2, 3, 1, 0] rfl ?_
    exact h
  · replace h := h.2 hc0
    exact at_vret C dX1_load_27 h
set_option maxRecDepth 100000 in
theorem r_X1_load_30 {X : Bn} (C : Cx X cX1_load 5 RX1 wsX1_load 2 45) (ad : Nat → Nat) (S : MS) (x2 : Int32) (x3 : Int32) (h : ((8 ≤ x3) → (Ends X (none) none (cW X.E ad S))) ∧ (¬ 8 ≤ x3 → (At X 5 (cW X.E ad S) 39 [(0, .ref (ad 8)), (1, .ref (ad 3)), (2, .int x2), (3, .int x3), (4, .int 0)] []))) : At X 5 (cW X.E ad S) 30 [(0, .ref (ad 8)), (1, .ref (ad 3)), (2, .int x2), (3, .int x3)] [] := by
  refine at_iload_n C dX1_load_30 rfl (j := 3) rfl ?_
  refine at_bipush C dX1_load_31 (v := 8) rfl ?_
  refine at_icmp_ge C dX1_load_33 (tgt := 92) (by decide) (fun hc1 => ?_) (fun hc1 => ?_)
  · replace h := h.1 hc1
    exact at_vret C dX1_load_92 h
  · replace h := h.2 hc1
    refine at_iconst C dX1_load_36 (v := 0) rfl ?_
    refine at_istore C dX1_load_37 (by decide) (lv' := [(4, .int 0), (0, .ref (ad 8)), (1, .ref (ad 3)), (2, .int x2), (3, .int x3)]) rfl ?_
    refine at_lv [1, 2, 3, 4, 0] rfl ?_
    exact h
set_option maxRecDepth 100000 in
theorem r_X1_load_39 {X : Bn} (C : Cx X cX1_load 5 RX1 wsX1_load 2 45) (ad : Nat → Nat) (S : MS) (x2 : Int32) (x3 : Int32) (x4 : Int32) (h : ((x2 ≤ x4) → (At X 5 (cW X.E ad S) 30 [(0, .ref (ad 8)), (1, .ref (ad 3)), (2, .int x2), (3, .int (x3 + 1))] [])) ∧ (¬ x2 ≤ x4 → (At X 5 (cW X.E ad (if f_X5_at S 1 ((x3 * (x2 + 1)) + x4) = 46 then (pv S 1 0 ((S.2 1 0) ||| (lshl 1 ((8 * x3) + x4)))) else S)) 39 [(0, .ref (ad 8)), (1, .ref (ad 3)), (2, .int x2), (3, .int x3), (4, .int (x4 + 1))] []))) : At X 5 (cW X.E ad S) 39 [(0, .ref (ad 8)), (1, .ref (ad 3)), (2, .int x2), (3, .int x3), (4, .int x4)] [] := by
  refine at_iload C dX1_load_39 (j := 4) rfl ?_
  refine at_iload_n C dX1_load_41 rfl (j := 2) rfl ?_
  refine at_icmp_ge C dX1_load_42 (tgt := 86) (by decide) (fun hc2 => ?_) (fun hc2 => ?_)
  · replace h := h.1 hc2
    refine at_iinc C dX1_load_86 (j := 3) (v := x3 + 1) rfl rfl (by decide) (lv' := [(3, .int (x3 + 1)), (0, .ref (ad 8)), (1, .ref (ad 3)), (2, .int x2), (4, .int x4)]) rfl ?_
    refine at_goto C dX1_load_89 (tgt := 30) (by decide) ?_
    refine at_lv [1, 2, 3, 0] rfl ?_
    exact h
  · replace h := h.2 hc2
    refine at_aload_n C dX1_load_45 rfl (j := 1) rfl ?_
    refine at_iload_n C dX1_load_46 rfl (j := 3) rfl ?_
    refine at_iload_n C dX1_load_47 rfl (j := 2) rfl ?_
    refine at_iconst C dX1_load_48 (v := 1) rfl ?_
    refine at_iadd C dX1_load_49 ?_
    refine at_imul C dX1_load_50 ?_
    refine at_iload C dX1_load_51 (j := 4) rfl ?_
    refine at_iadd C dX1_load_53 ?_
    refine at_cV1 C 1 (e_X5_at X.l X.D X.E X.a1 X.a2 ad S 1 (by decide) ((x3 * (x2 + 1)) + x4)) gX1_load_X5_at rfl (by decide +kernel) ⟨rfl, rfl⟩ rfl rfl rfl 3 cW_c3 rfl dX1_load_54 ?_
    refine at_bipush C dX1_load_57 (v := 46) rfl ?_
    have K : At X 5 (cW X.E ad (if f_X5_at S 1 ((x3 * (x2 + 1)) + x4) = 46 then (pv S 1 0 ((S.2 1 0) ||| (lshl 1 ((8 * x3) + x4)))) else S)) 80 [(0, .ref (ad 8)), (1, .ref (ad 3)), (2, .int x2), (3, .int x3), (4, .int x4)] [] := by
      refine at_iinc C dX1_load_80 (j := 4) (v := x4 + 1) rfl rfl (by decide) (lv' := [(4, .int (x4 + 1)), (0, .ref (ad 8)), (1, .ref (ad 3)), (2, .int x2), (3, .int x3)]) rfl ?_
      refine at_goto C dX1_load_83 (tgt := 39) (by decide) ?_
      refine at_lv [1, 2, 3, 4, 0] rfl ?_
      exact h
    refine at_icmp_ne C dX1_load_59 (tgt := 80) (by decide) (fun hc3 => ?_) (fun hc3 => ?_)
    · skip
      first | (simp only [if_neg hc3] at K; exact K) | exact K
    · skip
      refine at_aload_n C dX1_load_62 rfl (j := 0) rfl ?_
      refine at_dup C dX1_load_63 rfl ?_
      refine at_get C (K := RX1) (T := TX1) (N := 6) (ci := 1) (v := .long (S.2 1 0)) iw_X1_load_X1 8 cW_c8 rfl 1 (by decide) lk_X1_load_1 rfl dX1_load_64 ?_
      refine at_lconst C dX1_load_67 (v := 1) rfl ?_
      refine at_bipush C dX1_load_68 (v := 8) rfl ?_
      refine at_iload_n C dX1_load_70 rfl (j := 3) rfl ?_
      refine at_imul C dX1_load_71 ?_
      refine at_iload C dX1_load_72 (j := 4) rfl ?_
      refine at_iadd C dX1_load_74 ?_
      refine at_lshl C dX1_load_75 ?_
      refine at_lor C dX1_load_76 ?_
      refine at_put C (K := RX1) (T := TX1) (N := 6) (ci := 1) (ty := .long) iw_X1_load_X1 tyX1 tyX1_ok nmX1 8 cW_c8 rfl 1 (by decide) lk_X1_load_1 rfl rfl rfl rfl (Nat.le_of_ble_eq_true rfl) cW_f8_1 dX1_load_77 ?_
      first | (simp only [if_pos hc3] at K; exact K) | exact K
/-- what House.load leaves -/
def ldH (hx : Nat → Int32) (n : Nat) (S S' : MS) : Prop := S'.1 8 0 = faultH hx n ∧ (∀ c, c < 64 → tbL (S'.2 1 0) c = freeH hx n c) ∧ (∀ k, k ≠ 8 → S'.1 k = S.1 k) ∧ ∀ k, k ≠ 1 → S'.2 k = S.2 k
def ldV (hx : Nat → Int32) (w : Nat) : Int64 := itF (fun row v => itF (fun col v => if hx (row * (w + 1) + col) = 46 then v ||| lshl 1 (nI (8 * row + col)) else v) 0 w v) 0 8 0
theorem ldV_tb (hx : Nat → Int32) {w : Nat} (hw : w ≤ 8) : ∀ c, c < 64 → tbL (ldV hx w) c = dotH hx w c := by
  have h := itF_inv (N := 8) (fun row (v : Int64) => ∀ c, c < 64 → tbL v c = (decide (c / 8 < row) && dotH hx w c)) (fun row v => itF (fun col v => if hx (row * (w + 1) + col) = 46 then v ||| lshl 1 (nI (8 * row + col)) else v) 0 w v) (fun row v hr hI => ?_) 8 0 0 rfl (fun c _ => by rw [tbL_0]; simp)
  · intro c hc
    show tbL (itF _ 0 8 0) c = _
    rw [h c hc, decide_eq_true (by omega), Bool.true_and]
  · have h2 := itF_inv (N := w) (fun col (v : Int64) => ∀ c, c < 64 → tbL v c = ((decide (c / 8 < row) || (decide (c / 8 = row) && decide (c % 8 < col))) && dotH hx w c)) (fun col v => if hx (row * (w + 1) + col) = 46 then v ||| lshl 1 (nI (8 * row + col)) else v) (fun col v hcol hI2 => ?_) w 0 v (Nat.zero_add _) (fun c hc => by rw [hI c hc]; simp)
    · intro c hc
      rw [h2 c hc]
      unfold dotH
      by_cases a : c % 8 < w
      · have : (decide (c / 8 < row) || (decide (c / 8 = row) && decide (c % 8 < w))) = decide (c / 8 < row + 1) := by
          rw [decide_eq_true a, Bool.and_true, ← Bool.decide_or]
          exact decide_eq_decide.mpr (by omega)
        rw [this]
      · rw [decide_eq_false a]; simp
    · intro c hc
      have key : tbL (if hx (row * (w + 1) + col) = 46 then v ||| lshl 1 (nI (8 * row + col)) else v) c = (tbL v c || (decide (c = 8 * row + col) && decide (hx (row * (w + 1) + col) = 46))) := by
        by_cases q : hx (row * (w + 1) + col) = 46
        · rw [if_pos q, tbL_or, tbL_bit (by omega), decide_eq_true q, Bool.and_true]
        · rw [if_neg q, decide_eq_false q, Bool.and_false, Bool.or_false]
      rw [key, hI2 c hc]
      by_cases e : c = 8 * row + col
      · have e1 : c / 8 = row := by omega
        have e2 : c % 8 = col := by omega
        unfold dotH
        rw [e1, e2, decide_eq_true e, decide_eq_true hcol]
        simp
      · rw [decide_eq_false e, Bool.false_and, Bool.or_false]
        have : (decide (c / 8 < row) || (decide (c / 8 = row) && decide (c % 8 < col))) = (decide (c / 8 < row) || (decide (c / 8 = row) && decide (c % 8 < col + 1))) := by
          by_cases a : c / 8 = row
          · rw [show decide (c % 8 < col) = decide (c % 8 < col + 1) from decide_eq_decide.mpr (by omega)]
          · rw [decide_eq_false a]; simp
        rw [this]
theorem c_X1_load (ad : Nat → Nat) (S : MS) {n : Nat} (hn : n ≤ 71) (e3 : S.1 3 0 = nI n) :
    ∃ S', ldH (hxv (S.1 1) 0 n) n S S' ∧ ∀ (l : Launch) (D : va_G) (E : Nat → ClassId) (a1 a2 : Nat), Fn l D E a1 a2 yX1_load wsX1_load 2 45 [.ref (ad 8), .ref (ad 3)] (cW E ad S) none (cW E ad S') := by
  generalize hhx : hxv (S.1 1) 0 n = hx
  have hw8 : widH hx ≤ 8 := lead_le hx 8 0
  by_cases hf : faultH hx n = -1
  · refine ⟨pv (pg S 8 0 (faultH hx n)) 1 0 (ldV hx (widH hx)), ⟨?_, fun c hc => ?_, fun k hk => ?_, fun k hk => ?_⟩, fun l D E a1 a2 => ?_⟩
    · rw [pv_1, pg_s]
    · rw [pv_s, ldV_tb hx hw8 c hc, freeH, decide_eq_true hf, Bool.true_and]
    · rw [pv_1, pg_r hk]
    · rw [pv_r hk, pg_2]
    · refine Fn.of (cc := cX1_load) (maxL := 5) (ret := none) (own := RX1) (by decide) rfl rfl (sameC _ _ _ _) (Nat.le_of_ble_eq_true rfl) (fun X q1 q2 q3 q4 q5 C hE => ?_)
      subst q1 q2 q3 q4 q5
      refine r_X1_load_0 C ad S ⟨_, c_X1_widthOf ad S hn e3 _ _ _ _ _, _, c_X1_findFault ad S hn e3 _ _ _ _ _, ?_⟩
      rw [hhx]
      refine ⟨fun _ => ?_, fun q => absurd hf q⟩
      have hat : ∀ (v : Int64) (p : Nat), p < 2 ^ 31 → f_X5_at (pv (pg S 8 0 (faultH hx n)) 1 0 v) 1 (nI p) = hx p := fun v p hp => by
        rw [at_eq (S := pv (pg S 8 0 (faultH hx n)) 1 0 v) (k := 1) (n := n) hn (by rw [pv_1, pg_o (by decide)]; exact e3) hp, pv_1, pg_r (by decide), hhx]
      generalize hS1 : pg S 8 0 (faultH hx n) = S1 at hE hat
      generalize widH hx = w at hE hw8
      refine for_go (P := fun row v => At X 5 (cW X.E ad (pv S1 1 0 v)) 30 [(0, .ref (ad 8)), (1, .ref (ad 3)), (2, .int (nI w)), (3, .int (nI row))] []) (N := 8) (fun row v => itF (fun col v => if hx (row * (w + 1) + col) = 46 then v ||| lshl 1 (nI (8 * row + col)) else v) 0 w v) (fun row v hr h => ?_) 8 0 0 rfl ?_
      · refine r_X1_load_30 C ad _ (nI w) (nI row) ⟨fun q => nlt_no (by decide) hr q, fun _ => ?_⟩
        refine for_go (P := fun col v => At X 5 (cW X.E ad (pv S1 1 0 v)) 39 [(0, .ref (ad 8)), (1, .ref (ad 3)), (2, .int (nI w)), (3, .int (nI row)), (4, .int (nI col))] []) (N := w) (fun col v => if hx (row * (w + 1) + col) = 46 then v ||| lshl 1 (nI (8 * row + col)) else v) (fun col v hc h => ?_) w 0 v (Nat.zero_add _) ?_
        · refine r_X1_load_39 C ad _ (nI w) (nI row) (nI col) ⟨fun q => nlt_no (b := w) (by omega) hc q, fun _ => ?_⟩
          have hP : row * (w + 1) ≤ 7 * 9 := Nat.mul_le_mul (by omega) (by omega)
          rw [nI_1 w, show nI row * nI (w + 1) + nI col = nI (row * (w + 1) + col) from by rw [pk_mul, nI_add], hat _ _ (by omega), show (8 : Int32) * nI row + nI col = nI (8 * row + col) from by rw [show (8 : Int32) = nI 8 from rfl, pk_mul, nI_add], nI_1, pv_s, pv_twice]
          have : (if hx (row * (w + 1) + col) = 46 then pv S1 1 0 (v ||| lshl 1 (nI (8 * row + col))) else pv S1 1 0 v) = pv S1 1 0 (if hx (row * (w + 1) + col) = 46 then v ||| lshl 1 (nI (8 * row + col)) else v) := by split <;> rfl
          rw [this]
          exact h
        · refine r_X1_load_39 C ad _ (nI w) (nI row) (nI w) ⟨fun _ => ?_, fun q => nle_no q⟩
          rw [nI_1]; exact h
      · exact r_X1_load_30 C ad _ _ (nI 8) ⟨fun _ => hE, fun q => nle_no q⟩
  · refine ⟨pv (pg S 8 0 (faultH hx n)) 1 0 0, ⟨?_, fun c hc => ?_, fun k hk => ?_, fun k hk => ?_⟩, fun l D E a1 a2 => ?_⟩
    · rw [pv_1, pg_s]
    · rw [pv_s, tbL_0, freeH, decide_eq_false hf, Bool.false_and]
    · rw [pv_1, pg_r hk]
    · rw [pv_r hk, pg_2]
    · refine Fn.of (cc := cX1_load) (maxL := 5) (ret := none) (own := RX1) (by decide) rfl rfl (sameC _ _ _ _) (Nat.le_of_ble_eq_true rfl) (fun X q1 q2 q3 q4 q5 C hE => ?_)
      subst q1 q2 q3 q4 q5
      refine r_X1_load_0 C ad S ⟨_, c_X1_widthOf ad S hn e3 _ _ _ _ _, _, c_X1_findFault ad S hn e3 _ _ _ _ _, ?_⟩
      rw [hhx]
      exact ⟨fun q => absurd q hf, fun _ => hE⟩
