set_option maxRecDepth 20000 in
theorem ggX0_isFitting_X3_sightOf : GoodIn wsX0_isFitting wsX3_sightOf := goodIn_r _ [8, 9, 14, 15, 16, 17] (by decide +kernel) (by decide +kernel)
set_option maxRecDepth 20000 in
theorem gX0_isFitting_X3_sightOf : GoodIn wsX0_isFitting (wsV RX0 36 RX3 yX3_sightOf wsX3_sightOf) := goodIn_app (goodIn_of _ (by decide +kernel)) ggX0_isFitting_X3_sightOf
theorem dX0_isFitting_0 : decode cX0_isFitting 0 = .ok (.iconst 0, 1) := by decide +kernel
theorem dX0_isFitting_1 : decode cX0_isFitting 1 = .ok (.istore 4, 2) := by decide +kernel
theorem dX0_isFitting_3 : decode cX0_isFitting 3 = .ok (.iload 4, 2) := by decide +kernel
theorem dX0_isFitting_5 : decode cX0_isFitting 5 = .ok (.aload_n 0, 1) := by decide +kernel
theorem dX0_isFitting_6 : decode cX0_isFitting 6 = .ok (.getfield 27, 3) := by decide +kernel
theorem dX0_isFitting_9 : decode cX0_isFitting 9 = .ok (.if_icmp .ge 41, 3) := by decide +kernel
theorem dX0_isFitting_12 : decode cX0_isFitting 12 = .ok (.iload 4, 2) := by decide +kernel
theorem dX0_isFitting_14 : decode cX0_isFitting 14 = .ok (.bipush 8, 2) := by decide +kernel
theorem dX0_isFitting_16 : decode cX0_isFitting 16 = .ok (.if_icmp .ge 34, 3) := by decide +kernel
theorem dX0_isFitting_19 : decode cX0_isFitting 19 = .ok (.aload_n 1, 1) := by decide +kernel
theorem dX0_isFitting_20 : decode cX0_isFitting 20 = .ok (.iload_n 2, 1) := by decide +kernel
theorem dX0_isFitting_21 : decode cX0_isFitting 21 = .ok (.iload_n 3, 1) := by decide +kernel
theorem dX0_isFitting_22 : decode cX0_isFitting 22 = .ok (.aload_n 0, 1) := by decide +kernel
theorem dX0_isFitting_23 : decode cX0_isFitting 23 = .ok (.getfield 11, 3) := by decide +kernel
theorem dX0_isFitting_26 : decode cX0_isFitting 26 = .ok (.iload 4, 2) := by decide +kernel
theorem dX0_isFitting_28 : decode cX0_isFitting 28 = .ok (.iaload, 1) := by decide +kernel
theorem dX0_isFitting_29 : decode cX0_isFitting 29 = .ok (.invokevirtual 36, 3) := by decide +kernel
theorem dX0_isFitting_32 : decode cX0_isFitting 32 = .ok (.aload_n 0, 1) := by decide +kernel
theorem dX0_isFitting_33 : decode cX0_isFitting 33 = .ok (.getfield 15, 3) := by decide +kernel
theorem dX0_isFitting_36 : decode cX0_isFitting 36 = .ok (.iload 4, 2) := by decide +kernel
theorem dX0_isFitting_38 : decode cX0_isFitting 38 = .ok (.iaload, 1) := by decide +kernel
theorem dX0_isFitting_39 : decode cX0_isFitting 39 = .ok (.if_icmp .eq 5, 3) := by decide +kernel
theorem dX0_isFitting_42 : decode cX0_isFitting 42 = .ok (.iconst 0, 1) := by decide +kernel
theorem dX0_isFitting_43 : decode cX0_isFitting 43 = .ok (.ireturn, 1) := by decide +kernel
theorem dX0_isFitting_44 : decode cX0_isFitting 44 = .ok (.iinc 4 1, 3) := by decide +kernel
theorem dX0_isFitting_47 : decode cX0_isFitting 47 = .ok (.goto (-44), 3) := by decide +kernel
theorem dX0_isFitting_50 : decode cX0_isFitting 50 = .ok (.iconst 1, 1) := by decide +kernel
theorem dX0_isFitting_51 : decode cX0_isFitting 51 = .ok (.ireturn, 1) := by decide +kernel
theorem iw_X0_isFitting_X0 : ∀ w ∈ u_ws RX0 TX0 4, w ∈ wsX0_isFitting := by decide +kernel
theorem lk_X0_isFitting_0 : Cond.fieldLink RX0 27 (TX0 3).1 (TX0 3).2.1 (TX0 3).2.2.1 ∈ wsX0_isFitting := by decide +kernel
theorem lk_X0_isFitting_1 : Cond.fieldLink RX0 11 (TX0 0).1 (TX0 0).2.1 (TX0 0).2.2.1 ∈ wsX0_isFitting := by decide +kernel
theorem lk_X0_isFitting_2 : Cond.fieldLink RX0 15 (TX0 1).1 (TX0 1).2.1 (TX0 1).2.2.1 ∈ wsX0_isFitting := by decide +kernel
set_option maxRecDepth 100000 in
theorem r_X0_isFitting_0 {X : Bn} (C : Cx X cX0_isFitting 5 RX0 wsX0_isFitting 1 24) (ad : Nat → Nat) (S : MS) (x2 : Int32) (x3 : Int32) (h : At X 5 (cW X.E ad S) 3 [(0, .ref (ad 15)), (1, .ref (ad 5)), (2, .int x2), (3, .int x3), (4, .int 0)] []) : At X 5 (cW X.E ad S) 0 [(0, .ref (ad 15)), (1, .ref (ad 5)), (2, .int x2), (3, .int x3)] [] := by
  refine at_iconst C dX0_isFitting_0 (v := 0) rfl ?_
  refine at_istore C dX0_isFitting_1 (by decide) (lv' := [(4, .int 0), (0, .ref (ad 15)), (1, .ref (ad 5)), (2, .int x2), (3, .int x3)]) rfl ?_
  refine at_lv [1, 2, 3, 4, 0] rfl ?_
  exact h
set_option maxRecDepth 100000 in
theorem r_X0_isFitting_3 {X : Bn} (C : Cx X cX0_isFitting 5 RX0 wsX0_isFitting 1 24) (ad : Nat → Nat) (S : MS) (x2 : Int32) (x3 : Int32) (x4 : Int32) (h : ((S.1 15 0 ≤ x4) → (Ends X (some .boolean) (some (.int 1)) (cW X.E ad S))) ∧ (¬ S.1 15 0 ≤ x4 → (((8 ≤ x4) → (Ends X (some .boolean) (some (.int 1)) (cW X.E ad S))) ∧ (¬ 8 ≤ x4 → ((vp_in x4 8) ∧ ((vp_in x4 8) ∧ (((f_X3_sightOf S x2 x3 (S.1 12 x4.toNatClampNeg) = S.1 13 x4.toNatClampNeg) → (At X 5 (cW X.E ad S) 3 [(0, .ref (ad 15)), (1, .ref (ad 5)), (2, .int x2), (3, .int x3), (4, .int (x4 + 1))] [])) ∧ (¬ f_X3_sightOf S x2 x3 (S.1 12 x4.toNatClampNeg) = S.1 13 x4.toNatClampNeg → (Ends X (some .boolean) (some (.int 0)) (cW X.E ad S)))))))))) : At X 5 (cW X.E ad S) 3 [(0, .ref (ad 15)), (1, .ref (ad 5)), (2, .int x2), (3, .int x3), (4, .int x4)] [] := by
  refine at_iload C dX0_isFitting_3 (j := 4) rfl ?_
  refine at_aload_n C dX0_isFitting_5 rfl (j := 0) rfl ?_
  refine at_get C (K := RX0) (T := TX0) (N := 4) (ci := 0) (v := .int (S.1 15 0)) iw_X0_isFitting_X0 15 cW_c15 rfl 3 (by decide) lk_X0_isFitting_0 rfl dX0_isFitting_6 ?_
  refine at_icmp_ge C dX0_isFitting_9 (tgt := 50) (by decide) (fun hc0 => ?_) (fun hc0 => ?_)
  · replace h := h.1 hc0
    refine at_iconst C dX0_isFitting_50 (v := 1) rfl ?_
    exact at_zret C dX0_isFitting_51 rfl h
  · replace h := h.2 hc0
    refine at_iload C dX0_isFitting_12 (j := 4) rfl ?_
    refine at_bipush C dX0_isFitting_14 (v := 8) rfl ?_
    refine at_icmp_ge C dX0_isFitting_16 (tgt := 50) (by decide) (fun hc1 => ?_) (fun hc1 => ?_)
    · replace h := h.1 hc1
      refine at_iconst C dX0_isFitting_50 (v := 1) rfl ?_
      exact at_zret C dX0_isFitting_51 rfl h
    · replace h := h.2 hc1
      refine at_aload_n C dX0_isFitting_19 rfl (j := 1) rfl ?_
      refine at_iload_n C dX0_isFitting_20 rfl (j := 2) rfl ?_
      refine at_iload_n C dX0_isFitting_21 rfl (j := 3) rfl ?_
      refine at_aload_n C dX0_isFitting_22 rfl (j := 0) rfl ?_
      refine at_get C (K := RX0) (T := TX0) (N := 4) (ci := 0) (v := .ref (ad 16)) iw_X0_isFitting_X0 15 cW_c15 rfl 0 (by decide) lk_X0_isFitting_1 rfl dX0_isFitting_23 ?_
      refine at_iload C dX0_isFitting_26 (j := 4) rfl ?_
      refine at_iald C 16 cW_c16 h.1 dX0_isFitting_28 ?_
      replace h := h.2
      refine at_cV1 C 3 (e_X3_sightOf X.l X.D X.E X.a1 X.a2 ad S x2 x3 (S.1 12 x4.toNatClampNeg)) gX0_isFitting_X3_sightOf rfl (by decide +kernel) ⟨rfl, rfl⟩ rfl rfl rfl 5 cW_c5 rfl dX0_isFitting_29 ?_
      refine at_aload_n C dX0_isFitting_32 rfl (j := 0) rfl ?_
      refine at_get C (K := RX0) (T := TX0) (N := 4) (ci := 0) (v := .ref (ad 17)) iw_X0_isFitting_X0 15 cW_c15 rfl 1 (by decide) lk_X0_isFitting_2 rfl dX0_isFitting_33 ?_
      refine at_iload C dX0_isFitting_36 (j := 4) rfl ?_
      refine at_iald C 17 cW_c17 h.1 dX0_isFitting_38 ?_
      replace h := h.2
      refine at_icmp_eq C dX0_isFitting_39 (tgt := 44) (by decide) (fun hc2 => ?_) (fun hc2 => ?_)
      · replace h := h.1 hc2
        refine at_iinc C dX0_isFitting_44 (j := 4) (v := x4 + 1) rfl rfl (by decide) (lv' := [(4, .int (x4 + 1)), (0, .ref (ad 15)), (1, .ref (ad 5)), (2, .int x2), (3, .int x3)]) rfl ?_
        refine at_goto C dX0_isFitting_47 (tgt := 3) (by decide) ?_
        refine at_lv [1, 2, 3, 4, 0] rfl ?_
        exact h
      · replace h := h.2 hc2
        refine at_iconst C dX0_isFitting_42 (v := 0) rfl ?_
        exact at_zret C dX0_isFitting_43 rfl h
def okK (S : MS) : Prop := ∃ cnt, cnt ≤ 8 ∧ S.1 15 0 = nI cnt
theorem itF_ff (P : Nat → Bool) : ∀ (k i : Nat), itF (fun j a => a && P j) i k false = false
  | 0, _ => rfl
  | k + 1, i => by
    show itF _ (i + 1) k (false && P i) = false
    rw [Bool.false_and]; exact itF_ff P k (i + 1)
def fitC (S : MS) (x2 x3 : Int32) (k : Nat) : Bool := decide (f_X3_sightOf S x2 x3 (S.1 12 k) = S.1 13 k)
def f_X0_isFitting (S : MS) (x2 x3 : Int32) : Bool := itF (fun k a => a && fitC S x2 x3 k) 0 (S.1 15 0).toNatClampNeg true
set_option maxRecDepth 100000 in
theorem c_X0_isFitting (l : Launch) (D : va_G) (E : Nat → ClassId) (a1 a2 : Nat) (ad : Nat → Nat) (S : MS) (x2 x3 : Int32) (hp : okK S) : Fn l D E a1 a2 yX0_isFitting wsX0_isFitting 1 24 [.ref (ad 15), .ref (ad 5), .int x2, .int x3] (cW E ad S) (some (.int (b2i (f_X0_isFitting S x2 x3)))) (cW E ad S) := by
  refine Fn.of (cc := cX0_isFitting) (maxL := 5) (ret := (some .boolean)) (own := RX0) (by decide) rfl rfl (sameC _ _ _ _) (Nat.le_of_ble_eq_true rfl) (fun X h1 h2 h3 h4 h5 C hE => ?_)
  subst h1 h2 h3 h4 h5
  obtain ⟨cnt, hc, e15⟩ := hp
  rw [f_X0_isFitting, e15, nI_clamp (show cnt < 2 ^ 31 by omega)] at hE
  refine r_X0_isFitting_0 C ad S x2 x3 ?_
  have a : ∀ (k i : Nat), i + k = cnt → itF (fun k a => a && fitC S x2 x3 k) i k true = itF (fun k a => a && fitC S x2 x3 k) 0 cnt true → At X 5 (cW X.E ad S) 3 [(0, .ref (ad 15)), (1, .ref (ad 5)), (2, .int x2), (3, .int x3), (4, .int (nI i))] [] := by
    intro k
    induction k with
    | zero =>
      intro i hi e
      rw [← e] at hE
      exact r_X0_isFitting_3 C ad S x2 x3 (nI i) ⟨fun _ => hE, fun q => absurd (by rw [e15, show i = cnt by omega]; exact Int32.le_refl _) q⟩
    | succ k ih =>
      intro i hi e
      refine r_X0_isFitting_3 C ad S x2 x3 (nI i) ⟨fun q => nlt_no (a := i) (b := cnt) (by omega) (by omega) (by rw [← e15]; exact q), fun _ => ⟨fun q => nlt_no (a := i) (b := 8) (by decide) (by omega) q, fun _ => ⟨vp_in_nI (by omega) (by decide), vp_in_nI (by omega) (by decide), ?_⟩⟩⟩
      rw [nI_clamp (show i < 2 ^ 31 by omega)]
      have e2 : itF (fun k a => a && fitC S x2 x3 k) (i + 1) k (true && fitC S x2 x3 i) = _ := e
      refine ⟨fun z => ?_, fun z => ?_⟩
      · rw [show fitC S x2 x3 i = true from decide_eq_true z] at e2
        rw [nI_1]
        exact ih (i + 1) (by omega) e2
      · rw [show fitC S x2 x3 i = false from decide_eq_false z, Bool.and_false, itF_ff] at e2
        rw [← e2] at hE; exact hE
  exact a cnt 0 (Nat.zero_add _) rfl
set_option maxRecDepth 20000 in
theorem ggX0_fittingPairs_X0_isFitting : GoodIn wsX0_fittingPairs wsX0_isFitting := goodIn_r _ [6, 7, 8, 9, 10, 11, 12, 13, 14, 15, 20, 21, 22, 23, 16, 17, 18, 19] (by decide +kernel) (by decide +kernel)
set_option maxRecDepth 20000 in
theorem gX0_fittingPairs_X0_isFitting : GoodIn wsX0_fittingPairs (wsV RX0 32 RX0 yX0_isFitting wsX0_isFitting) := goodIn_app (goodIn_of _ (by decide +kernel)) ggX0_fittingPairs_X0_isFitting
theorem dX0_fittingPairs_0 : decode cX0_fittingPairs 0 = .ok (.iconst 0, 1) := by decide +kernel
theorem dX0_fittingPairs_1 : decode cX0_fittingPairs 1 = .ok (.istore_n 2, 1) := by decide +kernel
theorem dX0_fittingPairs_2 : decode cX0_fittingPairs 2 = .ok (.iconst 0, 1) := by decide +kernel
theorem dX0_fittingPairs_3 : decode cX0_fittingPairs 3 = .ok (.istore_n 3, 1) := by decide +kernel
theorem dX0_fittingPairs_4 : decode cX0_fittingPairs 4 = .ok (.iload_n 3, 1) := by decide +kernel
theorem dX0_fittingPairs_5 : decode cX0_fittingPairs 5 = .ok (.aload_n 1, 1) := by decide +kernel
theorem dX0_fittingPairs_6 : decode cX0_fittingPairs 6 = .ok (.getfield 31, 3) := by decide +kernel
theorem dX0_fittingPairs_9 : decode cX0_fittingPairs 9 = .ok (.if_icmp .ge 43, 3) := by decide +kernel
theorem dX0_fittingPairs_12 : decode cX0_fittingPairs 12 = .ok (.iconst 0, 1) := by decide +kernel
theorem dX0_fittingPairs_13 : decode cX0_fittingPairs 13 = .ok (.istore 4, 2) := by decide +kernel
theorem dX0_fittingPairs_15 : decode cX0_fittingPairs 15 = .ok (.iload 4, 2) := by decide +kernel
theorem dX0_fittingPairs_17 : decode cX0_fittingPairs 17 = .ok (.iconst 4, 1) := by decide +kernel
theorem dX0_fittingPairs_18 : decode cX0_fittingPairs 18 = .ok (.if_icmp .ge 28, 3) := by decide +kernel
theorem dX0_fittingPairs_21 : decode cX0_fittingPairs 21 = .ok (.iload_n 2, 1) := by decide +kernel
theorem dX0_fittingPairs_22 : decode cX0_fittingPairs 22 = .ok (.aload_n 0, 1) := by decide +kernel
theorem dX0_fittingPairs_23 : decode cX0_fittingPairs 23 = .ok (.aload_n 1, 1) := by decide +kernel
theorem dX0_fittingPairs_24 : decode cX0_fittingPairs 24 = .ok (.iload_n 3, 1) := by decide +kernel
theorem dX0_fittingPairs_25 : decode cX0_fittingPairs 25 = .ok (.iload 4, 2) := by decide +kernel
theorem dX0_fittingPairs_27 : decode cX0_fittingPairs 27 = .ok (.invokevirtual 32, 3) := by decide +kernel
theorem dX0_fittingPairs_30 : decode cX0_fittingPairs 30 = .ok (.ifCond .eq 7, 3) := by decide +kernel
theorem dX0_fittingPairs_33 : decode cX0_fittingPairs 33 = .ok (.iconst 1, 1) := by decide +kernel
theorem dX0_fittingPairs_34 : decode cX0_fittingPairs 34 = .ok (.goto 4, 3) := by decide +kernel
theorem dX0_fittingPairs_37 : decode cX0_fittingPairs 37 = .ok (.iconst 0, 1) := by decide +kernel
theorem dX0_fittingPairs_38 : decode cX0_fittingPairs 38 = .ok (.iadd, 1) := by decide +kernel
theorem dX0_fittingPairs_39 : decode cX0_fittingPairs 39 = .ok (.istore_n 2, 1) := by decide +kernel
theorem dX0_fittingPairs_40 : decode cX0_fittingPairs 40 = .ok (.iinc 4 1, 3) := by decide +kernel
theorem dX0_fittingPairs_43 : decode cX0_fittingPairs 43 = .ok (.goto (-28), 3) := by decide +kernel
theorem dX0_fittingPairs_46 : decode cX0_fittingPairs 46 = .ok (.iinc 3 1, 3) := by decide +kernel
theorem dX0_fittingPairs_49 : decode cX0_fittingPairs 49 = .ok (.goto (-45), 3) := by decide +kernel
theorem dX0_fittingPairs_52 : decode cX0_fittingPairs 52 = .ok (.iload_n 2, 1) := by decide +kernel
theorem dX0_fittingPairs_53 : decode cX0_fittingPairs 53 = .ok (.ireturn, 1) := by decide +kernel
theorem iw_X0_fittingPairs_X3 : ∀ w ∈ u_ws RX3 TX3 4, w ∈ wsX0_fittingPairs := by decide +kernel
theorem lk_X0_fittingPairs_0 : Cond.fieldLink RX0 31 (TX3 2).1 (TX3 2).2.1 (TX3 2).2.2.1 ∈ wsX0_fittingPairs := by decide +kernel
set_option maxRecDepth 100000 in
theorem r_X0_fittingPairs_0 {X : Bn} (C : Cx X cX0_fittingPairs 5 RX0 wsX0_fittingPairs 2 48) (ad : Nat → Nat) (S : MS) (h : At X 5 (cW X.E ad S) 4 [(0, .ref (ad 15)), (1, .ref (ad 5)), (2, .int 0), (3, .int 0)] []) : At X 5 (cW X.E ad S) 0 [(0, .ref (ad 15)), (1, .ref (ad 5))] [] := by
  refine at_iconst C dX0_fittingPairs_0 (v := 0) rfl ?_
  refine at_istore_n C dX0_fittingPairs_1 rfl (by decide) (lv' := [(2, .int 0), (0, .ref (ad 15)), (1, .ref (ad 5))]) rfl ?_
  refine at_iconst C dX0_fittingPairs_2 (v := 0) rfl ?_
  refine at_istore_n C dX0_fittingPairs_3 rfl (by decide) (lv' := [(3, .int 0), (2, .int 0), (0, .ref (ad 15)), (1, .ref (ad 5))]) rfl ?_
  refine at_lv [2, 3, 1, 0] rfl ?_
  exact h
set_option maxRecDepth 100000 in
theorem r_X0_fittingPairs_4 {X : Bn} (C : Cx X cX0_fittingPairs 5 RX0 wsX0_fittingPairs 2 48) (ad : Nat → Nat) (S : MS) (x2 : Int32) (x3 : Int32) (h : ((S.1 6 0 ≤ x3) → (Ends X (some .int) (some (.int x2)) (cW X.E ad S))) ∧ (¬ S.1 6 0 ≤ x3 → (At X 5 (cW X.E ad S) 15 [(0, .ref (ad 15)), (1, .ref (ad 5)), (2, .int x2), (3, .int x3), (4, .int 0)] []))) : At X 5 (cW X.E ad S) 4 [(0, .ref (ad 15)), (1, .ref (ad 5)), (2, .int x2), (3, .int x3)] [] := by
  refine at_iload_n C dX0_fittingPairs_4 rfl (j := 3) rfl ?_
  refine at_aload_n C dX0_fittingPairs_5 rfl (j := 1) rfl ?_
  refine at_get C (K := RX3) (T := TX3) (N := 4) (ci := 2) (v := .int (S.1 6 0)) iw_X0_fittingPairs_X3 5 cW_c5 rfl 2 (by decide) lk_X0_fittingPairs_0 rfl dX0_fittingPairs_6 ?_
  refine at_icmp_ge C dX0_fittingPairs_9 (tgt := 52) (by decide) (fun hc0 => ?_) (fun hc0 => ?_)
  · replace h := h.1 hc0
    refine at_iload_n C dX0_fittingPairs_52 rfl (j := 2) rfl ?_
    exact at_iret C dX0_fittingPairs_53 h
  · replace h := h.2 hc0
    refine at_iconst C dX0_fittingPairs_12 (v := 0) rfl ?_
    refine at_istore C dX0_fittingPairs_13 (by decide) (lv' := [(4, .int 0), (0, .ref (ad 15)), (1, .ref (ad 5)), (2, .int x2), (3, .int x3)]) rfl ?_
    refine at_lv [1, 2, 3, 4, 0] rfl ?_
    exact h
set_option maxRecDepth 100000 in
theorem r_X0_fittingPairs_15 {X : Bn} (C : Cx X cX0_fittingPairs 5 RX0 wsX0_fittingPairs 2 48) (ad : Nat → Nat) (S : MS) (x2 : Int32) (x3 : Int32) (x4 : Int32) (h : ((4 ≤ x4) → (At X 5 (cW X.E ad S) 4 [(0, .ref (ad 15)), (1, .ref (ad 5)), (2, .int x2), (3, .int (x3 + 1))] [])) ∧ (¬ 4 ≤ x4 → ((okK S) ∧ (At X 5 (cW X.E ad S) 15 [(0, .ref (ad 15)), (1, .ref (ad 5)), (2, .int (x2 + (b2i (if (f_X0_isFitting S x3 x4) then true else false)))), (3, .int x3), (4, .int (x4 + 1))] [])))) : At X 5 (cW X.E ad S) 15 [(0, .ref (ad 15)), (1, .ref (ad 5)), (2, .int x2), (3, .int x3), (4, .int x4)] [] := by
  refine at_iload C dX0_fittingPairs_15 (j := 4) rfl ?_
  refine at_iconst C dX0_fittingPairs_17 (v := 4) rfl ?_
  refine at_icmp_ge C dX0_fittingPairs_18 (tgt := 46) (by decide) (fun hc1 => ?_) (fun hc1 => ?_)
  · replace h := h.1 hc1
    refine at_iinc C dX0_fittingPairs_46 (j := 3) (v := x3 + 1) rfl rfl (by decide) (lv' := [(3, .int (x3 + 1)), (0, .ref (ad 15)), (1, .ref (ad 5)), (2, .int x2), (4, .int x4)]) rfl ?_
    refine at_goto C dX0_fittingPairs_49 (tgt := 4) (by decide) ?_
    refine at_lv [1, 2, 3, 0] rfl ?_
    exact h
  · replace h := h.2 hc1
    refine at_iload_n C dX0_fittingPairs_21 rfl (j := 2) rfl ?_
    refine at_aload_n C dX0_fittingPairs_22 rfl (j := 0) rfl ?_
    refine at_aload_n C dX0_fittingPairs_23 rfl (j := 1) rfl ?_
    refine at_iload_n C dX0_fittingPairs_24 rfl (j := 3) rfl ?_
    refine at_iload C dX0_fittingPairs_25 (j := 4) rfl ?_
    refine at_cV1 C 3 (c_X0_isFitting X.l X.D X.E X.a1 X.a2 ad S x3 x4 h.1) gX0_fittingPairs_X0_isFitting rfl (by decide +kernel) ⟨rfl, rfl⟩ rfl rfl rfl 15 cW_c15 rfl dX0_fittingPairs_27 ?_
    replace h := h.2
    have K : At X 5 (cW X.E ad S) 38 [(0, .ref (ad 15)), (1, .ref (ad 5)), (3, .int x3), (4, .int x4)] [.int (b2i (if (f_X0_isFitting S x3 x4) then true else false)), .int x2] := by
      refine at_iadd C dX0_fittingPairs_38 ?_
      refine at_istore_n C dX0_fittingPairs_39 rfl (by decide) (lv' := [(2, .int (x2 + (b2i (if (f_X0_isFitting S x3 x4) then true else false)))), (0, .ref (ad 15)), (1, .ref (ad 5)), (3, .int x3), (4, .int x4)]) rfl ?_
      refine at_iinc C dX0_fittingPairs_40 (j := 4) (v := x4 + 1) rfl rfl (by decide) (lv' := [(4, .int (x4 + 1)), (2, .int (x2 + (b2i (if (f_X0_isFitting S x3 x4) then true else false)))), (0, .ref (ad 15)), (1, .ref (ad 5)), (3, .int x3)]) rfl ?_
      refine at_goto C dX0_fittingPairs_43 (tgt := 15) (by decide) ?_
      refine at_lv [2, 3, 1, 4, 0] rfl ?_
      exact h
    refine at_ifB_eq C dX0_fittingPairs_30 (tgt := 37) (by decide) (fun hc2 => ?_) (fun hc2 => ?_)
    · skip
      refine at_iconst C dX0_fittingPairs_37 (v := 0) rfl ?_
      refine at_lv [0, 1, 3, 4] rfl ?_
      first | (simp only [if_neg (show ¬ (f_X0_isFitting S x3 x4) = true by rw [hc2]; decide)] at K; exact K) | exact K
    · skip
      refine at_iconst C dX0_fittingPairs_33 (v := 1) rfl ?_
      refine at_goto C dX0_fittingPairs_34 (tgt := 38) (by decide) ?_
      refine at_lv [0, 1, 3, 4] rfl ?_
      first | (simp only [if_pos hc2] at K; exact K) | exact K
def f_X0_fittingPairs (S : MS) : Int32 := itF (fun s a => itF (fun t a => a + b2i (if f_X0_isFitting S (nI s) (nI t) then true else false)) 0 4 a) 0 (S.1 6 0).toNatClampNeg 0
set_option maxRecDepth 100000 in
theorem c_X0_fittingPairs (l : Launch) (D : va_G) (E : Nat → ClassId) (a1 a2 : Nat) (ad : Nat → Nat) (S : MS) (hp : okC S ∧ okK S) : Fn l D E a1 a2 yX0_fittingPairs wsX0_fittingPairs 2 48 [.ref (ad 15), .ref (ad 5)] (cW E ad S) (some (.int (f_X0_fittingPairs S))) (cW E ad S) := by
  refine Fn.of (cc := cX0_fittingPairs) (maxL := 5) (ret := (some .int)) (own := RX0) (by decide) rfl rfl (sameC _ _ _ _) (Nat.le_of_ble_eq_true rfl) (fun X h1 h2 h3 h4 h5 C hE => ?_)
  subst h1 h2 h3 h4 h5
  obtain ⟨⟨cnt, hc, e6⟩, hK⟩ := hp
  rw [f_X0_fittingPairs, e6, nI_clamp (show cnt < 2 ^ 31 by omega)] at hE
  refine r_X0_fittingPairs_0 C ad S ?_
  refine for_go (P := fun s a => At X 5 (cW X.E ad S) 4 [(0, .ref (ad 15)), (1, .ref (ad 5)), (2, .int a), (3, .int (nI s))] []) (N := cnt) (fun s a => itF (fun t a => a + b2i (if f_X0_isFitting S (nI s) (nI t) then true else false)) 0 4 a) (fun s a hs h => ?_) cnt 0 0 (Nat.zero_add _) ?_
  · refine r_X0_fittingPairs_4 C ad S a (nI s) ⟨fun q => nlt_no (b := cnt) (by omega) hs (by rw [← e6]; exact q), fun _ => ?_⟩
    refine for_go (P := fun t a => At X 5 (cW X.E ad S) 15 [(0, .ref (ad 15)), (1, .ref (ad 5)), (2, .int a), (3, .int (nI s)), (4, .int (nI t))] []) (N := 4) (fun t a => a + b2i (if f_X0_isFitting S (nI s) (nI t) then true else false)) (fun t a ht h => ?_) 4 0 a rfl ?_
    · exact r_X0_fittingPairs_15 C ad S a (nI s) (nI t) ⟨fun q => nlt_no (by decide) ht q, fun _ => ⟨hK, by rw [nI_1]; exact h⟩⟩
    · exact r_X0_fittingPairs_15 C ad S _ (nI s) (nI 4) ⟨fun _ => by rw [nI_1]; exact h, fun q => nle_no q⟩
  · exact r_X0_fittingPairs_4 C ad S _ (nI cnt) ⟨fun _ => hE, fun q => absurd (by rw [e6]; exact Int32.le_refl _) q⟩
set_option maxRecDepth 20000 in
theorem ggX0_fittingShapes_X0_isFitting : GoodIn wsX0_fittingShapes wsX0_isFitting := goodIn_r _ [6, 7, 8, 9, 10, 11, 12, 13, 14, 15, 20, 21, 22, 23, 16, 17, 18, 19] (by decide +kernel) (by decide +kernel)
set_option maxRecDepth 20000 in
theorem gX0_fittingShapes_X0_isFitting : GoodIn wsX0_fittingShapes (wsV RX0 32 RX0 yX0_isFitting wsX0_isFitting) := goodIn_app (goodIn_of _ (by decide +kernel)) ggX0_fittingShapes_X0_isFitting
theorem dX0_fittingShapes_0 : decode cX0_fittingShapes 0 = .ok (.iconst 0, 1) := by decide +kernel
theorem dX0_fittingShapes_1 : decode cX0_fittingShapes 1 = .ok (.istore_n 2, 1) := by decide +kernel
theorem dX0_fittingShapes_2 : decode cX0_fittingShapes 2 = .ok (.iconst 0, 1) := by decide +kernel
theorem dX0_fittingShapes_3 : decode cX0_fittingShapes 3 = .ok (.istore_n 3, 1) := by decide +kernel
theorem dX0_fittingShapes_4 : decode cX0_fittingShapes 4 = .ok (.iload_n 3, 1) := by decide +kernel
theorem dX0_fittingShapes_5 : decode cX0_fittingShapes 5 = .ok (.aload_n 1, 1) := by decide +kernel
theorem dX0_fittingShapes_6 : decode cX0_fittingShapes 6 = .ok (.getfield 31, 3) := by decide +kernel
theorem dX0_fittingShapes_9 : decode cX0_fittingShapes 9 = .ok (.if_icmp .ge 41, 3) := by decide +kernel
theorem dX0_fittingShapes_12 : decode cX0_fittingShapes 12 = .ok (.iconst 0, 1) := by decide +kernel
theorem dX0_fittingShapes_13 : decode cX0_fittingShapes 13 = .ok (.istore 4, 2) := by decide +kernel
theorem dX0_fittingShapes_15 : decode cX0_fittingShapes 15 = .ok (.iload 4, 2) := by decide +kernel
theorem dX0_fittingShapes_17 : decode cX0_fittingShapes 17 = .ok (.iconst 4, 1) := by decide +kernel
theorem dX0_fittingShapes_18 : decode cX0_fittingShapes 18 = .ok (.if_icmp .ge 26, 3) := by decide +kernel
theorem dX0_fittingShapes_21 : decode cX0_fittingShapes 21 = .ok (.aload_n 0, 1) := by decide +kernel
theorem dX0_fittingShapes_22 : decode cX0_fittingShapes 22 = .ok (.aload_n 1, 1) := by decide +kernel
theorem dX0_fittingShapes_23 : decode cX0_fittingShapes 23 = .ok (.iload_n 3, 1) := by decide +kernel
theorem dX0_fittingShapes_24 : decode cX0_fittingShapes 24 = .ok (.iload 4, 2) := by decide +kernel
theorem dX0_fittingShapes_26 : decode cX0_fittingShapes 26 = .ok (.invokevirtual 32, 3) := by decide +kernel
theorem dX0_fittingShapes_29 : decode cX0_fittingShapes 29 = .ok (.ifCond .eq 9, 3) := by decide +kernel
theorem dX0_fittingShapes_32 : decode cX0_fittingShapes 32 = .ok (.iload_n 2, 1) := by decide +kernel
theorem dX0_fittingShapes_33 : decode cX0_fittingShapes 33 = .ok (.iconst 1, 1) := by decide +kernel
theorem dX0_fittingShapes_34 : decode cX0_fittingShapes 34 = .ok (.iload_n 3, 1) := by decide +kernel
theorem dX0_fittingShapes_35 : decode cX0_fittingShapes 35 = .ok (.ishl, 1) := by decide +kernel
theorem dX0_fittingShapes_36 : decode cX0_fittingShapes 36 = .ok (.ior, 1) := by decide +kernel
theorem dX0_fittingShapes_37 : decode cX0_fittingShapes 37 = .ok (.istore_n 2, 1) := by decide +kernel
theorem dX0_fittingShapes_38 : decode cX0_fittingShapes 38 = .ok (.iinc 4 1, 3) := by decide +kernel
theorem dX0_fittingShapes_41 : decode cX0_fittingShapes 41 = .ok (.goto (-26), 3) := by decide +kernel
theorem dX0_fittingShapes_44 : decode cX0_fittingShapes 44 = .ok (.iinc 3 1, 3) := by decide +kernel
theorem dX0_fittingShapes_47 : decode cX0_fittingShapes 47 = .ok (.goto (-43), 3) := by decide +kernel
theorem dX0_fittingShapes_50 : decode cX0_fittingShapes 50 = .ok (.iload_n 2, 1) := by decide +kernel
theorem dX0_fittingShapes_51 : decode cX0_fittingShapes 51 = .ok (.ireturn, 1) := by decide +kernel
theorem iw_X0_fittingShapes_X3 : ∀ w ∈ u_ws RX3 TX3 4, w ∈ wsX0_fittingShapes := by decide +kernel
theorem lk_X0_fittingShapes_0 : Cond.fieldLink RX0 31 (TX3 2).1 (TX3 2).2.1 (TX3 2).2.2.1 ∈ wsX0_fittingShapes := by decide +kernel
set_option maxRecDepth 100000 in
theorem r_X0_fittingShapes_0 {X : Bn} (C : Cx X cX0_fittingShapes 5 RX0 wsX0_fittingShapes 2 48) (ad : Nat → Nat) (S : MS) (h : At X 5 (cW X.E ad S) 4 [(0, .ref (ad 15)), (1, .ref (ad 5)), (2, .int 0), (3, .int 0)] []) : At X 5 (cW X.E ad S) 0 [(0, .ref (ad 15)), (1, .ref (ad 5))] [] := by
  refine at_iconst C dX0_fittingShapes_0 (v := 0) rfl ?_
  refine at_istore_n C dX0_fittingShapes_1 rfl (by decide) (lv' := [(2, .int 0), (0, .ref (ad 15)), (1, .ref (ad 5))]) rfl ?_
  refine at_iconst C dX0_fittingShapes_2 (v := 0) rfl ?_
  refine at_istore_n C dX0_fittingShapes_3 rfl (by decide) (lv' := [(3, .int 0), (2, .int 0), (0, .ref (ad 15)), (1, .ref (ad 5))]) rfl ?_
  refine at_lv [2, 3, 1, 0] rfl ?_
  exact h
set_option maxRecDepth 100000 in
theorem r_X0_fittingShapes_4 {X : Bn} (C : Cx X cX0_fittingShapes 5 RX0 wsX0_fittingShapes 2 48) (ad : Nat → Nat) (S : MS) (x2 : Int32) (x3 : Int32) (h : ((S.1 6 0 ≤ x3) → (Ends X (some .int) (some (.int x2)) (cW X.E ad S))) ∧ (¬ S.1 6 0 ≤ x3 → (At X 5 (cW X.E ad S) 15 [(0, .ref (ad 15)), (1, .ref (ad 5)), (2, .int x2), (3, .int x3), (4, .int 0)] []))) : At X 5 (cW X.E ad S) 4 [(0, .ref (ad 15)), (1, .ref (ad 5)), (2, .int x2), (3, .int x3)] [] := by
  refine at_iload_n C dX0_fittingShapes_4 rfl (j := 3) rfl ?_
  refine at_aload_n C dX0_fittingShapes_5 rfl (j := 1) rfl ?_
  refine at_get C (K := RX3) (T := TX3) (N := 4) (ci := 2) (v := .int (S.1 6 0)) iw_X0_fittingShapes_X3 5 cW_c5 rfl 2 (by decide) lk_X0_fittingShapes_0 rfl dX0_fittingShapes_6 ?_
  refine at_icmp_ge C dX0_fittingShapes_9 (tgt := 50) (by decide) (fun hc0 => ?_) (fun hc0 => ?_)
  · replace h := h.1 hc0
    refine at_iload_n C dX0_fittingShapes_50 rfl (j := 2) rfl ?_
    exact at_iret C dX0_fittingShapes_51 h
  · replace h := h.2 hc0
    refine at_iconst C dX0_fittingShapes_12 (v := 0) rfl ?_
    refine at_istore C dX0_fittingShapes_13 (by decide) (lv' := [(4, .int 0), (0, .ref (ad 15)), (1, .ref (ad 5)), (2, .int x2), (3, .int x3)]) rfl ?_
    refine at_lv [1, 2, 3, 4, 0] rfl ?_
    exact h
set_option maxRecDepth 100000 in
theorem r_X0_fittingShapes_15 {X : Bn} (C : Cx X cX0_fittingShapes 5 RX0 wsX0_fittingShapes 2 48) (ad : Nat → Nat) (S : MS) (x2 : Int32) (x3 : Int32) (x4 : Int32) (h : ((4 ≤ x4) → (At X 5 (cW X.E ad S) 4 [(0, .ref (ad 15)), (1, .ref (ad 5)), (2, .int x2), (3, .int (x3 + 1))] [])) ∧ (¬ 4 ≤ x4 → ((okK S) ∧ (At X 5 (cW X.E ad S) 15 [(0, .ref (ad 15)), (1, .ref (ad 5)), (2, .int (if (f_X0_isFitting S x3 x4) then x2 ||| (ishl 1 x3) else x2)), (3, .int x3), (4, .int (x4 + 1))] [])))) : At X 5 (cW X.E ad S) 15 [(0, .ref (ad 15)), (1, .ref (ad 5)), (2, .int x2), (3, .int x3), (4, .int x4)] [] := by
  refine at_iload C dX0_fittingShapes_15 (j := 4) rfl ?_
  refine at_iconst C dX0_fittingShapes_17 (v := 4) rfl ?_
  refine at_icmp_ge C dX0_fittingShapes_18 (tgt := 44) (by decide) (fun hc1 => ?_) (fun hc1 => ?_)
  · replace h := h.1 hc1
    refine at_iinc C dX0_fittingShapes_44 (j := 3) (v := x3 + 1) rfl rfl (by decide) (lv' := [(3, .int (x3 + 1)), (0, .ref (ad 15)), (1, .ref (ad 5)), (2, .int x2), (4, .int x4)]) rfl ?_
    refine at_goto C dX0_fittingShapes_47 (tgt := 4) (by decide) ?_
    refine at_lv [1, 2, 3, 0] rfl ?_
    exact h
  · replace h := h.2 hc1
    refine at_aload_n C dX0_fittingShapes_21 rfl (j := 0) rfl ?_
    refine at_aload_n C dX0_fittingShapes_22 rfl (j := 1) rfl ?_
    refine at_iload_n C dX0_fittingShapes_23 rfl (j := 3) rfl ?_
    refine at_iload C dX0_fittingShapes_24 (j := 4) rfl ?_
    refine at_cV1 C 3 (c_X0_isFitting X.l X.D X.E X.a1 X.a2 ad S x3 x4 h.1) gX0_fittingShapes_X0_isFitting rfl (by decide +kernel) ⟨rfl, rfl⟩ rfl rfl rfl 15 cW_c15 rfl dX0_fittingShapes_26 ?_
    replace h := h.2
    have K : At X 5 (cW X.E ad S) 38 [(0, .ref (ad 15)), (1, .ref (ad 5)), (2, .int (if (f_X0_isFitting S x3 x4) then x2 ||| (ishl 1 x3) else x2)), (3, .int x3), (4, .int x4)] [] := by
      refine at_iinc C dX0_fittingShapes_38 (j := 4) (v := x4 + 1) rfl rfl (by decide) (lv' := [(4, .int (x4 + 1)), (0, .ref (ad 15)), (1, .ref (ad 5)), (2, .int (if (f_X0_isFitting S x3 x4) then x2 ||| (ishl 1 x3) else x2)), (3, .int x3)]) rfl ?_
      refine at_goto C dX0_fittingShapes_41 (tgt := 15) (by decide) ?_
      refine at_lv [1, 2, 3, 4, 0] rfl ?_
      exact h
    refine at_ifB_eq C dX0_fittingShapes_29 (tgt := 38) (by decide) (fun hc2 => ?_) (fun hc2 => ?_)
    · skip
      first | (simp only [if_neg (show ¬ (f_X0_isFitting S x3 x4) = true by rw [hc2]; decide)] at K; exact K) | exact K
    · skip
      refine at_iload_n C dX0_fittingShapes_32 rfl (j := 2) rfl ?_
      refine at_iconst C dX0_fittingShapes_33 (v := 1) rfl ?_
      refine at_iload_n C dX0_fittingShapes_34 rfl (j := 3) rfl ?_
      refine at_ishl C dX0_fittingShapes_35 ?_
      refine at_ior C dX0_fittingShapes_36 ?_
      refine at_istore_n C dX0_fittingShapes_37 rfl (by decide) (lv' := [(2, .int (x2 ||| (ishl 1 x3))), (0, .ref (ad 15)), (1, .ref (ad 5)), (3, .int x3), (4, .int x4)]) rfl ?_
      refine at_lv [1, 2, 0, 3, 4] rfl ?_
      first | (simp only [if_pos hc2] at K; exact K) | exact K
def f_X0_fittingShapes (S : MS) : Int32 := itF (fun s a => itF (fun t a => if f_X0_isFitting S (nI s) (nI t) then a ||| ishl 1 (nI s) else a) 0 4 a) 0 (S.1 6 0).toNatClampNeg 0
set_option maxRecDepth 100000 in
theorem c_X0_fittingShapes (l : Launch) (D : va_G) (E : Nat → ClassId) (a1 a2 : Nat) (ad : Nat → Nat) (S : MS) (hp : okC S ∧ okK S) : Fn l D E a1 a2 yX0_fittingShapes wsX0_fittingShapes 2 48 [.ref (ad 15), .ref (ad 5)] (cW E ad S) (some (.int (f_X0_fittingShapes S))) (cW E ad S) := by
  refine Fn.of (cc := cX0_fittingShapes) (maxL := 5) (ret := (some .int)) (own := RX0) (by decide) rfl rfl (sameC _ _ _ _) (Nat.le_of_ble_eq_true rfl) (fun X h1 h2 h3 h4 h5 C hE => ?_)
  subst h1 h2 h3 h4 h5
  obtain ⟨⟨cnt, hc, e6⟩, hK⟩ := hp
  rw [f_X0_fittingShapes, e6, nI_clamp (show cnt < 2 ^ 31 by omega)] at hE
  refine r_X0_fittingShapes_0 C ad S ?_
  refine for_go (P := fun s a => At X 5 (cW X.E ad S) 4 [(0, .ref (ad 15)), (1, .ref (ad 5)), (2, .int a), (3, .int (nI s))] []) (N := cnt) (fun s a => itF (fun t a => if f_X0_isFitting S (nI s) (nI t) then a ||| ishl 1 (nI s) else a) 0 4 a) (fun s a hs h => ?_) cnt 0 0 (Nat.zero_add _) ?_
  · refine r_X0_fittingShapes_4 C ad S a (nI s) ⟨fun q => nlt_no (b := cnt) (by omega) hs (by rw [← e6]; exact q), fun _ => ?_⟩
    refine for_go (P := fun t a => At X 5 (cW X.E ad S) 15 [(0, .ref (ad 15)), (1, .ref (ad 5)), (2, .int a), (3, .int (nI s)), (4, .int (nI t))] []) (N := 4) (fun t a => if f_X0_isFitting S (nI s) (nI t) then a ||| ishl 1 (nI s) else a) (fun t a ht h => ?_) 4 0 a rfl ?_
    · exact r_X0_fittingShapes_15 C ad S a (nI s) (nI t) ⟨fun q => nlt_no (by decide) ht q, fun _ => ⟨hK, by rw [nI_1]; exact h⟩⟩
    · exact r_X0_fittingShapes_15 C ad S _ (nI s) (nI 4) ⟨fun _ => by rw [nI_1]; exact h, fun q => nle_no q⟩
  · exact r_X0_fittingShapes_4 C ad S _ (nI cnt) ⟨fun _ => hE, fun q => absurd (by rw [e6]; exact Int32.le_refl _) q⟩
theorem dX0_shapesTelling_0 : decode cX0_shapesTelling 0 = .ok (.iconst 0, 1) := by decide +kernel
theorem dX0_shapesTelling_1 : decode cX0_shapesTelling 1 = .ok (.istore_n 2, 1) := by decide +kernel
theorem dX0_shapesTelling_2 : decode cX0_shapesTelling 2 = .ok (.iconst 0, 1) := by decide +kernel
theorem dX0_shapesTelling_3 : decode cX0_shapesTelling 3 = .ok (.istore_n 3, 1) := by decide +kernel
theorem dX0_shapesTelling_4 : decode cX0_shapesTelling 4 = .ok (.iload_n 3, 1) := by decide +kernel
theorem dX0_shapesTelling_5 : decode cX0_shapesTelling 5 = .ok (.aload_n 0, 1) := by decide +kernel
theorem dX0_shapesTelling_6 : decode cX0_shapesTelling 6 = .ok (.getfield 20, 3) := by decide +kernel
theorem dX0_shapesTelling_9 : decode cX0_shapesTelling 9 = .ok (.arraylength, 1) := by decide +kernel
theorem dX0_shapesTelling_10 : decode cX0_shapesTelling 10 = .ok (.if_icmp .ge 27, 3) := by decide +kernel
theorem dX0_shapesTelling_13 : decode cX0_shapesTelling 13 = .ok (.aload_n 0, 1) := by decide +kernel
theorem dX0_shapesTelling_14 : decode cX0_shapesTelling 14 = .ok (.getfield 20, 3) := by decide +kernel
theorem dX0_shapesTelling_17 : decode cX0_shapesTelling 17 = .ok (.iload_n 3, 1) := by decide +kernel
theorem dX0_shapesTelling_18 : decode cX0_shapesTelling 18 = .ok (.iaload, 1) := by decide +kernel
theorem dX0_shapesTelling_19 : decode cX0_shapesTelling 19 = .ok (.iload_n 1, 1) := by decide +kernel
theorem dX0_shapesTelling_20 : decode cX0_shapesTelling 20 = .ok (.if_icmp .ne 11, 3) := by decide +kernel
theorem dX0_shapesTelling_23 : decode cX0_shapesTelling 23 = .ok (.iload_n 2, 1) := by decide +kernel
theorem dX0_shapesTelling_24 : decode cX0_shapesTelling 24 = .ok (.iconst 1, 1) := by decide +kernel
theorem dX0_shapesTelling_25 : decode cX0_shapesTelling 25 = .ok (.iload_n 3, 1) := by decide +kernel
theorem dX0_shapesTelling_26 : decode cX0_shapesTelling 26 = .ok (.iconst 4, 1) := by decide +kernel
theorem dX0_shapesTelling_27 : decode cX0_shapesTelling 27 = .ok (.idiv, 1) := by decide +kernel
theorem dX0_shapesTelling_28 : decode cX0_shapesTelling 28 = .ok (.ishl, 1) := by decide +kernel
theorem dX0_shapesTelling_29 : decode cX0_shapesTelling 29 = .ok (.ior, 1) := by decide +kernel
theorem dX0_shapesTelling_30 : decode cX0_shapesTelling 30 = .ok (.istore_n 2, 1) := by decide +kernel
theorem dX0_shapesTelling_31 : decode cX0_shapesTelling 31 = .ok (.iinc 3 1, 3) := by decide +kernel
theorem dX0_shapesTelling_34 : decode cX0_shapesTelling 34 = .ok (.goto (-30), 3) := by decide +kernel
theorem dX0_shapesTelling_37 : decode cX0_shapesTelling 37 = .ok (.iload_n 2, 1) := by decide +kernel
theorem dX0_shapesTelling_38 : decode cX0_shapesTelling 38 = .ok (.ireturn, 1) := by decide +kernel
theorem iw_X0_shapesTelling_X0 : ∀ w ∈ u_ws RX0 TX0 4, w ∈ wsX0_shapesTelling := by decide +kernel
theorem lk_X0_shapesTelling_0 : Cond.fieldLink RX0 20 (TX0 2).1 (TX0 2).2.1 (TX0 2).2.2.1 ∈ wsX0_shapesTelling := by decide +kernel
set_option maxRecDepth 100000 in
theorem r_X0_shapesTelling_0 {X : Bn} (C : Cx X cX0_shapesTelling 4 RX0 wsX0_shapesTelling 0 0) (ad : Nat → Nat) (S : MS) (x1 : Int32) (h : At X 4 (cW X.E ad S) 4 [(0, .ref (ad 15)), (1, .int x1), (2, .int 0), (3, .int 0)] []) : At X 4 (cW X.E ad S) 0 [(0, .ref (ad 15)), (1, .int x1)] [] := by
  refine at_iconst C dX0_shapesTelling_0 (v := 0) rfl ?_
  refine at_istore_n C dX0_shapesTelling_1 rfl (by decide) (lv' := [(2, .int 0), (0, .ref (ad 15)), (1, .int x1)]) rfl ?_
  refine at_iconst C dX0_shapesTelling_2 (v := 0) rfl ?_
  refine at_istore_n C dX0_shapesTelling_3 rfl (by decide) (lv' := [(3, .int 0), (2, .int 0), (0, .ref (ad 15)), (1, .int x1)]) rfl ?_
  refine at_lv [2, 3, 1, 0] rfl ?_
  exact h
set_option maxRecDepth 100000 in
theorem r_X0_shapesTelling_4 {X : Bn} (C : Cx X cX0_shapesTelling 4 RX0 wsX0_shapesTelling 0 0) (ad : Nat → Nat) (S : MS) (x1 : Int32) (x2 : Int32) (x3 : Int32) (h : ((32 ≤ x3) → (Ends X (some .int) (some (.int x2)) (cW X.E ad S))) ∧ (¬ 32 ≤ x3 → ((vp_in x3 32) ∧ (At X 4 (cW X.E ad S) 4 [(0, .ref (ad 15)), (1, .int x1), (2, .int (if S.1 14 x3.toNatClampNeg = x1 then x2 ||| (ishl 1 (x3 / 4)) else x2)), (3, .int (x3 + 1))] [])))) : At X 4 (cW X.E ad S) 4 [(0, .ref (ad 15)), (1, .int x1), (2, .int x2), (3, .int x3)] [] := by
  refine at_iload_n C dX0_shapesTelling_4 rfl (j := 3) rfl ?_
  refine at_aload_n C dX0_shapesTelling_5 rfl (j := 0) rfl ?_
  refine at_get C (K := RX0) (T := TX0) (N := 4) (ci := 0) (v := .ref (ad 18)) iw_X0_shapesTelling_X0 15 cW_c15 rfl 2 (by decide) lk_X0_shapesTelling_0 rfl dX0_shapesTelling_6 ?_
  refine at_alen C 18 0 cW_c18 rfl (v := 32) rfl dX0_shapesTelling_9 ?_
  refine at_icmp_ge C dX0_shapesTelling_10 (tgt := 37) (by decide) (fun hc0 => ?_) (fun hc0 => ?_)
  · replace h := h.1 hc0
    refine at_iload_n C dX0_shapesTelling_37 rfl (j := 2) rfl ?_
    exact at_iret C dX0_shapesTelling_38 h
  · replace h := h.2 hc0
    refine at_aload_n C dX0_shapesTelling_13 rfl (j := 0) rfl ?_
    refine at_get C (K := RX0) (T := TX0) (N := 4) (ci := 0) (v := .ref (ad 18)) iw_X0_shapesTelling_X0 15 cW_c15 rfl 2 (by decide) lk_X0_shapesTelling_0 rfl dX0_shapesTelling_14 ?_
    refine at_iload_n C dX0_shapesTelling_17 rfl (j := 3) rfl ?_
    refine at_iald C 18 cW_c18 h.1 dX0_shapesTelling_18 ?_
    replace h := h.2
    refine at_iload_n C dX0_shapesTelling_19 rfl (j := 1) rfl ?_
    have K : At X 4 (cW X.E ad S) 31 [(0, .ref (ad 15)), (1, .int x1), (2, .int (if S.1 14 x3.toNatClampNeg = x1 then x2 ||| (ishl 1 (x3 / 4)) else x2)), (3, .int x3)] [] := by
      refine at_iinc C dX0_shapesTelling_31 (j := 3) (v := x3 + 1) rfl rfl (by decide) (lv' := [(3, .int (x3 + 1)), (0, .ref (ad 15)), (1, .int x1), (2, .int (if S.1 14 x3.toNatClampNeg = x1 then x2 ||| (ishl 1 (x3 / 4)) else x2))]) rfl ?_
      refine at_goto C dX0_shapesTelling_34 (tgt := 4) (by decide) ?_
      refine at_lv [1, 2, 3, 0] rfl ?_
      exact h
    refine at_icmp_ne C dX0_shapesTelling_20 (tgt := 31) (by decide) (fun hc1 => ?_) (fun hc1 => ?_)
    · skip
      first | (simp only [if_neg hc1] at K; exact K) | exact K
    · skip
      refine at_iload_n C dX0_shapesTelling_23 rfl (j := 2) rfl ?_
      refine at_iconst C dX0_shapesTelling_24 (v := 1) rfl ?_
      refine at_iload_n C dX0_shapesTelling_25 rfl (j := 3) rfl ?_
      refine at_iconst C dX0_shapesTelling_26 (v := 4) rfl ?_
      refine at_idiv C dX0_shapesTelling_27 (by decide) ?_
      refine at_ishl C dX0_shapesTelling_28 ?_
      refine at_ior C dX0_shapesTelling_29 ?_
      refine at_istore_n C dX0_shapesTelling_30 rfl (by decide) (lv' := [(2, .int (x2 ||| (ishl 1 (x3 / 4)))), (0, .ref (ad 15)), (1, .int x1), (3, .int x3)]) rfl ?_
      refine at_lv [1, 2, 0, 3] rfl ?_
      first | (simp only [if_pos hc1] at K; exact K) | exact K
def tlB (T : Nat → Int32) (x : Int32) : Int32 := itF (fun p a => if T p = x then a ||| ishl 1 (nI (p / 4)) else a) 0 32 0
def f_X0_shapesTelling (S : MS) (x : Int32) : Int32 := tlB (S.1 14) x
set_option maxRecDepth 100000 in
theorem c_X0_shapesTelling (l : Launch) (D : va_G) (E : Nat → ClassId) (a1 a2 : Nat) (ad : Nat → Nat) (S : MS) (x1 : Int32) : Fn l D E a1 a2 yX0_shapesTelling wsX0_shapesTelling 0 0 [.ref (ad 15), .int x1] (cW E ad S) (some (.int (f_X0_shapesTelling S x1))) (cW E ad S) := by
  refine Fn.of (cc := cX0_shapesTelling) (maxL := 4) (ret := (some .int)) (own := RX0) (by decide) rfl rfl (sameC _ _ _ _) (Nat.le_of_ble_eq_true rfl) (fun X h1 h2 h3 h4 h5 C hE => ?_)
  subst h1 h2 h3 h4 h5
  refine r_X0_shapesTelling_0 C ad S x1 ?_
  refine for_go (P := fun p a => At X 4 (cW X.E ad S) 4 [(0, .ref (ad 15)), (1, .int x1), (2, .int a), (3, .int (nI p))] []) (N := 32) (fun p a => if S.1 14 p = x1 then a ||| ishl 1 (nI (p / 4)) else a) (fun p a hp h => ?_) 32 0 0 rfl ?_
  · refine r_X0_shapesTelling_4 C ad S x1 a (nI p) ⟨fun q => nlt_no (by decide) hp q, fun _ => ⟨vp_in_nI hp (by decide), ?_⟩⟩
    rw [nI_clamp (show p < 2 ^ 31 by omega), nI_1, show nI p / 4 = nI (p / 4) from pk_div (d := 4) (by omega) (by decide) (by decide)]
    exact h
  · exact r_X0_shapesTelling_4 C ad S x1 _ (nI 32) ⟨fun _ => hE, fun q => nle_no q⟩
set_option maxRecDepth 20000 in
theorem ggX0_leftAtWorst_X0_isFitting : GoodIn wsX0_leftAtWorst wsX0_isFitting := goodIn_r _ [11, 12, 13, 14, 15, 16, 17, 18, 19, 20, 32, 33, 34, 35, 36, 37, 38, 39] (by decide +kernel) (by decide +kernel)
set_option maxRecDepth 20000 in
theorem gX0_leftAtWorst_X0_isFitting : GoodIn wsX0_leftAtWorst (wsV RX0 32 RX0 yX0_isFitting wsX0_isFitting) := goodIn_app (goodIn_of _ (by decide +kernel)) ggX0_leftAtWorst_X0_isFitting
set_option maxRecDepth 20000 in
theorem ggX0_leftAtWorst_X3_sightOf : GoodIn wsX0_leftAtWorst wsX3_sightOf := goodIn_r _ [19, 20, 36, 37, 38, 39] (by decide +kernel) (by decide +kernel)
set_option maxRecDepth 20000 in
theorem gX0_leftAtWorst_X3_sightOf : GoodIn wsX0_leftAtWorst (wsV RX0 36 RX3 yX3_sightOf wsX3_sightOf) := goodIn_app (goodIn_of _ (by decide +kernel)) ggX0_leftAtWorst_X3_sightOf
set_option maxRecDepth 20000 in
theorem ggX0_leftAtWorst_X0_shapesTelling : GoodIn wsX0_leftAtWorst wsX0_shapesTelling := goodIn_r _ [24, 1, 32, 33, 34, 35] (by decide +kernel) (by decide +kernel)
set_option maxRecDepth 20000 in
theorem gX0_leftAtWorst_X0_shapesTelling : GoodIn wsX0_leftAtWorst (wsV RX0 40 RX0 yX0_shapesTelling wsX0_shapesTelling) := goodIn_app (goodIn_of _ (by decide +kernel)) ggX0_leftAtWorst_X0_shapesTelling
set_option maxRecDepth 20000 in
theorem ggX0_leftAtWorst_J6_bitCount_0f7a4 : GoodIn wsX0_leftAtWorst wsJ6_bitCount_0f7a4 := goodIn_r _ [28, 29, 30, 31] (by decide +kernel) (by decide +kernel)
set_option maxRecDepth 20000 in
theorem gX0_leftAtWorst_J6_bitCount_0f7a4 : GoodIn wsX0_leftAtWorst (va_wsS RX0 44 yJ6_bitCount_0f7a4 wsJ6_bitCount_0f7a4) := goodIn_app (goodIn_of _ (by decide +kernel)) ggX0_leftAtWorst_J6_bitCount_0f7a4
theorem dX0_leftAtWorst_0 : decode cX0_leftAtWorst 0 = .ok (.iconst 0, 1) := by decide +kernel
theorem dX0_leftAtWorst_1 : decode cX0_leftAtWorst 1 = .ok (.istore_n 3, 1) := by decide +kernel
theorem dX0_leftAtWorst_2 : decode cX0_leftAtWorst 2 = .ok (.iload_n 3, 1) := by decide +kernel
theorem dX0_leftAtWorst_3 : decode cX0_leftAtWorst 3 = .ok (.aload_n 0, 1) := by decide +kernel
theorem dX0_leftAtWorst_4 : decode cX0_leftAtWorst 4 = .ok (.getfield 20, 3) := by decide +kernel
theorem dX0_leftAtWorst_7 : decode cX0_leftAtWorst 7 = .ok (.arraylength, 1) := by decide +kernel
theorem dX0_leftAtWorst_8 : decode cX0_leftAtWorst 8 = .ok (.if_icmp .ge 71, 3) := by decide +kernel
theorem dX0_leftAtWorst_11 : decode cX0_leftAtWorst 11 = .ok (.iload_n 3, 1) := by decide +kernel
theorem dX0_leftAtWorst_12 : decode cX0_leftAtWorst 12 = .ok (.iconst 4, 1) := by decide +kernel
theorem dX0_leftAtWorst_13 : decode cX0_leftAtWorst 13 = .ok (.idiv, 1) := by decide +kernel
theorem dX0_leftAtWorst_14 : decode cX0_leftAtWorst 14 = .ok (.istore 4, 2) := by decide +kernel
theorem dX0_leftAtWorst_16 : decode cX0_leftAtWorst 16 = .ok (.iload_n 3, 1) := by decide +kernel
theorem dX0_leftAtWorst_17 : decode cX0_leftAtWorst 17 = .ok (.iconst 4, 1) := by decide +kernel
theorem dX0_leftAtWorst_18 : decode cX0_leftAtWorst 18 = .ok (.irem, 1) := by decide +kernel
theorem dX0_leftAtWorst_19 : decode cX0_leftAtWorst 19 = .ok (.istore 5, 2) := by decide +kernel
theorem dX0_leftAtWorst_21 : decode cX0_leftAtWorst 21 = .ok (.iload 4, 2) := by decide +kernel
theorem dX0_leftAtWorst_23 : decode cX0_leftAtWorst 23 = .ok (.aload_n 1, 1) := by decide +kernel
theorem dX0_leftAtWorst_24 : decode cX0_leftAtWorst 24 = .ok (.getfield 31, 3) := by decide +kernel
theorem dX0_leftAtWorst_27 : decode cX0_leftAtWorst 27 = .ok (.if_icmp .ge 19, 3) := by decide +kernel
theorem dX0_leftAtWorst_30 : decode cX0_leftAtWorst 30 = .ok (.aload_n 0, 1) := by decide +kernel
theorem dX0_leftAtWorst_31 : decode cX0_leftAtWorst 31 = .ok (.aload_n 1, 1) := by decide +kernel
theorem dX0_leftAtWorst_32 : decode cX0_leftAtWorst 32 = .ok (.iload 4, 2) := by decide +kernel
theorem dX0_leftAtWorst_34 : decode cX0_leftAtWorst 34 = .ok (.iload 5, 2) := by decide +kernel
theorem dX0_leftAtWorst_36 : decode cX0_leftAtWorst 36 = .ok (.invokevirtual 32, 3) := by decide +kernel
theorem dX0_leftAtWorst_39 : decode cX0_leftAtWorst 39 = .ok (.ifCond .eq 7, 3) := by decide +kernel
theorem dX0_leftAtWorst_42 : decode cX0_leftAtWorst 42 = .ok (.iconst 1, 1) := by decide +kernel
theorem dX0_leftAtWorst_43 : decode cX0_leftAtWorst 43 = .ok (.goto 4, 3) := by decide +kernel
theorem dX0_leftAtWorst_46 : decode cX0_leftAtWorst 46 = .ok (.iconst 0, 1) := by decide +kernel
theorem dX0_leftAtWorst_47 : decode cX0_leftAtWorst 47 = .ok (.istore 6, 2) := by decide +kernel
theorem dX0_leftAtWorst_49 : decode cX0_leftAtWorst 49 = .ok (.aload_n 0, 1) := by decide +kernel
theorem dX0_leftAtWorst_50 : decode cX0_leftAtWorst 50 = .ok (.getfield 20, 3) := by decide +kernel
theorem dX0_leftAtWorst_53 : decode cX0_leftAtWorst 53 = .ok (.iload_n 3, 1) := by decide +kernel
theorem dX0_leftAtWorst_54 : decode cX0_leftAtWorst 54 = .ok (.iload 6, 2) := by decide +kernel
theorem dX0_leftAtWorst_56 : decode cX0_leftAtWorst 56 = .ok (.ifCond .eq 15, 3) := by decide +kernel
theorem dX0_leftAtWorst_59 : decode cX0_leftAtWorst 59 = .ok (.aload_n 1, 1) := by decide +kernel
theorem dX0_leftAtWorst_60 : decode cX0_leftAtWorst 60 = .ok (.iload 4, 2) := by decide +kernel
theorem dX0_leftAtWorst_62 : decode cX0_leftAtWorst 62 = .ok (.iload 5, 2) := by decide +kernel
theorem dX0_leftAtWorst_64 : decode cX0_leftAtWorst 64 = .ok (.iload_n 2, 1) := by decide +kernel
theorem dX0_leftAtWorst_65 : decode cX0_leftAtWorst 65 = .ok (.invokevirtual 36, 3) := by decide +kernel
theorem dX0_leftAtWorst_68 : decode cX0_leftAtWorst 68 = .ok (.goto 4, 3) := by decide +kernel
theorem dX0_leftAtWorst_71 : decode cX0_leftAtWorst 71 = .ok (.iconst (-1), 1) := by decide +kernel
theorem dX0_leftAtWorst_72 : decode cX0_leftAtWorst 72 = .ok (.iastore, 1) := by decide +kernel
theorem dX0_leftAtWorst_73 : decode cX0_leftAtWorst 73 = .ok (.iinc 3 1, 3) := by decide +kernel
theorem dX0_leftAtWorst_76 : decode cX0_leftAtWorst 76 = .ok (.goto (-74), 3) := by decide +kernel
theorem dX0_leftAtWorst_79 : decode cX0_leftAtWorst 79 = .ok (.iconst 0, 1) := by decide +kernel
theorem dX0_leftAtWorst_80 : decode cX0_leftAtWorst 80 = .ok (.istore_n 3, 1) := by decide +kernel
theorem dX0_leftAtWorst_81 : decode cX0_leftAtWorst 81 = .ok (.iconst 0, 1) := by decide +kernel
theorem dX0_leftAtWorst_82 : decode cX0_leftAtWorst 82 = .ok (.istore 4, 2) := by decide +kernel
theorem dX0_leftAtWorst_84 : decode cX0_leftAtWorst 84 = .ok (.iload 4, 2) := by decide +kernel
theorem dX0_leftAtWorst_86 : decode cX0_leftAtWorst 86 = .ok (.aload_n 0, 1) := by decide +kernel
theorem dX0_leftAtWorst_87 : decode cX0_leftAtWorst 87 = .ok (.getfield 20, 3) := by decide +kernel
theorem dX0_leftAtWorst_90 : decode cX0_leftAtWorst 90 = .ok (.arraylength, 1) := by decide +kernel
theorem dX0_leftAtWorst_91 : decode cX0_leftAtWorst 91 = .ok (.if_icmp .ge 39, 3) := by decide +kernel
theorem dX0_leftAtWorst_94 : decode cX0_leftAtWorst 94 = .ok (.aload_n 0, 1) := by decide +kernel
theorem dX0_leftAtWorst_95 : decode cX0_leftAtWorst 95 = .ok (.getfield 20, 3) := by decide +kernel
theorem dX0_leftAtWorst_98 : decode cX0_leftAtWorst 98 = .ok (.iload 4, 2) := by decide +kernel
theorem dX0_leftAtWorst_100 : decode cX0_leftAtWorst 100 = .ok (.iaload, 1) := by decide +kernel
theorem dX0_leftAtWorst_101 : decode cX0_leftAtWorst 101 = .ok (.iconst (-1), 1) := by decide +kernel
theorem dX0_leftAtWorst_102 : decode cX0_leftAtWorst 102 = .ok (.if_icmp .eq 22, 3) := by decide +kernel
theorem dX0_leftAtWorst_105 : decode cX0_leftAtWorst 105 = .ok (.iload_n 3, 1) := by decide +kernel
theorem dX0_leftAtWorst_106 : decode cX0_leftAtWorst 106 = .ok (.aload_n 0, 1) := by decide +kernel
theorem dX0_leftAtWorst_107 : decode cX0_leftAtWorst 107 = .ok (.aload_n 0, 1) := by decide +kernel
theorem dX0_leftAtWorst_108 : decode cX0_leftAtWorst 108 = .ok (.getfield 20, 3) := by decide +kernel
theorem dX0_leftAtWorst_111 : decode cX0_leftAtWorst 111 = .ok (.iload 4, 2) := by decide +kernel
theorem dX0_leftAtWorst_113 : decode cX0_leftAtWorst 113 = .ok (.iaload, 1) := by decide +kernel
theorem dX0_leftAtWorst_114 : decode cX0_leftAtWorst 114 = .ok (.invokevirtual 40, 3) := by decide +kernel
theorem dX0_leftAtWorst_117 : decode cX0_leftAtWorst 117 = .ok (.invokestatic 44, 3) := by decide +kernel
theorem dX0_leftAtWorst_120 : decode cX0_leftAtWorst 120 = .ok (.invokestatic 49, 3) := by decide +kernel
theorem dX0_leftAtWorst_123 : decode cX0_leftAtWorst 123 = .ok (.istore_n 3, 1) := by decide +kernel
theorem dX0_leftAtWorst_124 : decode cX0_leftAtWorst 124 = .ok (.iinc 4 1, 3) := by decide +kernel
theorem dX0_leftAtWorst_127 : decode cX0_leftAtWorst 127 = .ok (.goto (-43), 3) := by decide +kernel
theorem dX0_leftAtWorst_130 : decode cX0_leftAtWorst 130 = .ok (.iload_n 3, 1) := by decide +kernel
theorem dX0_leftAtWorst_131 : decode cX0_leftAtWorst 131 = .ok (.ireturn, 1) := by decide +kernel
theorem iw_X0_leftAtWorst_X0 : ∀ w ∈ u_ws RX0 TX0 4, w ∈ wsX0_leftAtWorst := by decide +kernel
theorem iw_X0_leftAtWorst_X3 : ∀ w ∈ u_ws RX3 TX3 4, w ∈ wsX0_leftAtWorst := by decide +kernel
theorem lk_X0_leftAtWorst_0 : Cond.fieldLink RX0 20 (TX0 2).1 (TX0 2).2.1 (TX0 2).2.2.1 ∈ wsX0_leftAtWorst := by decide +kernel
theorem lk_X0_leftAtWorst_1 : Cond.fieldLink RX0 31 (TX3 2).1 (TX3 2).2.1 (TX3 2).2.2.1 ∈ wsX0_leftAtWorst := by decide +kernel
set_option maxRecDepth 100000 in
theorem r_X0_leftAtWorst_0 {X : Bn} (C : Cx X cX0_leftAtWorst 7 RX0 wsX0_leftAtWorst 2 48) (ad : Nat → Nat) (S : MS) (x2 : Int32) (h : At X 7 (cW X.E ad S) 2 [(0, .ref (ad 15)), (1, .ref (ad 5)), (2, .int x2), (3, .int 0)] []) : At X 7 (cW X.E ad S) 0 [(0, .ref (ad 15)), (1, .ref (ad 5)), (2, .int x2)] [] := by
  refine at_iconst C dX0_leftAtWorst_0 (v := 0) rfl ?_
  refine at_istore_n C dX0_leftAtWorst_1 rfl (by decide) (lv' := [(3, .int 0), (0, .ref (ad 15)), (1, .ref (ad 5)), (2, .int x2)]) rfl ?_
  refine at_lv [1, 2, 3, 0] rfl ?_
  exact h
set_option maxRecDepth 100000 in
theorem r_X0_leftAtWorst_2 {X : Bn} (C : Cx X cX0_leftAtWorst 7 RX0 wsX0_leftAtWorst 2 48) (ad : Nat → Nat) (S : MS) (x2 : Int32) (x3 : Int32) (h : ((32 ≤ x3) → (At X 7 (cW X.E ad S) 84 [(0, .ref (ad 15)), (3, .int 0), (4, .int 0)] [])) ∧ (¬ 32 ≤ x3 → ((((¬ S.1 6 0 ≤ x3 / 4) → (okK S))) ∧ ((vp_in x3 32) ∧ (At X 7 (cW X.E ad (pg S 14 x3.toNatClampNeg (if (if S.1 6 0 ≤ x3 / 4 then false else (if (f_X0_isFitting S (x3 / 4) (irm x3 4)) then true else false)) then f_X3_sightOf S (x3 / 4) (irm x3 4) x2 else (-1)))) 2 [(0, .ref (ad 15)), (1, .ref (ad 5)), (2, .int x2), (3, .int (x3 + 1))] []))))) : At X 7 (cW X.E ad S) 2 [(0, .ref (ad 15)), (1, .ref (ad 5)), (2, .int x2), (3, .int x3)] [] := by
  refine at_iload_n C dX0_leftAtWorst_2 rfl (j := 3) rfl ?_
  refine at_aload_n C dX0_leftAtWorst_3 rfl (j := 0) rfl ?_
  refine at_get C (K := RX0) (T := TX0) (N := 4) (ci := 0) (v := .ref (ad 18)) iw_X0_leftAtWorst_X0 15 cW_c15 rfl 2 (by decide) lk_X0_leftAtWorst_0 rfl dX0_leftAtWorst_4 ?_
  refine at_alen C 18 0 cW_c18 rfl (v := 32) rfl dX0_leftAtWorst_7 ?_
  refine at_icmp_ge C dX0_leftAtWorst_8 (tgt := 79) (by decide) (fun hc0 => ?_) (fun hc0 => ?_)
  · replace h := h.1 hc0
    refine at_iconst C dX0_leftAtWorst_79 (v := 0) rfl ?_
    refine at_istore_n C dX0_leftAtWorst_80 rfl (by decide) (lv' := [(3, .int 0), (0, .ref (ad 15)), (1, .ref (ad 5)), (2, .int x2)]) rfl ?_
    refine at_iconst C dX0_leftAtWorst_81 (v := 0) rfl ?_
    refine at_istore C dX0_leftAtWorst_82 (by decide) (lv' := [(4, .int 0), (3, .int 0), (0, .ref (ad 15)), (1, .ref (ad 5)), (2, .int x2)]) rfl ?_
    refine at_lv [2, 1, 0] rfl ?_
    exact h
  · replace h := h.2 hc0
    refine at_iload_n C dX0_leftAtWorst_11 rfl (j := 3) rfl ?_
    refine at_iconst C dX0_leftAtWorst_12 (v := 4) rfl ?_
    refine at_idiv C dX0_leftAtWorst_13 (by decide) ?_
    refine at_istore C dX0_leftAtWorst_14 (by decide) (lv' := [(4, .int (x3 / 4)), (0, .ref (ad 15)), (1, .ref (ad 5)), (2, .int x2), (3, .int x3)]) rfl ?_
    refine at_iload_n C dX0_leftAtWorst_16 rfl (j := 4) rfl ?_
    refine at_iconst C dX0_leftAtWorst_17 (v := 4) rfl ?_
    refine at_irem C dX0_leftAtWorst_18 (by decide) ?_
    refine at_istore C dX0_leftAtWorst_19 (by decide) (lv' := [(5, .int (irm x3 4)), (4, .int (x3 / 4)), (0, .ref (ad 15)), (1, .ref (ad 5)), (2, .int x2), (3, .int x3)]) rfl ?_
    refine at_iload C dX0_leftAtWorst_21 (j := 1) rfl ?_
    refine at_aload_n C dX0_leftAtWorst_23 rfl (j := 3) rfl ?_
    refine at_get C (K := RX3) (T := TX3) (N := 4) (ci := 2) (v := .int (S.1 6 0)) iw_X0_leftAtWorst_X3 5 cW_c5 rfl 2 (by decide) lk_X0_leftAtWorst_1 rfl dX0_leftAtWorst_24 ?_
    have hq := h.1
    replace h := h.2
    have K : At X 7 (cW X.E ad S) 47 [(0, .ref (ad 15)), (1, .ref (ad 5)), (2, .int x2), (3, .int x3), (4, .int (x3 / 4)), (5, .int (irm x3 4))] [.int (b2i (if S.1 6 0 ≤ x3 / 4 then false else (if (f_X0_isFitting S (x3 / 4) (irm x3 4)) then true else false)))] := by
      refine at_istore C dX0_leftAtWorst_47 (by decide) (lv' := [(6, .int (b2i (if S.1 6 0 ≤ x3 / 4 then false else (if (f_X0_isFitting S (x3 / 4) (irm x3 4)) then true else false)))), (0, .ref (ad 15)), (1, .ref (ad 5)), (2, .int x2), (3, .int x3), (4, .int (x3 / 4)), (5, .int (irm x3 4))]) rfl ?_
      refine at_aload_n C dX0_leftAtWorst_49 rfl (j := 1) rfl ?_
      refine at_get C (K := RX0) (T := TX0) (N := 4) (ci := 0) (v := .ref (ad 18)) iw_X0_leftAtWorst_X0 15 cW_c15 rfl 2 (by decide) lk_X0_leftAtWorst_0 rfl dX0_leftAtWorst_50 ?_
      refine at_iload_n C dX0_leftAtWorst_53 rfl (j := 4) rfl ?_
      refine at_iload C dX0_leftAtWorst_54 (j := 0) rfl ?_
      have K : At X 7 (cW X.E ad S) 72 [(0, .ref (ad 15)), (1, .ref (ad 5)), (2, .int x2), (3, .int x3)] [.int (if (if S.1 6 0 ≤ x3 / 4 then false else (if (f_X0_isFitting S (x3 / 4) (irm x3 4)) then true else false)) then f_X3_sightOf S (x3 / 4) (irm x3 4) x2 else (-1)), .int x3, .ref (ad 18)] := by
        refine at_iast C 18 cW_c18 h.1 cW_s18 dX0_leftAtWorst_72 ?_
        replace h := h.2
        refine at_iinc C dX0_leftAtWorst_73 (j := 3) (v := x3 + 1) rfl rfl (by decide) (lv' := [(3, .int (x3 + 1)), (0, .ref (ad 15)), (1, .ref (ad 5)), (2, .int x2)]) rfl ?_
        refine at_goto C dX0_leftAtWorst_76 (tgt := 2) (by decide) ?_
        refine at_lv [1, 2, 3, 0] rfl ?_
        exact h
      refine at_ifB_eq C dX0_leftAtWorst_56 (tgt := 71) (by decide) (fun hc1 => ?_) (fun hc1 => ?_)
      · skip
        refine at_iconst C dX0_leftAtWorst_71 (v := (-1)) rfl ?_
        refine at_lv [1, 2, 3, 4] rfl ?_
        first | (simp only [if_neg (show ¬ (if S.1 6 0 ≤ x3 / 4 then false else (if (f_X0_isFitting S (x3 / 4) (irm x3 4)) then true else false)) = true by rw [hc1]; decide)] at K; exact K) | exact K
      · skip
        refine at_aload_n C dX0_leftAtWorst_59 rfl (j := 2) rfl ?_
        refine at_iload C dX0_leftAtWorst_60 (j := 5) rfl ?_
        refine at_iload C dX0_leftAtWorst_62 (j := 6) rfl ?_
        refine at_iload_n C dX0_leftAtWorst_64 rfl (j := 3) rfl ?_
        refine at_cV1 C 3 (e_X3_sightOf X.l X.D X.E X.a1 X.a2 ad S (x3 / 4) (irm x3 4) x2) gX0_leftAtWorst_X3_sightOf rfl (by decide +kernel) ⟨rfl, rfl⟩ rfl rfl rfl 5 cW_c5 rfl dX0_leftAtWorst_65 ?_
        refine at_goto C dX0_leftAtWorst_68 (tgt := 72) (by decide) ?_
        refine at_lv [1, 2, 3, 4] rfl ?_
        first | (simp only [if_pos hc1] at K; exact K) | exact K
    replace h := hq
    refine at_icmp_ge C dX0_leftAtWorst_27 (tgt := 46) (by decide) (fun hc1 => ?_) (fun hc1 => ?_)
    · skip
      refine at_iconst C dX0_leftAtWorst_46 (v := 0) rfl ?_
      refine at_lv [2, 3, 4, 5, 1, 0] rfl ?_
      first | (simp only [if_pos hc1] at K; exact K) | exact K
    · replace h := h hc1
      refine at_aload_n C dX0_leftAtWorst_30 rfl (j := 2) rfl ?_
      refine at_aload_n C dX0_leftAtWorst_31 rfl (j := 3) rfl ?_
      refine at_iload C dX0_leftAtWorst_32 (j := 1) rfl ?_
      refine at_iload C dX0_leftAtWorst_34 (j := 0) rfl ?_
      refine at_cV1 C 3 (c_X0_isFitting X.l X.D X.E X.a1 X.a2 ad S (x3 / 4) (irm x3 4) h) gX0_leftAtWorst_X0_isFitting rfl (by decide +kernel) ⟨rfl, rfl⟩ rfl rfl rfl 15 cW_c15 rfl dX0_leftAtWorst_36 ?_
      refine at_ifB_eq C dX0_leftAtWorst_39 (tgt := 46) (by decide) (fun hc2 => ?_) (fun hc2 => ?_)
      · skip
        refine at_iconst C dX0_leftAtWorst_46 (v := 0) rfl ?_
        refine at_lv [2, 3, 4, 5, 1, 0] rfl ?_
        first | (simp only [if_neg hc1, if_neg (show ¬ (f_X0_isFitting S (x3 / 4) (irm x3 4)) = true by rw [hc2]; decide)] at K; exact K) | exact K
      · skip
        refine at_iconst C dX0_leftAtWorst_42 (v := 1) rfl ?_
        refine at_goto C dX0_leftAtWorst_43 (tgt := 47) (by decide) ?_
        refine at_lv [2, 3, 4, 5, 1, 0] rfl ?_
        first | (simp only [if_neg hc1, if_pos hc2] at K; exact K) | exact K
set_option maxRecDepth 100000 in
theorem r_X0_leftAtWorst_84 {X : Bn} (C : Cx X cX0_leftAtWorst 7 RX0 wsX0_leftAtWorst 2 48) (ad : Nat → Nat) (S : MS) (x3 : Int32) (x4 : Int32) (h : ((32 ≤ x4) → (Ends X (some .int) (some (.int x3)) (cW X.E ad S))) ∧ (¬ 32 ≤ x4 → ((vp_in x4 32) ∧ ((((¬ S.1 14 x4.toNatClampNeg = (-1)) → (vp_in x4 32))) ∧ (At X 7 (cW X.E ad S) 84 [(0, .ref (ad 15)), (3, .int (if S.1 14 x4.toNatClampNeg = (-1) then x3 else imax x3 (f_J6_bitCount_0f7a4 (f_X0_shapesTelling S (S.1 14 x4.toNatClampNeg))))), (4, .int (x4 + 1))] []))))) : At X 7 (cW X.E ad S) 84 [(0, .ref (ad 15)), (3, .int x3), (4, .int x4)] [] := by
  refine at_iload C dX0_leftAtWorst_84 (j := 2) rfl ?_
  refine at_aload_n C dX0_leftAtWorst_86 rfl (j := 0) rfl ?_
  refine at_get C (K := RX0) (T := TX0) (N := 4) (ci := 0) (v := .ref (ad 18)) iw_X0_leftAtWorst_X0 15 cW_c15 rfl 2 (by decide) lk_X0_leftAtWorst_0 rfl dX0_leftAtWorst_87 ?_
  refine at_alen C 18 0 cW_c18 rfl (v := 32) rfl dX0_leftAtWorst_90 ?_
  refine at_icmp_ge C dX0_leftAtWorst_91 (tgt := 130) (by decide) (fun hc1 => ?_) (fun hc1 => ?_)
  · replace h := h.1 hc1
    refine at_iload_n C dX0_leftAtWorst_130 rfl (j := 1) rfl ?_
    exact at_iret C dX0_leftAtWorst_131 h
  · replace h := h.2 hc1
    refine at_aload_n C dX0_leftAtWorst_94 rfl (j := 0) rfl ?_
    refine at_get C (K := RX0) (T := TX0) (N := 4) (ci := 0) (v := .ref (ad 18)) iw_X0_leftAtWorst_X0 15 cW_c15 rfl 2 (by decide) lk_X0_leftAtWorst_0 rfl dX0_leftAtWorst_95 ?_
    refine at_iload C dX0_leftAtWorst_98 (j := 2) rfl ?_
    refine at_iald C 18 cW_c18 h.1 dX0_leftAtWorst_100 ?_
    replace h := h.2
    refine at_iconst C dX0_leftAtWorst_101 (v := (-1)) rfl ?_
    have hq := h.1
    replace h := h.2
    have K : At X 7 (cW X.E ad S) 124 [(0, .ref (ad 15)), (3, .int (if S.1 14 x4.toNatClampNeg = (-1) then x3 else imax x3 (f_J6_bitCount_0f7a4 (f_X0_shapesTelling S (S.1 14 x4.toNatClampNeg))))), (4, .int x4)] [] := by
      refine at_iinc C dX0_leftAtWorst_124 (j := 2) (v := x4 + 1) rfl rfl (by decide) (lv' := [(4, .int (x4 + 1)), (0, .ref (ad 15)), (3, .int (if S.1 14 x4.toNatClampNeg = (-1) then x3 else imax x3 (f_J6_bitCount_0f7a4 (f_X0_shapesTelling S (S.1 14 x4.toNatClampNeg)))))]) rfl ?_
      refine at_goto C dX0_leftAtWorst_127 (tgt := 84) (by decide) ?_
      refine at_lv [1, 2, 0] rfl ?_
      exact h
    replace h := hq
    refine at_icmp_eq C dX0_leftAtWorst_102 (tgt := 124) (by decide) (fun hc2 => ?_) (fun hc2 => ?_)
    · skip
      first | (simp only [if_pos hc2] at K; exact K) | exact K
    · replace h := h hc2
      refine at_iload_n C dX0_leftAtWorst_105 rfl (j := 1) rfl ?_
      refine at_aload_n C dX0_leftAtWorst_106 rfl (j := 0) rfl ?_
      refine at_aload_n C dX0_leftAtWorst_107 rfl (j := 0) rfl ?_
      refine at_get C (K := RX0) (T := TX0) (N := 4) (ci := 0) (v := .ref (ad 18)) iw_X0_leftAtWorst_X0 15 cW_c15 rfl 2 (by decide) lk_X0_leftAtWorst_0 rfl dX0_leftAtWorst_108 ?_
      refine at_iload C dX0_leftAtWorst_111 (j := 2) rfl ?_
      refine at_iald C 18 cW_c18 h dX0_leftAtWorst_113 ?_
      refine at_cV1 C 1 (c_X0_shapesTelling X.l X.D X.E X.a1 X.a2 ad S (S.1 14 x4.toNatClampNeg)) gX0_leftAtWorst_X0_shapesTelling rfl (by decide +kernel) ⟨rfl, rfl⟩ rfl rfl rfl 15 cW_c15 rfl dX0_leftAtWorst_114 ?_
      refine at_cS0 C 1 (c_J6_bitCount_0f7a4 X.l X.D X.E X.a1 X.a2 (f_X0_shapesTelling S (S.1 14 x4.toNatClampNeg))) gX0_leftAtWorst_J6_bitCount_0f7a4 rfl (by decide +kernel) ⟨rfl, rfl⟩ rfl rfl rfl dX0_leftAtWorst_117 ?_
      refine at_mmax C (ix := 49) (by decide +kernel) (by decide +kernel) (by decide +kernel) (by decide +kernel) ⟨rfl, rfl⟩ dX0_leftAtWorst_120 ?_
      refine at_istore_n C dX0_leftAtWorst_123 rfl (by decide) (lv' := [(3, .int (imax x3 (f_J6_bitCount_0f7a4 (f_X0_shapesTelling S (S.1 14 x4.toNatClampNeg))))), (0, .ref (ad 15)), (4, .int x4)]) rfl ?_
      refine at_lv [1, 0, 2] rfl ?_
      first | (simp only [if_neg hc2] at K; exact K) | exact K
def lwT (S : MS) (side : Int32) (p : Nat) : Int32 := if (if S.1 6 0 ≤ nI (p / 4) then false else (if f_X0_isFitting S (nI (p / 4)) (nI (p % 4)) then true else false)) then f_X3_sightOf S (nI (p / 4)) (nI (p % 4)) side else -1
def lwV (T : Nat → Int32) : Int32 := itF (fun p w => if T p = -1 then w else imax w (f_J6_bitCount_0f7a4 (tlB T (T p)))) 0 32 0
theorem tlB_congr {T U : Nat → Int32} (h : ∀ p, p < 32 → T p = U p) (x : Int32) : tlB T x = tlB U x := itF_cong (N := 32) (fun p a hp => by rw [h p hp]) 32 0 0 rfl
theorem lwV_congr {T U : Nat → Int32} (h : ∀ p, p < 32 → T p = U p) : lwV T = lwV U := itF_cong (N := 32) (fun p a hp => by rw [h p hp, tlB_congr h]) 32 0 0 rfl
theorem c_X0_leftAtWorst (ad : Nat → Nat) (S : MS) (hK : okK S) (side : Int32) :
    ∃ f, ∀ (l : Launch) (D : va_G) (E : Nat → ClassId) (a1 a2 : Nat), Fn l D E a1 a2 yX0_leftAtWorst wsX0_leftAtWorst 2 48 [.ref (ad 15), .ref (ad 5), .int side] (cW E ad S) (some (.int (lwV (lwT S side)))) (cW E ad (setF S 14 f)) := by
  have fit : ∀ f : Nat → Int32, f_X0_isFitting (setF S 14 f) = f_X0_isFitting S := fun f => by
    funext a b
    unfold f_X0_isFitting fitC f_X3_sightOf
    rw [setF_o (by decide), setF_o (by decide), setF_o (by decide), setF_o (by decide)]
  have sig : ∀ f : Nat → Int32, f_X3_sightOf (setF S 14 f) = f_X3_sightOf S := fun f => by
    funext a b c
    unfold f_X3_sightOf
    rw [setF_o (by decide)]
  have okk : ∀ f : Nat → Int32, okK (setF S 14 f) := fun f => by
    obtain ⟨cnt, h1, h2⟩ := hK
    exact ⟨cnt, h1, by rw [setF_o (by decide)]; exact h2⟩
  have fold : ∀ (k i : Nat) (f : Nat → Int32), i + k = 32 → (∀ p, p < i → f p = lwT S side p) → ∃ f', (∀ p, p < 32 → f' p = lwT S side p) ∧ ∀ X : Bn, Cx X cX0_leftAtWorst 7 RX0 wsX0_leftAtWorst 2 48 → At X 7 (cW X.E ad (setF S 14 f')) 84 [(0, .ref (ad 15)), (3, .int 0), (4, .int 0)] [] → At X 7 (cW X.E ad (setF S 14 f)) 2 [(0, .ref (ad 15)), (1, .ref (ad 5)), (2, .int side), (3, .int (nI i))] [] := by
    intro k
    induction k with
    | zero =>
      intro i f hi hf
      have : i = 32 := by omega
      subst this
      exact ⟨f, hf, fun X C h => r_X0_leftAtWorst_2 C ad _ side (nI 32) ⟨fun _ => h, fun q => nle_no q⟩⟩
    | succ k ih =>
      intro i f hi hf
      obtain ⟨f', h1, h2⟩ := ih (i + 1) (upd f i (lwT S side i)) (by omega) (fun c hc => by
        unfold upd
        by_cases q : c = i
        · rw [if_pos q, q]
        · rw [if_neg q]; exact hf c (by omega))
      refine ⟨f', h1, fun X C h => ?_⟩
      refine r_X0_leftAtWorst_2 C ad _ side (nI i) ⟨fun q => nlt_no (a := i) (b := 32) (by decide) (by omega) q, fun _ => ⟨fun _ => okk f, vp_in_nI (by omega) (by decide), ?_⟩⟩
      rw [fit, sig, setF_o (by decide), setF_pg, nI_clamp (show i < 2 ^ 31 by omega), nI_1, show nI i / 4 = nI (i / 4) from pk_div (d := 4) (by omega) (by decide) (by decide), show irm (nI i) 4 = nI (i % 4) from irm_nI (d := 4) (by omega) (by decide) (by decide)]
      exact h2 X C h
  obtain ⟨f', hf', hgo⟩ := fold 32 0 (S.1 14) rfl (fun c hc => absurd hc (Nat.not_lt_zero c))
  refine ⟨f', fun l D E a1 a2 => ?_⟩
  refine Fn.of (cc := cX0_leftAtWorst) (maxL := 7) (ret := (some .int)) (own := RX0) (by decide) rfl rfl (sameC _ _ _ _) (Nat.le_of_ble_eq_true rfl) (fun X q1 q2 q3 q4 q5 C hE => ?_)
  subst q1 q2 q3 q4 q5
  refine r_X0_leftAtWorst_0 C ad S side ?_
  have h1 : At X 7 (cW X.E ad (setF S 14 f')) 84 [(0, .ref (ad 15)), (3, .int 0), (4, .int 0)] [] := by
    rw [← lwV_congr hf'] at hE
    refine for_go (P := fun p a => At X 7 (cW X.E ad (setF S 14 f')) 84 [(0, .ref (ad 15)), (3, .int a), (4, .int (nI p))] []) (N := 32) (fun p w => if f' p = -1 then w else imax w (f_J6_bitCount_0f7a4 (tlB f' (f' p)))) (fun p a hp h => ?_) 32 0 0 rfl ?_
    · refine r_X0_leftAtWorst_84 C ad _ a (nI p) ⟨fun q => nlt_no (by decide) hp q, fun _ => ⟨vp_in_nI hp (by decide), fun _ => vp_in_nI hp (by decide), ?_⟩⟩
      rw [f_X0_shapesTelling, setF_k, nI_clamp (show p < 2 ^ 31 by omega), nI_1]
      exact h
    · exact r_X0_leftAtWorst_84 C ad _ _ (nI 32) ⟨fun _ => hE, fun q => nle_no q⟩
  have h2 := hgo X C h1
  rw [setF_self] at h2
  exact h2
theorem dX4_renew_0 : decode cX4_renew 0 = .ok (.aload_n 0, 1) := by decide +kernel
theorem dX4_renew_1 : decode cX4_renew 1 = .ok (.iload_n 1, 1) := by decide +kernel
theorem dX4_renew_2 : decode cX4_renew 2 = .ok (.putfield 19, 3) := by decide +kernel
theorem dX4_renew_5 : decode cX4_renew 5 = .ok (.aload_n 0, 1) := by decide +kernel
theorem dX4_renew_6 : decode cX4_renew 6 = .ok (.iload_n 2, 1) := by decide +kernel
theorem dX4_renew_7 : decode cX4_renew 7 = .ok (.iconst 0, 1) := by decide +kernel
theorem dX4_renew_8 : decode cX4_renew 8 = .ok (.invokestatic 23, 3) := by decide +kernel
theorem dX4_renew_11 : decode cX4_renew 11 = .ok (.bipush 64, 2) := by decide +kernel
theorem dX4_renew_13 : decode cX4_renew 13 = .ok (.invokestatic 29, 3) := by decide +kernel
theorem dX4_renew_16 : decode cX4_renew 16 = .ok (.putfield 32, 3) := by decide +kernel
theorem dX4_renew_19 : decode cX4_renew 19 = .ok (.aload_n 0, 1) := by decide +kernel
theorem dX4_renew_20 : decode cX4_renew 20 = .ok (.iconst 0, 1) := by decide +kernel
theorem dX4_renew_21 : decode cX4_renew 21 = .ok (.putfield 15, 3) := by decide +kernel
theorem dX4_renew_24 : decode cX4_renew 24 = .ok (.iconst 0, 1) := by decide +kernel
theorem dX4_renew_25 : decode cX4_renew 25 = .ok (.istore_n 3, 1) := by decide +kernel
theorem dX4_renew_26 : decode cX4_renew 26 = .ok (.iload_n 3, 1) := by decide +kernel
theorem dX4_renew_27 : decode cX4_renew 27 = .ok (.bipush 64, 2) := by decide +kernel
theorem dX4_renew_29 : decode cX4_renew 29 = .ok (.if_icmp .ge 16, 3) := by decide +kernel
theorem dX4_renew_32 : decode cX4_renew 32 = .ok (.aload_n 0, 1) := by decide +kernel
theorem dX4_renew_33 : decode cX4_renew 33 = .ok (.getfield 11, 3) := by decide +kernel
theorem dX4_renew_36 : decode cX4_renew 36 = .ok (.iload_n 3, 1) := by decide +kernel
theorem dX4_renew_37 : decode cX4_renew 37 = .ok (.iconst 0, 1) := by decide +kernel
theorem dX4_renew_38 : decode cX4_renew 38 = .ok (.iastore, 1) := by decide +kernel
theorem dX4_renew_39 : decode cX4_renew 39 = .ok (.iinc 3 1, 3) := by decide +kernel
theorem dX4_renew_42 : decode cX4_renew 42 = .ok (.goto (-16), 3) := by decide +kernel
theorem dX4_renew_45 : decode cX4_renew 45 = .ok (.return_, 1) := by decide +kernel
theorem iw_X4_renew_X4 : ∀ w ∈ u_ws RX4 TX4 4, w ∈ wsX4_renew := by decide +kernel
theorem lk_X4_renew_0 : Cond.fieldLink RX4 19 (TX4 1).1 (TX4 1).2.1 (TX4 1).2.2.1 ∈ wsX4_renew := by decide +kernel
theorem lk_X4_renew_1 : Cond.fieldLink RX4 32 (TX4 2).1 (TX4 2).2.1 (TX4 2).2.2.1 ∈ wsX4_renew := by decide +kernel
theorem lk_X4_renew_2 : Cond.fieldLink RX4 15 (TX4 3).1 (TX4 3).2.1 (TX4 3).2.2.1 ∈ wsX4_renew := by decide +kernel
theorem lk_X4_renew_3 : Cond.fieldLink RX4 11 (TX4 0).1 (TX4 0).2.1 (TX4 0).2.2.1 ∈ wsX4_renew := by decide +kernel
set_option maxRecDepth 100000 in
theorem r_X4_renew_0 {X : Bn} (C : Cx X cX4_renew 4 RX4 wsX4_renew 1 40) (ad : Nat → Nat) (S : MS) (k : Nat) (hk : k < 4) (x1 : Int32) (x2 : Int32) (h : At X 4 (cW X.E ad (pg (pg (pg S (24 + k) 0 x1) (28 + k) 0 (imin (imax x2 0) 64)) (32 + k) 0 0)) 26 [(0, .ref (ad (20 + 2 * k))), (3, .int 0)] []) : At X 4 (cW X.E ad S) 0 [(0, .ref (ad (20 + 2 * k))), (1, .int x1), (2, .int x2)] [] := by
  refine at_aload_n C dX4_renew_0 rfl (j := 0) rfl ?_
  refine at_iload_n C dX4_renew_1 rfl (j := 1) rfl ?_
  refine at_put C (K := RX4) (T := TX4) (N := 4) (ci := 3) (ty := .int) iw_X4_renew_X4 tyX4 tyX4_ok nmX4 (20 + 2 * k) (cW_sheet hk) rfl 1 (by decide) lk_X4_renew_0 rfl rfl rfl rfl (Nat.le_of_ble_eq_true rfl) (cW_set_sheet1 hk) dX4_renew_2 ?_
  refine at_aload_n C dX4_renew_5 rfl (j := 0) rfl ?_
  refine at_iload_n C dX4_renew_6 rfl (j := 2) rfl ?_
  refine at_iconst C dX4_renew_7 (v := 0) rfl ?_
  refine at_mmax C (ix := 23) (by decide +kernel) (by decide +kernel) (by decide +kernel) (by decide +kernel) ⟨rfl, rfl⟩ dX4_renew_8 ?_
  refine at_bipush C dX4_renew_11 (v := 64) rfl ?_
  refine at_mmin C (ix := 29) (by decide +kernel) (by decide +kernel) (by decide +kernel) (by decide +kernel) ⟨rfl, rfl⟩ dX4_renew_13 ?_
  refine at_put C (K := RX4) (T := TX4) (N := 4) (ci := 3) (ty := .int) iw_X4_renew_X4 tyX4 tyX4_ok nmX4 (20 + 2 * k) (cW_sheet hk) rfl 2 (by decide) lk_X4_renew_1 rfl rfl rfl rfl (Nat.le_of_ble_eq_true rfl) (cW_set_sheet2 hk) dX4_renew_16 ?_
  refine at_aload_n C dX4_renew_19 rfl (j := 0) rfl ?_
  refine at_iconst C dX4_renew_20 (v := 0) rfl ?_
  refine at_put C (K := RX4) (T := TX4) (N := 4) (ci := 3) (ty := .boolean) iw_X4_renew_X4 tyX4 tyX4_ok nmX4 (20 + 2 * k) (cW_sheet hk) rfl 3 (by decide) lk_X4_renew_2 rfl rfl rfl rfl (Nat.le_of_ble_eq_true rfl) (cW_set_sheet3 hk) dX4_renew_21 ?_
  refine at_iconst C dX4_renew_24 (v := 0) rfl ?_
  refine at_istore_n C dX4_renew_25 rfl (by decide) (lv' := [(3, .int 0), (0, .ref (ad (20 + 2 * k))), (1, .int x1), (2, .int x2)]) rfl ?_
  refine at_lv [1, 0] rfl ?_
  exact h
set_option maxRecDepth 100000 in
theorem r_X4_renew_26 {X : Bn} (C : Cx X cX4_renew 4 RX4 wsX4_renew 1 40) (ad : Nat → Nat) (S : MS) (k : Nat) (hk : k < 4) (x3 : Int32) (h : ((64 ≤ x3) → (Ends X (none) none (cW X.E ad S))) ∧ (¬ 64 ≤ x3 → ((vp_in x3 64) ∧ (At X 4 (cW X.E ad (pg S (20 + k) x3.toNatClampNeg 0)) 26 [(0, .ref (ad (20 + 2 * k))), (3, .int (x3 + 1))] [])))) : At X 4 (cW X.E ad S) 26 [(0, .ref (ad (20 + 2 * k))), (3, .int x3)] [] := by
  refine at_iload_n C dX4_renew_26 rfl (j := 1) rfl ?_
  refine at_bipush C dX4_renew_27 (v := 64) rfl ?_
  refine at_icmp_ge C dX4_renew_29 (tgt := 45) (by decide) (fun hc0 => ?_) (fun hc0 => ?_)
  · replace h := h.1 hc0
    exact at_vret C dX4_renew_45 h
  · replace h := h.2 hc0
    refine at_aload_n C dX4_renew_32 rfl (j := 0) rfl ?_
    refine at_get C (K := RX4) (T := TX4) (N := 4) (ci := 3) (v := .ref (ad (21 + 2 * k))) iw_X4_renew_X4 (20 + 2 * k) (cW_sheet hk) rfl 0 (by decide) lk_X4_renew_3 rfl dX4_renew_33 ?_
    refine at_iload_n C dX4_renew_36 rfl (j := 1) rfl ?_
    refine at_iconst C dX4_renew_37 (v := 0) rfl ?_
    refine at_iast C (21 + 2 * k) (cW_items hk) h.1 (cW_set_items hk) dX4_renew_38 ?_
    replace h := h.2
    refine at_iinc C dX4_renew_39 (j := 1) (v := x3 + 1) rfl rfl (by decide) (lv' := [(3, .int (x3 + 1)), (0, .ref (ad (20 + 2 * k)))]) rfl ?_
    refine at_goto C dX4_renew_42 (tgt := 26) (by decide) ?_
    refine at_lv [1, 0] rfl ?_
    exact h
def s_X4_renew (S : MS) (k : Nat) (x1 x2 : Int32) : MS := itF (fun i S => pg S (20 + k) i 0) 0 64 (pg (pg (pg S (24 + k) 0 x1) (28 + k) 0 (imin (imax x2 0) 64)) (32 + k) 0 0)
set_option maxRecDepth 100000 in
theorem c_X4_renew (l : Launch) (D : va_G) (E : Nat → ClassId) (a1 a2 : Nat) (ad : Nat → Nat) (S : MS) (k : Nat) (hk : k < 4) (x1 x2 : Int32) : Fn l D E a1 a2 yX4_renew wsX4_renew 1 40 [.ref (ad (20 + 2 * k)), .int x1, .int x2] (cW E ad S) none (cW E ad (s_X4_renew S k x1 x2)) := by
  refine Fn.of (cc := cX4_renew) (maxL := 4) (ret := none) (own := RX4) (by decide) rfl rfl (sameC _ _ _ _) (Nat.le_of_ble_eq_true rfl) (fun X h1 h2 h3 h4 h5 C hE => ?_)
  subst h1 h2 h3 h4 h5
  refine r_X4_renew_0 C ad S k hk x1 x2 ?_
  refine for_go (P := fun i T => At X 4 (cW X.E ad T) 26 [(0, .ref (ad (20 + 2 * k))), (3, .int (nI i))] []) (N := 64) (fun i S => pg S (20 + k) i 0) (fun i T hi h => ?_) 64 0 _ rfl ?_
  · refine r_X4_renew_26 C ad T k hk (nI i) ⟨fun q => nlt_no (by decide) hi q, fun _ => ⟨vp_in_nI hi (by decide), ?_⟩⟩
    rw [nI_clamp (show i < 2 ^ 31 by omega), nI_1]
    exact h
  · exact r_X4_renew_26 C ad _ k hk (nI 64) ⟨fun _ => hE, fun q => nle_no q⟩
