theorem dX8_ones_0 : decode cX8_ones 0 = .ok (.iconst 0, 1) := by decide +kernel
theorem dX8_ones_1 : decode cX8_ones 1 = .ok (.istore_n 1, 1) := by decide +kernel
theorem dX8_ones_2 : decode cX8_ones 2 = .ok (.iload_n 0, 1) := by decide +kernel
theorem dX8_ones_3 : decode cX8_ones 3 = .ok (.istore_n 2, 1) := by decide +kernel
theorem dX8_ones_4 : decode cX8_ones 4 = .ok (.iload_n 2, 1) := by decide +kernel
theorem dX8_ones_5 : decode cX8_ones 5 = .ok (.ifCond .eq 15, 3) := by decide +kernel
theorem dX8_ones_8 : decode cX8_ones 8 = .ok (.iinc 1 1, 3) := by decide +kernel
theorem dX8_ones_11 : decode cX8_ones 11 = .ok (.iload_n 2, 1) := by decide +kernel
theorem dX8_ones_12 : decode cX8_ones 12 = .ok (.iload_n 2, 1) := by decide +kernel
theorem dX8_ones_13 : decode cX8_ones 13 = .ok (.iconst 1, 1) := by decide +kernel
theorem dX8_ones_14 : decode cX8_ones 14 = .ok (.isub, 1) := by decide +kernel
theorem dX8_ones_15 : decode cX8_ones 15 = .ok (.iand, 1) := by decide +kernel
theorem dX8_ones_16 : decode cX8_ones 16 = .ok (.istore_n 2, 1) := by decide +kernel
theorem dX8_ones_17 : decode cX8_ones 17 = .ok (.goto (-13), 3) := by decide +kernel
theorem dX8_ones_20 : decode cX8_ones 20 = .ok (.iload_n 1, 1) := by decide +kernel
theorem dX8_ones_21 : decode cX8_ones 21 = .ok (.ireturn, 1) := by decide +kernel
set_option maxRecDepth 100000 in
theorem r_X8_ones_0 {X : Bn} (C : Cx X cX8_ones 3 RX8 wsX8_ones 0 0) {ws : va_W} (x0 : Int32) (h : At X 3 (ws) 4 [(1, .int 0), (2, .int x0)] []) : At X 3 (ws) 0 [(0, .int x0)] [] := by
  refine at_iconst C dX8_ones_0 (v := 0) rfl ?_
  refine at_istore_n C dX8_ones_1 rfl (by decide) (lv' := [(1, .int 0), (0, .int x0)]) rfl ?_
  refine at_iload_n C dX8_ones_2 rfl (j := 1) rfl ?_
  refine at_istore_n C dX8_ones_3 rfl (by decide) (lv' := [(2, .int x0), (1, .int 0), (0, .int x0)]) rfl ?_
  refine at_lv [1, 0] rfl ?_
  exact h
set_option maxRecDepth 100000 in
theorem r_X8_ones_4 {X : Bn} (C : Cx X cX8_ones 3 RX8 wsX8_ones 0 0) {ws : va_W} (x1 : Int32) (x2 : Int32) (h : ((x2 = 0) → (Ends X (some .int) (some (.int x1)) (ws))) ∧ (¬ x2 = 0 → (At X 3 (ws) 4 [(1, .int (x1 + 1)), (2, .int (x2 &&& (x2 - 1)))] []))) : At X 3 (ws) 4 [(1, .int x1), (2, .int x2)] [] := by
  refine at_iload_n C dX8_ones_4 rfl (j := 1) rfl ?_
  refine at_if_eq C dX8_ones_5 (tgt := 20) (by decide) (fun hc0 => ?_) (fun hc0 => ?_)
  · replace h := h.1 hc0
    refine at_iload_n C dX8_ones_20 rfl (j := 0) rfl ?_
    exact at_iret C dX8_ones_21 h
  · replace h := h.2 hc0
    refine at_iinc C dX8_ones_8 (j := 0) (v := x1 + 1) rfl rfl (by decide) (lv' := [(1, .int (x1 + 1)), (2, .int x2)]) rfl ?_
    refine at_iload_n C dX8_ones_11 rfl (j := 1) rfl ?_
    refine at_iload_n C dX8_ones_12 rfl (j := 1) rfl ?_
    refine at_iconst C dX8_ones_13 (v := 1) rfl ?_
    refine at_isub C dX8_ones_14 ?_
    refine at_iand C dX8_ones_15 ?_
    refine at_istore_n C dX8_ones_16 rfl (by decide) (lv' := [(2, .int (x2 &&& (x2 - 1))), (1, .int (x1 + 1))]) rfl ?_
    refine at_goto C dX8_ones_17 (tgt := 4) (by decide) ?_
    refine at_lv [1, 0] rfl ?_
    exact h
/-- how many bits of the lowest k -/
def pcR : Nat → Nat → Nat
  | 0, _ => 0
  | k + 1, n => n % 2 + pcR k (n / 2)
theorem and_pred : ∀ (k m : Nat), 0 < m → m < 2 ^ k → pcR k (m &&& (m - 1)) + 1 = pcR k m ∧ (m &&& (m - 1)) < m
  | 0, m, h, h2 => by omega
  | k + 1, m, h, h2 => by
    have hb : (m &&& (m - 1)) ≤ m - 1 := Nat.and_le_right
    refine ⟨?_, by omega⟩
    have hd : (m &&& (m - 1)) / 2 = (m / 2) &&& ((m - 1) / 2) := Nat.and_div_two
    have hm : (m &&& (m - 1)) % 2 = 0 := by
      have h3 : (m &&& (m - 1)) % 2 = (m % 2) &&& ((m - 1) % 2) := by
        have := Nat.and_mod_two_pow (a := m) (b := m - 1) (n := 1)
        simpa using this
      rw [h3]
      rcases Nat.mod_two_eq_zero_or_one m with e | e
      · rw [e]; simp
      · have : (m - 1) % 2 = 0 := by omega
        rw [this]; simp
    show (m &&& (m - 1)) % 2 + pcR k ((m &&& (m - 1)) / 2) + 1 = m % 2 + pcR k (m / 2)
    rw [hm, hd]
    rcases Nat.mod_two_eq_zero_or_one m with e | e
    · have e1 : (m - 1) / 2 = m / 2 - 1 := by omega
      rw [e1, e]
      have := (and_pred k (m / 2) (by omega) (by rw [Nat.pow_succ] at h2; omega)).1
      omega
    · have e1 : (m - 1) / 2 = m / 2 := by omega
      rw [e1, e, Nat.and_self]
      omega
def uI (x : Int32) : Nat := x.toBitVec.toNat
theorem uI_lt (x : Int32) : uI x < 2 ^ 32 := x.toBitVec.isLt
theorem uI_nI {n : Nat} (h : n < 2 ^ 32) : uI (nI n) = n := pk_tn h
theorem nI_uI (x : Int32) : nI (uI x) = x := by
  apply Int32.toBitVec_inj.mp
  show BitVec.ofNat 32 x.toBitVec.toNat = x.toBitVec
  simp
theorem uI_0 {x : Int32} : x = 0 ↔ uI x = 0 := by
  constructor
  · intro h; rw [h]; rfl
  · intro h; rw [← nI_uI x, h]; rfl
theorem uI_pred {x : Int32} (h : ¬ x = 0) : uI (x &&& (x - 1)) = uI x &&& (uI x - 1) := by
  have h0 : uI x ≠ 0 := fun e => h (uI_0.mpr e)
  have h1 := uI_lt x
  show (x.toBitVec &&& (x - 1).toBitVec).toNat = _
  rw [BitVec.toNat_and]
  have : (x - 1).toBitVec.toNat = uI x - 1 := by
    rw [Int32.toBitVec_sub, BitVec.toNat_sub]
    have e : (1 : Int32).toBitVec.toNat = 1 := rfl
    rw [e]
    show (2 ^ 32 - 1 + uI x) % 2 ^ 32 = uI x - 1
    omega
  rw [this]
  rfl
def f_X8_ones (x : Int32) : Int32 := nI (pcR 32 (uI x))
set_option maxRecDepth 100000 in
theorem c_X8_ones (l : Launch) (D : va_G) (E : Nat → ClassId) (a1 a2 : Nat)  (x0 : Int32) : Fn l D E a1 a2 yX8_ones wsX8_ones 0 0 [.int x0] [] (some (.int (f_X8_ones x0))) [] := by
  refine Fn.of (cc := cX8_ones) (maxL := 3) (ret := (some .int)) (own := RX8) (by decide) rfl rfl rfl (Nat.le_of_ble_eq_true rfl) (fun X h1 h2 h3 h4 h5 C hE => ?_)
  subst h1 h2 h3 h4 h5
  refine r_X8_ones_0 C x0 ?_
  have key : ∀ (m : Nat) (x2 : Int32) (i : Nat), uI x2 ≤ m → nI i + f_X8_ones x2 = f_X8_ones x0 → At X 3 [] 4 [(1, .int (nI i)), (2, .int x2)] [] := by
    intro m
    induction m with
    | zero =>
      intro x2 i h1 h2
      have hx : x2 = 0 := uI_0.mpr (by omega)
      refine r_X8_ones_4 C _ _ ⟨fun _ => ?_, fun q => absurd hx q⟩
      rw [hx] at h2
      have : nI i = f_X8_ones x0 := by rw [← h2]; show nI i = nI i + nI 0; rw [nI_add, Nat.add_zero]
      rw [this]
      exact hE
    | succ m ih =>
      intro x2 i h1 h2
      refine r_X8_ones_4 C _ _ ⟨fun hx => ?_, fun hx => ?_⟩
      · rw [hx] at h2
        have : nI i = f_X8_ones x0 := by rw [← h2]; show nI i = nI i + nI 0; rw [nI_add, Nat.add_zero]
        rw [this]
        exact hE
      · have h0 : uI x2 ≠ 0 := fun e => hx (uI_0.mpr e)
        obtain ⟨q1, q2⟩ := and_pred 32 (uI x2) (by omega) (uI_lt x2)
        rw [nI_1]
        refine ih _ (i + 1) (by rw [uI_pred hx]; omega) ?_
        rw [← h2, f_X8_ones, f_X8_ones, uI_pred hx, nI_add, nI_add, ← q1]
        exact congrArg nI (by omega)
  exact key _ x0 0 (Nat.le_refl _) (by show nI 0 + nI _ = nI _; rw [nI_add, Nat.zero_add])
set_option maxRecDepth 20000 in
theorem ggX8_turnedOnce_X8_bitOf : GoodIn wsX8_turnedOnce wsX8_bitOf := goodIn_r _ [4] (by decide +kernel) (by decide +kernel)
set_option maxRecDepth 20000 in
theorem gX8_turnedOnce_X8_bitOf : GoodIn wsX8_turnedOnce (va_wsS RX8 124 yX8_bitOf wsX8_bitOf) := goodIn_app (goodIn_of _ (by decide +kernel)) ggX8_turnedOnce_X8_bitOf
theorem dX8_turnedOnce_0 : decode cX8_turnedOnce 0 = .ok (.iconst 0, 1) := by decide +kernel
theorem dX8_turnedOnce_1 : decode cX8_turnedOnce 1 = .ok (.istore_n 1, 1) := by decide +kernel
theorem dX8_turnedOnce_2 : decode cX8_turnedOnce 2 = .ok (.iconst 0, 1) := by decide +kernel
theorem dX8_turnedOnce_3 : decode cX8_turnedOnce 3 = .ok (.istore_n 2, 1) := by decide +kernel
theorem dX8_turnedOnce_4 : decode cX8_turnedOnce 4 = .ok (.iload_n 2, 1) := by decide +kernel
theorem dX8_turnedOnce_5 : decode cX8_turnedOnce 5 = .ok (.iconst 4, 1) := by decide +kernel
theorem dX8_turnedOnce_6 : decode cX8_turnedOnce 6 = .ok (.if_icmp .ge 42, 3) := by decide +kernel
theorem dX8_turnedOnce_9 : decode cX8_turnedOnce 9 = .ok (.iconst 0, 1) := by decide +kernel
theorem dX8_turnedOnce_10 : decode cX8_turnedOnce 10 = .ok (.istore_n 3, 1) := by decide +kernel
theorem dX8_turnedOnce_11 : decode cX8_turnedOnce 11 = .ok (.iload_n 3, 1) := by decide +kernel
theorem dX8_turnedOnce_12 : decode cX8_turnedOnce 12 = .ok (.iconst 4, 1) := by decide +kernel
theorem dX8_turnedOnce_13 : decode cX8_turnedOnce 13 = .ok (.if_icmp .ge 29, 3) := by decide +kernel
theorem dX8_turnedOnce_16 : decode cX8_turnedOnce 16 = .ok (.iload_n 1, 1) := by decide +kernel
theorem dX8_turnedOnce_17 : decode cX8_turnedOnce 17 = .ok (.iload_n 0, 1) := by decide +kernel
theorem dX8_turnedOnce_18 : decode cX8_turnedOnce 18 = .ok (.iload_n 2, 1) := by decide +kernel
theorem dX8_turnedOnce_19 : decode cX8_turnedOnce 19 = .ok (.iload_n 3, 1) := by decide +kernel
theorem dX8_turnedOnce_20 : decode cX8_turnedOnce 20 = .ok (.invokestatic 124, 3) := by decide +kernel
theorem dX8_turnedOnce_23 : decode cX8_turnedOnce 23 = .ok (.ishr, 1) := by decide +kernel
theorem dX8_turnedOnce_24 : decode cX8_turnedOnce 24 = .ok (.iconst 1, 1) := by decide +kernel
theorem dX8_turnedOnce_25 : decode cX8_turnedOnce 25 = .ok (.iand, 1) := by decide +kernel
theorem dX8_turnedOnce_26 : decode cX8_turnedOnce 26 = .ok (.iload_n 3, 1) := by decide +kernel
theorem dX8_turnedOnce_27 : decode cX8_turnedOnce 27 = .ok (.iconst 3, 1) := by decide +kernel
theorem dX8_turnedOnce_28 : decode cX8_turnedOnce 28 = .ok (.iload_n 2, 1) := by decide +kernel
theorem dX8_turnedOnce_29 : decode cX8_turnedOnce 29 = .ok (.isub, 1) := by decide +kernel
theorem dX8_turnedOnce_30 : decode cX8_turnedOnce 30 = .ok (.invokestatic 124, 3) := by decide +kernel
theorem dX8_turnedOnce_33 : decode cX8_turnedOnce 33 = .ok (.ishl, 1) := by decide +kernel
theorem dX8_turnedOnce_34 : decode cX8_turnedOnce 34 = .ok (.ior, 1) := by decide +kernel
theorem dX8_turnedOnce_35 : decode cX8_turnedOnce 35 = .ok (.istore_n 1, 1) := by decide +kernel
theorem dX8_turnedOnce_36 : decode cX8_turnedOnce 36 = .ok (.iinc 3 1, 3) := by decide +kernel
theorem dX8_turnedOnce_39 : decode cX8_turnedOnce 39 = .ok (.goto (-28), 3) := by decide +kernel
theorem dX8_turnedOnce_42 : decode cX8_turnedOnce 42 = .ok (.iinc 2 1, 3) := by decide +kernel
theorem dX8_turnedOnce_45 : decode cX8_turnedOnce 45 = .ok (.goto (-41), 3) := by decide +kernel
theorem dX8_turnedOnce_48 : decode cX8_turnedOnce 48 = .ok (.iload_n 1, 1) := by decide +kernel
theorem dX8_turnedOnce_49 : decode cX8_turnedOnce 49 = .ok (.ireturn, 1) := by decide +kernel
set_option maxRecDepth 100000 in
theorem r_X8_turnedOnce_0 {X : Bn} (C : Cx X cX8_turnedOnce 4 RX8 wsX8_turnedOnce 1 21) {ws : va_W} (x0 : Int32) (h : At X 4 (ws) 4 [(0, .int x0), (1, .int 0), (2, .int 0)] []) : At X 4 (ws) 0 [(0, .int x0)] [] := by
  refine at_iconst C dX8_turnedOnce_0 (v := 0) rfl ?_
  refine at_istore_n C dX8_turnedOnce_1 rfl (by decide) (lv' := [(1, .int 0), (0, .int x0)]) rfl ?_
  refine at_iconst C dX8_turnedOnce_2 (v := 0) rfl ?_
  refine at_istore_n C dX8_turnedOnce_3 rfl (by decide) (lv' := [(2, .int 0), (1, .int 0), (0, .int x0)]) rfl ?_
  refine at_lv [2, 1, 0] rfl ?_
  exact h
set_option maxRecDepth 100000 in
theorem r_X8_turnedOnce_4 {X : Bn} (C : Cx X cX8_turnedOnce 4 RX8 wsX8_turnedOnce 1 21) {ws : va_W} (x0 : Int32) (x1 : Int32) (x2 : Int32) (h : ((4 ≤ x2) → (Ends X (some .int) (some (.int x1)) (ws))) ∧ (¬ 4 ≤ x2 → (At X 4 (ws) 11 [(0, .int x0), (1, .int x1), (2, .int x2), (3, .int 0)] []))) : At X 4 (ws) 4 [(0, .int x0), (1, .int x1), (2, .int x2)] [] := by
  refine at_iload_n C dX8_turnedOnce_4 rfl (j := 2) rfl ?_
  refine at_iconst C dX8_turnedOnce_5 (v := 4) rfl ?_
  refine at_icmp_ge C dX8_turnedOnce_6 (tgt := 48) (by decide) (fun hc0 => ?_) (fun hc0 => ?_)
  · replace h := h.1 hc0
    refine at_iload_n C dX8_turnedOnce_48 rfl (j := 1) rfl ?_
    exact at_iret C dX8_turnedOnce_49 h
  · replace h := h.2 hc0
    refine at_iconst C dX8_turnedOnce_9 (v := 0) rfl ?_
    refine at_istore_n C dX8_turnedOnce_10 rfl (by decide) (lv' := [(3, .int 0), (0, .int x0), (1, .int x1), (2, .int x2)]) rfl ?_
    refine at_lv [1, 2, 3, 0] rfl ?_
    exact h
set_option maxRecDepth 100000 in
theorem r_X8_turnedOnce_11 {X : Bn} (C : Cx X cX8_turnedOnce 4 RX8 wsX8_turnedOnce 1 21) {ws : va_W} (x0 : Int32) (x1 : Int32) (x2 : Int32) (x3 : Int32) (h : ((4 ≤ x3) → (At X 4 (ws) 4 [(0, .int x0), (1, .int x1), (2, .int (x2 + 1))] [])) ∧ (¬ 4 ≤ x3 → (At X 4 (ws) 11 [(0, .int x0), (1, .int (x1 ||| (ishl ((isar x0 (f_X8_bitOf x2 x3)) &&& 1) (f_X8_bitOf x3 (3 - x2))))), (2, .int x2), (3, .int (x3 + 1))] []))) : At X 4 (ws) 11 [(0, .int x0), (1, .int x1), (2, .int x2), (3, .int x3)] [] := by
  refine at_iload_n C dX8_turnedOnce_11 rfl (j := 3) rfl ?_
  refine at_iconst C dX8_turnedOnce_12 (v := 4) rfl ?_
  refine at_icmp_ge C dX8_turnedOnce_13 (tgt := 42) (by decide) (fun hc1 => ?_) (fun hc1 => ?_)
  · replace h := h.1 hc1
    refine at_iinc C dX8_turnedOnce_42 (j := 2) (v := x2 + 1) rfl rfl (by decide) (lv' := [(2, .int (x2 + 1)), (0, .int x0), (1, .int x1), (3, .int x3)]) rfl ?_
    refine at_goto C dX8_turnedOnce_45 (tgt := 4) (by decide) ?_
    refine at_lv [1, 2, 0] rfl ?_
    exact h
  · replace h := h.2 hc1
    refine at_iload_n C dX8_turnedOnce_16 rfl (j := 1) rfl ?_
    refine at_iload_n C dX8_turnedOnce_17 rfl (j := 0) rfl ?_
    refine at_iload_n C dX8_turnedOnce_18 rfl (j := 2) rfl ?_
    refine at_iload_n C dX8_turnedOnce_19 rfl (j := 3) rfl ?_
    refine at_cS0 C 2 (c_X8_bitOf X.l X.D X.E X.a1 X.a2 x2 x3) gX8_turnedOnce_X8_bitOf rfl (by decide +kernel) ⟨rfl, rfl⟩ rfl rfl rfl dX8_turnedOnce_20 ?_
    refine at_ishr C dX8_turnedOnce_23 ?_
    refine at_iconst C dX8_turnedOnce_24 (v := 1) rfl ?_
    refine at_iand C dX8_turnedOnce_25 ?_
    refine at_iload_n C dX8_turnedOnce_26 rfl (j := 3) rfl ?_
    refine at_iconst C dX8_turnedOnce_27 (v := 3) rfl ?_
    refine at_iload_n C dX8_turnedOnce_28 rfl (j := 2) rfl ?_
    refine at_isub C dX8_turnedOnce_29 ?_
    refine at_cS0 C 2 (c_X8_bitOf X.l X.D X.E X.a1 X.a2 x3 (3 - x2)) gX8_turnedOnce_X8_bitOf rfl (by decide +kernel) ⟨rfl, rfl⟩ rfl rfl rfl dX8_turnedOnce_30 ?_
    refine at_ishl C dX8_turnedOnce_33 ?_
    refine at_ior C dX8_turnedOnce_34 ?_
    refine at_istore_n C dX8_turnedOnce_35 rfl (by decide) (lv' := [(1, .int (x1 ||| (ishl ((isar x0 (f_X8_bitOf x2 x3)) &&& 1) (f_X8_bitOf x3 (3 - x2))))), (0, .int x0), (2, .int x2), (3, .int x3)]) rfl ?_
    refine at_iinc C dX8_turnedOnce_36 (j := 3) (v := x3 + 1) rfl rfl (by decide) (lv' := [(3, .int (x3 + 1)), (1, .int (x1 ||| (ishl ((isar x0 (f_X8_bitOf x2 x3)) &&& 1) (f_X8_bitOf x3 (3 - x2))))), (0, .int x0), (2, .int x2)]) rfl ?_
    refine at_goto C dX8_turnedOnce_39 (tgt := 11) (by decide) ?_
    refine at_lv [2, 1, 3, 0] rfl ?_
    exact h
def tnStep (x : Int32) (r c : Nat) (a : Int32) : Int32 := a ||| (ishl ((isar x (f_X8_bitOf (nI r) (nI c))) &&& 1) (f_X8_bitOf (nI c) (3 - nI r)))
def f_X8_turnedOnce (x : Int32) : Int32 := itF (fun r a => itF (fun c a => tnStep x r c a) 0 4 a) 0 4 0
set_option maxRecDepth 100000 in
theorem c_X8_turnedOnce (l : Launch) (D : va_G) (E : Nat → ClassId) (a1 a2 : Nat)  (x0 : Int32) : Fn l D E a1 a2 yX8_turnedOnce wsX8_turnedOnce 1 21 [.int x0] [] (some (.int (f_X8_turnedOnce x0))) [] := by
  refine Fn.of (cc := cX8_turnedOnce) (maxL := 4) (ret := (some .int)) (own := RX8) (by decide) rfl rfl rfl (Nat.le_of_ble_eq_true rfl) (fun X h1 h2 h3 h4 h5 C hE => ?_)
  subst h1 h2 h3 h4 h5
  refine r_X8_turnedOnce_0 C x0 ?_
  refine for_go (P := fun r a => At X 4 [] 4 [(0, .int x0), (1, .int a), (2, .int (nI r))] []) (N := 4) (fun r a => itF (fun c a => tnStep x0 r c a) 0 4 a) (fun r a hr h => ?_) 4 0 0 rfl ?_
  · refine r_X8_turnedOnce_4 C x0 a (nI r) ⟨fun hc => nlt_no (by decide) hr hc, fun _ => ?_⟩
    refine for_go (P := fun c a => At X 4 [] 11 [(0, .int x0), (1, .int a), (2, .int (nI r)), (3, .int (nI c))] []) (N := 4) (fun c a => tnStep x0 r c a) (fun c a hc h => ?_) 4 0 a rfl ?_
    · exact r_X8_turnedOnce_11 C x0 a (nI r) (nI c) ⟨fun q => nlt_no (by decide) hc q, fun _ => by rw [nI_1]; exact h⟩
    · exact r_X8_turnedOnce_11 C x0 _ (nI r) (nI 4) ⟨fun _ => by rw [nI_1]; exact h, fun q => nle_no q⟩
  · exact r_X8_turnedOnce_4 C x0 _ (nI 4) ⟨fun _ => hE, fun q => nle_no q⟩
set_option maxRecDepth 20000 in
theorem ggX8_turned_X8_turnedOnce : GoodIn wsX8_turned wsX8_turnedOnce := goodIn_r _ [4, 5, 6, 3, 7] (by decide +kernel) (by decide +kernel)
set_option maxRecDepth 20000 in
theorem gX8_turned_X8_turnedOnce : GoodIn wsX8_turned (va_wsS RX8 127 yX8_turnedOnce wsX8_turnedOnce) := goodIn_app (goodIn_of _ (by decide +kernel)) ggX8_turned_X8_turnedOnce
theorem dX8_turned_0 : decode cX8_turned 0 = .ok (.iload_n 0, 1) := by decide +kernel
theorem dX8_turned_1 : decode cX8_turned 1 = .ok (.istore_n 2, 1) := by decide +kernel
theorem dX8_turned_2 : decode cX8_turned 2 = .ok (.iconst 0, 1) := by decide +kernel
theorem dX8_turned_3 : decode cX8_turned 3 = .ok (.istore_n 3, 1) := by decide +kernel
theorem dX8_turned_4 : decode cX8_turned 4 = .ok (.iload_n 3, 1) := by decide +kernel
theorem dX8_turned_5 : decode cX8_turned 5 = .ok (.iload_n 1, 1) := by decide +kernel
theorem dX8_turned_6 : decode cX8_turned 6 = .ok (.if_icmp .ge 14, 3) := by decide +kernel
theorem dX8_turned_9 : decode cX8_turned 9 = .ok (.iload_n 2, 1) := by decide +kernel
theorem dX8_turned_10 : decode cX8_turned 10 = .ok (.invokestatic 127, 3) := by decide +kernel
theorem dX8_turned_13 : decode cX8_turned 13 = .ok (.istore_n 2, 1) := by decide +kernel
theorem dX8_turned_14 : decode cX8_turned 14 = .ok (.iinc 3 1, 3) := by decide +kernel
theorem dX8_turned_17 : decode cX8_turned 17 = .ok (.goto (-13), 3) := by decide +kernel
theorem dX8_turned_20 : decode cX8_turned 20 = .ok (.iload_n 2, 1) := by decide +kernel
theorem dX8_turned_21 : decode cX8_turned 21 = .ok (.ireturn, 1) := by decide +kernel
set_option maxRecDepth 100000 in
theorem r_X8_turned_0 {X : Bn} (C : Cx X cX8_turned 4 RX8 wsX8_turned 2 44) {ws : va_W} (x0 : Int32) (x1 : Int32) (h : At X 4 (ws) 4 [(1, .int x1), (2, .int x0), (3, .int 0)] []) : At X 4 (ws) 0 [(0, .int x0), (1, .int x1)] [] := by
  refine at_iload_n C dX8_turned_0 rfl (j := 0) rfl ?_
  refine at_istore_n C dX8_turned_1 rfl (by decide) (lv' := [(2, .int x0), (0, .int x0), (1, .int x1)]) rfl ?_
  refine at_iconst C dX8_turned_2 (v := 0) rfl ?_
  refine at_istore_n C dX8_turned_3 rfl (by decide) (lv' := [(3, .int 0), (2, .int x0), (0, .int x0), (1, .int x1)]) rfl ?_
  refine at_lv [3, 1, 0] rfl ?_
  exact h
set_option maxRecDepth 100000 in
theorem r_X8_turned_4 {X : Bn} (C : Cx X cX8_turned 4 RX8 wsX8_turned 2 44) {ws : va_W} (x1 : Int32) (x2 : Int32) (x3 : Int32) (h : ((x1 ≤ x3) → (Ends X (some .int) (some (.int x2)) (ws))) ∧ (¬ x1 ≤ x3 → (At X 4 (ws) 4 [(1, .int x1), (2, .int (f_X8_turnedOnce x2)), (3, .int (x3 + 1))] []))) : At X 4 (ws) 4 [(1, .int x1), (2, .int x2), (3, .int x3)] [] := by
  refine at_iload_n C dX8_turned_4 rfl (j := 2) rfl ?_
  refine at_iload_n C dX8_turned_5 rfl (j := 0) rfl ?_
  refine at_icmp_ge C dX8_turned_6 (tgt := 20) (by decide) (fun hc0 => ?_) (fun hc0 => ?_)
  · replace h := h.1 hc0
    refine at_iload_n C dX8_turned_20 rfl (j := 1) rfl ?_
    exact at_iret C dX8_turned_21 h
  · replace h := h.2 hc0
    refine at_iload_n C dX8_turned_9 rfl (j := 1) rfl ?_
    refine at_cS0 C 1 (c_X8_turnedOnce X.l X.D X.E X.a1 X.a2 x2) gX8_turned_X8_turnedOnce rfl (by decide +kernel) ⟨rfl, rfl⟩ rfl rfl rfl dX8_turned_10 ?_
    refine at_istore_n C dX8_turned_13 rfl (by decide) (lv' := [(2, .int (f_X8_turnedOnce x2)), (1, .int x1), (3, .int x3)]) rfl ?_
    refine at_iinc C dX8_turned_14 (j := 2) (v := x3 + 1) rfl rfl (by decide) (lv' := [(3, .int (x3 + 1)), (2, .int (f_X8_turnedOnce x2)), (1, .int x1)]) rfl ?_
    refine at_goto C dX8_turned_17 (tgt := 4) (by decide) ?_
    refine at_lv [2, 1, 0] rfl ?_
    exact h
def f_X8_turned (x t : Int32) : Int32 := itF (fun _ a => f_X8_turnedOnce a) 0 t.toNatClampNeg x
set_option maxRecDepth 100000 in
theorem c_X8_turned (l : Launch) (D : va_G) (E : Nat → ClassId) (a1 a2 : Nat)  (x0 x1 : Int32) : Fn l D E a1 a2 yX8_turned wsX8_turned 2 44 [.int x0, .int x1] [] (some (.int (f_X8_turned x0 x1))) [] := by
  refine Fn.of (cc := cX8_turned) (maxL := 4) (ret := (some .int)) (own := RX8) (by decide) rfl rfl rfl (Nat.le_of_ble_eq_true rfl) (fun X h1 h2 h3 h4 h5 C hE => ?_)
  subst h1 h2 h3 h4 h5
  refine r_X8_turned_0 C x0 x1 ?_
  by_cases hn : x1 < 0
  · have e : x1.toNatClampNeg = 0 := ncl_neg hn
    rw [f_X8_turned, e] at hE
    exact r_X8_turned_4 C x1 x0 0 ⟨fun _ => hE, fun q => absurd (i32_le.mpr (fun z => absurd (Int32.lt_trans z hn) Int32.lt_irrefl)) q⟩
  · obtain ⟨j, hj, rfl⟩ := nI_of hn
    rw [f_X8_turned, nI_clamp hj] at hE
    refine for_go (P := fun i a => At X 4 [] 4 [(1, .int (nI j)), (2, .int a), (3, .int (nI i))] []) (N := j) (fun _ a => f_X8_turnedOnce a) (fun i a hi h => ?_) j 0 x0 (Nat.zero_add j) ?_
    · exact r_X8_turned_4 C (nI j) a (nI i) ⟨fun q => nlt_no hj hi q, fun _ => by rw [nI_1]; exact h⟩
    · exact r_X8_turned_4 C (nI j) _ (nI j) ⟨fun _ => hE, fun q => nle_no q⟩
set_option maxRecDepth 20000 in
theorem ggX8_mirrored_X8_bitOf : GoodIn wsX8_mirrored wsX8_bitOf := goodIn_r _ [4] (by decide +kernel) (by decide +kernel)
set_option maxRecDepth 20000 in
theorem gX8_mirrored_X8_bitOf : GoodIn wsX8_mirrored (va_wsS RX8 124 yX8_bitOf wsX8_bitOf) := goodIn_app (goodIn_of _ (by decide +kernel)) ggX8_mirrored_X8_bitOf
theorem dX8_mirrored_0 : decode cX8_mirrored 0 = .ok (.iconst 0, 1) := by decide +kernel
theorem dX8_mirrored_1 : decode cX8_mirrored 1 = .ok (.istore_n 1, 1) := by decide +kernel
theorem dX8_mirrored_2 : decode cX8_mirrored 2 = .ok (.iconst 0, 1) := by decide +kernel
theorem dX8_mirrored_3 : decode cX8_mirrored 3 = .ok (.istore_n 2, 1) := by decide +kernel
theorem dX8_mirrored_4 : decode cX8_mirrored 4 = .ok (.iload_n 2, 1) := by decide +kernel
theorem dX8_mirrored_5 : decode cX8_mirrored 5 = .ok (.iconst 4, 1) := by decide +kernel
theorem dX8_mirrored_6 : decode cX8_mirrored 6 = .ok (.if_icmp .ge 42, 3) := by decide +kernel
theorem dX8_mirrored_9 : decode cX8_mirrored 9 = .ok (.iconst 0, 1) := by decide +kernel
theorem dX8_mirrored_10 : decode cX8_mirrored 10 = .ok (.istore_n 3, 1) := by decide +kernel
theorem dX8_mirrored_11 : decode cX8_mirrored 11 = .ok (.iload_n 3, 1) := by decide +kernel
theorem dX8_mirrored_12 : decode cX8_mirrored 12 = .ok (.iconst 4, 1) := by decide +kernel
theorem dX8_mirrored_13 : decode cX8_mirrored 13 = .ok (.if_icmp .ge 29, 3) := by decide +kernel
theorem dX8_mirrored_16 : decode cX8_mirrored 16 = .ok (.iload_n 1, 1) := by decide +kernel
theorem dX8_mirrored_17 : decode cX8_mirrored 17 = .ok (.iload_n 0, 1) := by decide +kernel
theorem dX8_mirrored_18 : decode cX8_mirrored 18 = .ok (.iload_n 2, 1) := by decide +kernel
theorem dX8_mirrored_19 : decode cX8_mirrored 19 = .ok (.iload_n 3, 1) := by decide +kernel
theorem dX8_mirrored_20 : decode cX8_mirrored 20 = .ok (.invokestatic 124, 3) := by decide +kernel
theorem dX8_mirrored_23 : decode cX8_mirrored 23 = .ok (.ishr, 1) := by decide +kernel
theorem dX8_mirrored_24 : decode cX8_mirrored 24 = .ok (.iconst 1, 1) := by decide +kernel
theorem dX8_mirrored_25 : decode cX8_mirrored 25 = .ok (.iand, 1) := by decide +kernel
theorem dX8_mirrored_26 : decode cX8_mirrored 26 = .ok (.iload_n 2, 1) := by decide +kernel
theorem dX8_mirrored_27 : decode cX8_mirrored 27 = .ok (.iconst 3, 1) := by decide +kernel
theorem dX8_mirrored_28 : decode cX8_mirrored 28 = .ok (.iload_n 3, 1) := by decide +kernel
theorem dX8_mirrored_29 : decode cX8_mirrored 29 = .ok (.isub, 1) := by decide +kernel
theorem dX8_mirrored_30 : decode cX8_mirrored 30 = .ok (.invokestatic 124, 3) := by decide +kernel
theorem dX8_mirrored_33 : decode cX8_mirrored 33 = .ok (.ishl, 1) := by decide +kernel
theorem dX8_mirrored_34 : decode cX8_mirrored 34 = .ok (.ior, 1) := by decide +kernel
theorem dX8_mirrored_35 : decode cX8_mirrored 35 = .ok (.istore_n 1, 1) := by decide +kernel
theorem dX8_mirrored_36 : decode cX8_mirrored 36 = .ok (.iinc 3 1, 3) := by decide +kernel
theorem dX8_mirrored_39 : decode cX8_mirrored 39 = .ok (.goto (-28), 3) := by decide +kernel
theorem dX8_mirrored_42 : decode cX8_mirrored 42 = .ok (.iinc 2 1, 3) := by decide +kernel
theorem dX8_mirrored_45 : decode cX8_mirrored 45 = .ok (.goto (-41), 3) := by decide +kernel
theorem dX8_mirrored_48 : decode cX8_mirrored 48 = .ok (.iload_n 1, 1) := by decide +kernel
theorem dX8_mirrored_49 : decode cX8_mirrored 49 = .ok (.ireturn, 1) := by decide +kernel
set_option maxRecDepth 100000 in
theorem r_X8_mirrored_0 {X : Bn} (C : Cx X cX8_mirrored 4 RX8 wsX8_mirrored 1 21) {ws : va_W} (x0 : Int32) (h : At X 4 (ws) 4 [(0, .int x0), (1, .int 0), (2, .int 0)] []) : At X 4 (ws) 0 [(0, .int x0)] [] := by
  refine at_iconst C dX8_mirrored_0 (v := 0) rfl ?_
  refine at_istore_n C dX8_mirrored_1 rfl (by decide) (lv' := [(1, .int 0), (0, .int x0)]) rfl ?_
  refine at_iconst C dX8_mirrored_2 (v := 0) rfl ?_
  refine at_istore_n C dX8_mirrored_3 rfl (by decide) (lv' := [(2, .int 0), (1, .int 0), (0, .int x0)]) rfl ?_
  refine at_lv [2, 1, 0] rfl ?_
  exact h
set_option maxRecDepth 100000 in
theorem r_X8_mirrored_4 {X : Bn} (C : Cx X cX8_mirrored 4 RX8 wsX8_mirrored 1 21) {ws : va_W} (x0 : Int32) (x1 : Int32) (x2 : Int32) (h : ((4 ≤ x2) → (Ends X (some .int) (some (.int x1)) (ws))) ∧ (¬ 4 ≤ x2 → (At X 4 (ws) 11 [(0, .int x0), (1, .int x1), (2, .int x2), (3, .int 0)] []))) : At X 4 (ws) 4 [(0, .int x0), (1, .int x1), (2, .int x2)] [] := by
  refine at_iload_n C dX8_mirrored_4 rfl (j := 2) rfl ?_
  refine at_iconst C dX8_mirrored_5 (v := 4) rfl ?_
  refine at_icmp_ge C dX8_mirrored_6 (tgt := 48) (by decide) (fun hc0 => ?_) (fun hc0 => ?_)
  · replace h := h.1 hc0
    refine at_iload_n C dX8_mirrored_48 rfl (j := 1) rfl ?_
    exact at_iret C dX8_mirrored_49 h
  · replace h := h.2 hc0
    refine at_iconst C dX8_mirrored_9 (v := 0) rfl ?_
    refine at_istore_n C dX8_mirrored_10 rfl (by decide) (lv' := [(3, .int 0), (0, .int x0), (1, .int x1), (2, .int x2)]) rfl ?_
    refine at_lv [1, 2, 3, 0] rfl ?_
    exact h
set_option maxRecDepth 100000 in
theorem r_X8_mirrored_11 {X : Bn} (C : Cx X cX8_mirrored 4 RX8 wsX8_mirrored 1 21) {ws : va_W} (x0 : Int32) (x1 : Int32) (x2 : Int32) (x3 : Int32) (h : ((4 ≤ x3) → (At X 4 (ws) 4 [(0, .int x0), (1, .int x1), (2, .int (x2 + 1))] [])) ∧ (¬ 4 ≤ x3 → (At X 4 (ws) 11 [(0, .int x0), (1, .int (x1 ||| (ishl ((isar x0 (f_X8_bitOf x2 x3)) &&& 1) (f_X8_bitOf x2 (3 - x3))))), (2, .int x2), (3, .int (x3 + 1))] []))) : At X 4 (ws) 11 [(0, .int x0), (1, .int x1), (2, .int x2), (3, .int x3)] [] := by
  refine at_iload_n C dX8_mirrored_11 rfl (j := 3) rfl ?_
  refine at_iconst C dX8_mirrored_12 (v := 4) rfl ?_
  refine at_icmp_ge C dX8_mirrored_13 (tgt := 42) (by decide) (fun hc1 => ?_) (fun hc1 => ?_)
  · replace h := h.1 hc1
    refine at_iinc C dX8_mirrored_42 (j := 2) (v := x2 + 1) rfl rfl (by decide) (lv' := [(2, .int (x2 + 1)), (0, .int x0), (1, .int x1), (3, .int x3)]) rfl ?_
    refine at_goto C dX8_mirrored_45 (tgt := 4) (by decide) ?_
    refine at_lv [1, 2, 0] rfl ?_
    exact h
  · replace h := h.2 hc1
    refine at_iload_n C dX8_mirrored_16 rfl (j := 1) rfl ?_
    refine at_iload_n C dX8_mirrored_17 rfl (j := 0) rfl ?_
    refine at_iload_n C dX8_mirrored_18 rfl (j := 2) rfl ?_
    refine at_iload_n C dX8_mirrored_19 rfl (j := 3) rfl ?_
    refine at_cS0 C 2 (c_X8_bitOf X.l X.D X.E X.a1 X.a2 x2 x3) gX8_mirrored_X8_bitOf rfl (by decide +kernel) ⟨rfl, rfl⟩ rfl rfl rfl dX8_mirrored_20 ?_
    refine at_ishr C dX8_mirrored_23 ?_
    refine at_iconst C dX8_mirrored_24 (v := 1) rfl ?_
    refine at_iand C dX8_mirrored_25 ?_
    refine at_iload_n C dX8_mirrored_26 rfl (j := 2) rfl ?_
    refine at_iconst C dX8_mirrored_27 (v := 3) rfl ?_
    refine at_iload_n C dX8_mirrored_28 rfl (j := 3) rfl ?_
    refine at_isub C dX8_mirrored_29 ?_
    refine at_cS0 C 2 (c_X8_bitOf X.l X.D X.E X.a1 X.a2 x2 (3 - x3)) gX8_mirrored_X8_bitOf rfl (by decide +kernel) ⟨rfl, rfl⟩ rfl rfl rfl dX8_mirrored_30 ?_
    refine at_ishl C dX8_mirrored_33 ?_
    refine at_ior C dX8_mirrored_34 ?_
    refine at_istore_n C dX8_mirrored_35 rfl (by decide) (lv' := [(1, .int (x1 ||| (ishl ((isar x0 (f_X8_bitOf x2 x3)) &&& 1) (f_X8_bitOf x2 (3 - x3))))), (0, .int x0), (2, .int x2), (3, .int x3)]) rfl ?_
    refine at_iinc C dX8_mirrored_36 (j := 3) (v := x3 + 1) rfl rfl (by decide) (lv' := [(3, .int (x3 + 1)), (1, .int (x1 ||| (ishl ((isar x0 (f_X8_bitOf x2 x3)) &&& 1) (f_X8_bitOf x2 (3 - x3))))), (0, .int x0), (2, .int x2)]) rfl ?_
    refine at_goto C dX8_mirrored_39 (tgt := 11) (by decide) ?_
    refine at_lv [2, 1, 3, 0] rfl ?_
    exact h
def mrStep (x : Int32) (r c : Nat) (a : Int32) : Int32 := a ||| (ishl ((isar x (f_X8_bitOf (nI r) (nI c))) &&& 1) (f_X8_bitOf (nI r) (3 - nI c)))
def f_X8_mirrored (x : Int32) : Int32 := itF (fun r a => itF (fun c a => mrStep x r c a) 0 4 a) 0 4 0
set_option maxRecDepth 100000 in
theorem c_X8_mirrored (l : Launch) (D : va_G) (E : Nat → ClassId) (a1 a2 : Nat)  (x0 : Int32) : Fn l D E a1 a2 yX8_mirrored wsX8_mirrored 1 21 [.int x0] [] (some (.int (f_X8_mirrored x0))) [] := by
  refine Fn.of (cc := cX8_mirrored) (maxL := 4) (ret := (some .int)) (own := RX8) (by decide) rfl rfl rfl (Nat.le_of_ble_eq_true rfl) (fun X h1 h2 h3 h4 h5 C hE => ?_)
  subst h1 h2 h3 h4 h5
  refine r_X8_mirrored_0 C x0 ?_
  refine for_go (P := fun r a => At X 4 [] 4 [(0, .int x0), (1, .int a), (2, .int (nI r))] []) (N := 4) (fun r a => itF (fun c a => mrStep x0 r c a) 0 4 a) (fun r a hr h => ?_) 4 0 0 rfl ?_
  · refine r_X8_mirrored_4 C x0 a (nI r) ⟨fun hc => nlt_no (by decide) hr hc, fun _ => ?_⟩
    refine for_go (P := fun c a => At X 4 [] 11 [(0, .int x0), (1, .int a), (2, .int (nI r)), (3, .int (nI c))] []) (N := 4) (fun c a => mrStep x0 r c a) (fun c a hc h => ?_) 4 0 a rfl ?_
    · exact r_X8_mirrored_11 C x0 a (nI r) (nI c) ⟨fun q => nlt_no (by decide) hc q, fun _ => by rw [nI_1]; exact h⟩
    · exact r_X8_mirrored_11 C x0 _ (nI r) (nI 4) ⟨fun _ => by rw [nI_1]; exact h, fun q => nle_no q⟩
  · exact r_X8_mirrored_4 C x0 _ (nI 4) ⟨fun _ => hE, fun q => nle_no q⟩
theorem dX8_movedUp_0 : decode cX8_movedUp 0 = .ok (.iload_n 0, 1) := by decide +kernel
theorem dX8_movedUp_1 : decode cX8_movedUp 1 = .ok (.istore_n 1, 1) := by decide +kernel
theorem dX8_movedUp_2 : decode cX8_movedUp 2 = .ok (.iload_n 1, 1) := by decide +kernel
theorem dX8_movedUp_3 : decode cX8_movedUp 3 = .ok (.ldc 130, 2) := by decide +kernel
theorem dX8_movedUp_5 : decode cX8_movedUp 5 = .ok (.iand, 1) := by decide +kernel
theorem dX8_movedUp_6 : decode cX8_movedUp 6 = .ok (.ifCond .ne 10, 3) := by decide +kernel
theorem dX8_movedUp_9 : decode cX8_movedUp 9 = .ok (.iload_n 1, 1) := by decide +kernel
theorem dX8_movedUp_10 : decode cX8_movedUp 10 = .ok (.iconst 4, 1) := by decide +kernel
theorem dX8_movedUp_11 : decode cX8_movedUp 11 = .ok (.ishl, 1) := by decide +kernel
theorem dX8_movedUp_12 : decode cX8_movedUp 12 = .ok (.istore_n 1, 1) := by decide +kernel
theorem dX8_movedUp_13 : decode cX8_movedUp 13 = .ok (.goto (-11), 3) := by decide +kernel
theorem dX8_movedUp_16 : decode cX8_movedUp 16 = .ok (.iload_n 1, 1) := by decide +kernel
theorem dX8_movedUp_17 : decode cX8_movedUp 17 = .ok (.ldc 131, 2) := by decide +kernel
theorem dX8_movedUp_19 : decode cX8_movedUp 19 = .ok (.iand, 1) := by decide +kernel
theorem dX8_movedUp_20 : decode cX8_movedUp 20 = .ok (.ifCond .ne 10, 3) := by decide +kernel
theorem dX8_movedUp_23 : decode cX8_movedUp 23 = .ok (.iload_n 1, 1) := by decide +kernel
theorem dX8_movedUp_24 : decode cX8_movedUp 24 = .ok (.iconst 1, 1) := by decide +kernel
theorem dX8_movedUp_25 : decode cX8_movedUp 25 = .ok (.ishl, 1) := by decide +kernel
theorem dX8_movedUp_26 : decode cX8_movedUp 26 = .ok (.istore_n 1, 1) := by decide +kernel
theorem dX8_movedUp_27 : decode cX8_movedUp 27 = .ok (.goto (-11), 3) := by decide +kernel
theorem dX8_movedUp_30 : decode cX8_movedUp 30 = .ok (.iload_n 1, 1) := by decide +kernel
theorem dX8_movedUp_31 : decode cX8_movedUp 31 = .ok (.ireturn, 1) := by decide +kernel
theorem lk_X8_movedUp_0 : Cond.constant RX8 130 61440 ∈ wsX8_movedUp := by decide +kernel
theorem lk_X8_movedUp_1 : Cond.constant RX8 131 34952 ∈ wsX8_movedUp := by decide +kernel
set_option maxRecDepth 100000 in
theorem r_X8_movedUp_0 {X : Bn} (C : Cx X cX8_movedUp 2 RX8 wsX8_movedUp 0 0) {ws : va_W} (x0 : Int32) (h : At X 2 (ws) 2 [(1, .int x0)] []) : At X 2 (ws) 0 [(0, .int x0)] [] := by
  refine at_iload_n C dX8_movedUp_0 rfl (j := 0) rfl ?_
  refine at_istore_n C dX8_movedUp_1 rfl (by decide) (lv' := [(1, .int x0), (0, .int x0)]) rfl ?_
  refine at_lv [0] rfl ?_
  exact h
set_option maxRecDepth 100000 in
theorem r_X8_movedUp_2 {X : Bn} (C : Cx X cX8_movedUp 2 RX8 wsX8_movedUp 0 0) {ws : va_W} (x1 : Int32) (h : ((x1 &&& 61440 = 0) → (At X 2 (ws) 2 [(1, .int (ishl x1 4))] [])) ∧ (¬ x1 &&& 61440 = 0 → (At X 2 (ws) 16 [(1, .int x1)] []))) : At X 2 (ws) 2 [(1, .int x1)] [] := by
  refine at_iload_n C dX8_movedUp_2 rfl (j := 0) rfl ?_
  refine at_ldc C lk_X8_movedUp_0 dX8_movedUp_3 ?_
  refine at_iand C dX8_movedUp_5 ?_
  refine at_if_ne C dX8_movedUp_6 (tgt := 16) (by decide) (fun hc0 => ?_) (fun hc0 => ?_)
  · replace h := h.2 hc0
    exact h
  · replace h := h.1 hc0
    refine at_iload_n C dX8_movedUp_9 rfl (j := 0) rfl ?_
    refine at_iconst C dX8_movedUp_10 (v := 4) rfl ?_
    refine at_ishl C dX8_movedUp_11 ?_
    refine at_istore_n C dX8_movedUp_12 rfl (by decide) (lv' := [(1, .int (ishl x1 4))]) rfl ?_
    refine at_goto C dX8_movedUp_13 (tgt := 2) (by decide) ?_
    exact h
set_option maxRecDepth 100000 in
theorem r_X8_movedUp_16 {X : Bn} (C : Cx X cX8_movedUp 2 RX8 wsX8_movedUp 0 0) {ws : va_W} (x1 : Int32) (h : ((x1 &&& 34952 = 0) → (At X 2 (ws) 16 [(1, .int (ishl x1 1))] [])) ∧ (¬ x1 &&& 34952 = 0 → (Ends X (some .int) (some (.int x1)) (ws)))) : At X 2 (ws) 16 [(1, .int x1)] [] := by
  refine at_iload_n C dX8_movedUp_16 rfl (j := 0) rfl ?_
  refine at_ldc C lk_X8_movedUp_1 dX8_movedUp_17 ?_
  refine at_iand C dX8_movedUp_19 ?_
  refine at_if_ne C dX8_movedUp_20 (tgt := 30) (by decide) (fun hc1 => ?_) (fun hc1 => ?_)
  · replace h := h.2 hc1
    refine at_iload_n C dX8_movedUp_30 rfl (j := 0) rfl ?_
    exact at_iret C dX8_movedUp_31 h
  · replace h := h.1 hc1
    refine at_iload_n C dX8_movedUp_23 rfl (j := 0) rfl ?_
    refine at_iconst C dX8_movedUp_24 (v := 1) rfl ?_
    refine at_ishl C dX8_movedUp_25 ?_
    refine at_istore_n C dX8_movedUp_26 rfl (by decide) (lv' := [(1, .int (ishl x1 1))]) rfl ?_
    refine at_goto C dX8_movedUp_27 (tgt := 16) (by decide) ?_
    exact h
/-- shifted up, at most three times; shifted left, at most three times -/
def muA : Nat → Int32 → Int32
  | 0, x => x
  | k + 1, x => if x &&& 61440 = 0 then muA k (ishl x 4) else x
def muB : Nat → Int32 → Int32
  | 0, x => x
  | k + 1, x => if x &&& 34952 = 0 then muB k (ishl x 1) else x
def f_X8_movedUp (x : Int32) : Int32 := muB 3 (muA 3 x)
/-- four rows that are not all empty -/
def p_X8_movedUp (x : Int32) : Prop := 0 < uI x ∧ uI x < 65536
theorem nI_and0 {n m : Nat} (hn : n < 65536) (hm : m < 65536) : nI n &&& nI m = 0 ↔ n &&& m = 0 := by
  rw [show nI n &&& nI m = nI (n &&& m) from by
    apply Int32.toBitVec_inj.mp
    show BitVec.ofNat 32 n &&& BitVec.ofNat 32 m = BitVec.ofNat 32 (n &&& m)
    simp [BitVec.ofNat_and]]
  have : n &&& m ≤ n := Nat.and_le_left
  rw [show (0 : Int32) = nI 0 from rfl]
  exact nI_eq (by omega) (by decide)
theorem sh_l : ∀ n, n < 32 → ((nI n &&& 31).toBitVec.smod 32).toNat = n := by decide
theorem ishl_nI {n k : Nat} (hk : k < 32) (h : n * 2 ^ k < 2 ^ 32) : ishl (nI n) (nI k) = nI (n * 2 ^ k) := pk_shlN _ k (sh_l k hk) h
theorem muA_s {k n : Nat} (h : n < 4096) : muA (k + 1) (nI n) = muA k (nI (16 * n)) := by
  show (if nI n &&& nI 61440 = 0 then muA k (ishl (nI n) (nI 4)) else nI n) = _
  rw [if_pos ((nI_and0 (by omega) (by decide)).mpr ((mu_top n (by omega)).mpr h)), ishl_nI (by decide) (by omega), Nat.mul_comm]
theorem muA_e {k n : Nat} (h : 4096 ≤ n) (h2 : n < 65536) : muA k (nI n) = nI n := by
  cases k with
  | zero => rfl
  | succ k =>
    show (if nI n &&& nI 61440 = 0 then muA k (ishl (nI n) (nI 4)) else nI n) = _
    rw [if_neg (fun q => absurd ((mu_top n h2).mp ((nI_and0 h2 (by decide)).mp q)) (by omega))]
theorem muB_s {k n : Nat} (h0 : n &&& 34952 = 0) (h : n < 65536) : muB (k + 1) (nI n) = muB k (nI (2 * n)) := by
  show (if nI n &&& nI 34952 = 0 then muB k (ishl (nI n) (nI 1)) else nI n) = _
  rw [if_pos ((nI_and0 h (by decide)).mpr h0), ishl_nI (by decide) (by omega), Nat.mul_comm]
theorem muB_e {k n : Nat} (h0 : ¬ n &&& 34952 = 0) (h : n < 65536) : muB k (nI n) = nI n := by
  cases k with
  | zero => rfl
  | succ k =>
    show (if nI n &&& nI 34952 = 0 then muB k (ishl (nI n) (nI 1)) else nI n) = _
    rw [if_neg (fun q => h0 ((nI_and0 h (by decide)).mp q))]
set_option maxRecDepth 100000 in
theorem c_X8_movedUp (l : Launch) (D : va_G) (E : Nat → ClassId) (a1 a2 : Nat)  (x0 : Int32) (hp : p_X8_movedUp x0) : Fn l D E a1 a2 yX8_movedUp wsX8_movedUp 0 0 [.int x0] [] (some (.int (f_X8_movedUp x0))) [] := by
  refine Fn.of (cc := cX8_movedUp) (maxL := 2) (ret := (some .int)) (own := RX8) (by decide) rfl rfl rfl (Nat.le_of_ble_eq_true rfl) (fun X h1 h2 h3 h4 h5 C hE => ?_)
  subst h1 h2 h3 h4 h5
  obtain ⟨n, hn, rfl⟩ : ∃ n, n < 2 ^ 32 ∧ x0 = nI n := ⟨uI x0, uI_lt x0, (nI_uI x0).symm⟩
  rw [p_X8_movedUp, uI_nI hn] at hp
  refine r_X8_movedUp_0 C (nI n) ?_
  have bend : ∀ (k m : Nat), m < 65536 → ¬ m &&& 34952 = 0 → muB k (nI m) = f_X8_movedUp (nI n) → At X 2 [] 16 [(1, .int (nI m))] [] := by
    intro k m hm h0 e
    refine r_X8_movedUp_16 C (nI m) ⟨fun q => absurd ((nI_and0 hm (by decide)).mp q) h0, fun _ => ?_⟩
    rw [muB_e h0 hm] at e
    rw [e]
    exact hE
  have bstep : ∀ (m : Nat), m < 65536 → m &&& 34952 = 0 → At X 2 [] 16 [(1, .int (nI (2 * m)))] [] → At X 2 [] 16 [(1, .int (nI m))] [] := by
    intro m hm h0 h
    refine r_X8_movedUp_16 C (nI m) ⟨fun _ => ?_, fun q => absurd ((nI_and0 hm (by decide)).mpr h0) q⟩
    rw [show ishl (nI m) 1 = nI (2 * m) from by rw [show (1 : Int32) = nI 1 from rfl, ishl_nI (by decide) (by omega), Nat.mul_comm]]
    exact h
  have second : ∀ m : Nat, 0 < m → m < 65536 → muB 3 (nI m) = f_X8_movedUp (nI n) → At X 2 [] 16 [(1, .int (nI m))] [] := by
    intro m h1 h2 e
    rcases mu_left m h2 with h | h | ⟨h3, h⟩
    · omega
    · exact bend 3 m h2 h e
    · by_cases q : m &&& 34952 = 0
      · refine bstep m h2 q ?_
        rw [muB_s q h2] at e
        rcases h with h | ⟨h4, h⟩
        · exact bend 2 _ h3 h e
        · by_cases q2 : 2 * m &&& 34952 = 0
          · refine bstep _ h3 q2 ?_
            rw [muB_s q2 h3] at e
            rw [show 2 * (2 * m) = 4 * m by omega] at e ⊢
            rcases h with h | ⟨h5, h⟩
            · exact bend 1 _ h4 h e
            · by_cases q3 : 4 * m &&& 34952 = 0
              · refine bstep _ h4 q3 ?_
                rw [muB_s q3 h4] at e
                rw [show 2 * (4 * m) = 8 * m by omega] at e ⊢
                exact bend 0 _ h5 h e
              · exact bend 1 _ h4 q3 e
          · exact bend 2 _ h3 q2 e
      · exact bend 3 m h2 q e
  have first : ∀ (k m : Nat), 0 < m → m < 65536 → 4096 ≤ m * 16 ^ k → muB 3 (muA k (nI m)) = f_X8_movedUp (nI n) → At X 2 [] 2 [(1, .int (nI m))] [] := by
    intro k
    induction k with
    | zero =>
      intro m h1 h2 h3 e
      refine r_X8_movedUp_2 C (nI m) ⟨fun q => absurd ((mu_top m h2).mp ((nI_and0 h2 (by decide)).mp q)) (by omega), fun _ => second m h1 h2 e⟩
    | succ k ih =>
      intro m h1 h2 h3 e
      by_cases q : m < 4096
      · refine r_X8_movedUp_2 C (nI m) ⟨fun _ => ?_, fun z => absurd ((nI_and0 h2 (by decide)).mpr ((mu_top m h2).mpr q)) z⟩
        rw [show ishl (nI m) 4 = nI (16 * m) from by rw [show (4 : Int32) = nI 4 from rfl, ishl_nI (by decide) (by omega), Nat.mul_comm]]
        rw [muA_s q] at e
        exact ih (16 * m) (by omega) (by omega) (by rw [Nat.pow_succ] at h3; rw [Nat.mul_comm 16 m, Nat.mul_assoc, Nat.mul_comm 16]; exact h3) e
      · refine r_X8_movedUp_2 C (nI m) ⟨fun z => absurd ((mu_top m h2).mp ((nI_and0 h2 (by decide)).mp z)) q, fun _ => second m h1 h2 ?_⟩
        rw [muA_e (by omega) h2] at e
        exact e
  exact first 3 n hp.1 hp.2 (by omega) rfl
set_option maxRecDepth 20000 in
theorem ggX8_sightOf_X8_bitOf : GoodIn wsX8_sightOf wsX8_bitOf := goodIn_r _ [4] (by decide +kernel) (by decide +kernel)
set_option maxRecDepth 20000 in
theorem gX8_sightOf_X8_bitOf : GoodIn wsX8_sightOf (va_wsS RX8 124 yX8_bitOf wsX8_bitOf) := goodIn_app (goodIn_of _ (by decide +kernel)) ggX8_sightOf_X8_bitOf
set_option maxRecDepth 20000 in
theorem ggX8_sightOf_X8_isIn : GoodIn wsX8_sightOf wsX8_isIn := goodIn_r _ [7] (by decide +kernel) (by decide +kernel)
set_option maxRecDepth 20000 in
theorem gX8_sightOf_X8_isIn : GoodIn wsX8_sightOf (va_wsS RX8 152 yX8_isIn wsX8_isIn) := goodIn_app (goodIn_of _ (by decide +kernel)) ggX8_sightOf_X8_isIn
theorem dX8_sightOf_0 : decode cX8_sightOf 0 = .ok (.iconst 0, 1) := by decide +kernel
theorem dX8_sightOf_1 : decode cX8_sightOf 1 = .ok (.istore_n 2, 1) := by decide +kernel
theorem dX8_sightOf_2 : decode cX8_sightOf 2 = .ok (.iconst 0, 1) := by decide +kernel
theorem dX8_sightOf_3 : decode cX8_sightOf 3 = .ok (.istore_n 3, 1) := by decide +kernel
theorem dX8_sightOf_4 : decode cX8_sightOf 4 = .ok (.iload_n 3, 1) := by decide +kernel
theorem dX8_sightOf_5 : decode cX8_sightOf 5 = .ok (.iconst 4, 1) := by decide +kernel
theorem dX8_sightOf_6 : decode cX8_sightOf 6 = .ok (.if_icmp .ge 107, 3) := by decide +kernel
theorem dX8_sightOf_9 : decode cX8_sightOf 9 = .ok (.iconst 0, 1) := by decide +kernel
theorem dX8_sightOf_10 : decode cX8_sightOf 10 = .ok (.istore 4, 2) := by decide +kernel
theorem dX8_sightOf_12 : decode cX8_sightOf 12 = .ok (.iconst 3, 1) := by decide +kernel
theorem dX8_sightOf_13 : decode cX8_sightOf 13 = .ok (.istore 5, 2) := by decide +kernel
theorem dX8_sightOf_15 : decode cX8_sightOf 15 = .ok (.iload 5, 2) := by decide +kernel
theorem dX8_sightOf_17 : decode cX8_sightOf 17 = .ok (.ifCond .lt 83, 3) := by decide +kernel
theorem dX8_sightOf_20 : decode cX8_sightOf 20 = .ok (.iload_n 1, 1) := by decide +kernel
theorem dX8_sightOf_21 : decode cX8_sightOf 21 = .ok (.ifCond .ne 8, 3) := by decide +kernel
theorem dX8_sightOf_24 : decode cX8_sightOf 24 = .ok (.iload 5, 2) := by decide +kernel
theorem dX8_sightOf_26 : decode cX8_sightOf 26 = .ok (.goto 16, 3) := by decide +kernel
theorem dX8_sightOf_29 : decode cX8_sightOf 29 = .ok (.iload_n 1, 1) := by decide +kernel
theorem dX8_sightOf_30 : decode cX8_sightOf 30 = .ok (.iconst 2, 1) := by decide +kernel
theorem dX8_sightOf_31 : decode cX8_sightOf 31 = .ok (.if_icmp .ne 10, 3) := by decide +kernel
theorem dX8_sightOf_34 : decode cX8_sightOf 34 = .ok (.iconst 3, 1) := by decide +kernel
theorem dX8_sightOf_35 : decode cX8_sightOf 35 = .ok (.iload 5, 2) := by decide +kernel
theorem dX8_sightOf_37 : decode cX8_sightOf 37 = .ok (.isub, 1) := by decide +kernel
theorem dX8_sightOf_38 : decode cX8_sightOf 38 = .ok (.goto 4, 3) := by decide +kernel
theorem dX8_sightOf_41 : decode cX8_sightOf 41 = .ok (.iload_n 3, 1) := by decide +kernel
theorem dX8_sightOf_42 : decode cX8_sightOf 42 = .ok (.istore 6, 2) := by decide +kernel
theorem dX8_sightOf_44 : decode cX8_sightOf 44 = .ok (.iload_n 1, 1) := by decide +kernel
theorem dX8_sightOf_45 : decode cX8_sightOf 45 = .ok (.iconst 1, 1) := by decide +kernel
theorem dX8_sightOf_46 : decode cX8_sightOf 46 = .ok (.if_icmp .ne 10, 3) := by decide +kernel
theorem dX8_sightOf_49 : decode cX8_sightOf 49 = .ok (.iconst 3, 1) := by decide +kernel
theorem dX8_sightOf_50 : decode cX8_sightOf 50 = .ok (.iload 5, 2) := by decide +kernel
theorem dX8_sightOf_52 : decode cX8_sightOf 52 = .ok (.isub, 1) := by decide +kernel
theorem dX8_sightOf_53 : decode cX8_sightOf 53 = .ok (.goto 14, 3) := by decide +kernel
theorem dX8_sightOf_56 : decode cX8_sightOf 56 = .ok (.iload_n 1, 1) := by decide +kernel
theorem dX8_sightOf_57 : decode cX8_sightOf 57 = .ok (.iconst 3, 1) := by decide +kernel
theorem dX8_sightOf_58 : decode cX8_sightOf 58 = .ok (.if_icmp .ne 8, 3) := by decide +kernel
theorem dX8_sightOf_61 : decode cX8_sightOf 61 = .ok (.iload 5, 2) := by decide +kernel
theorem dX8_sightOf_63 : decode cX8_sightOf 63 = .ok (.goto 4, 3) := by decide +kernel
theorem dX8_sightOf_66 : decode cX8_sightOf 66 = .ok (.iload_n 3, 1) := by decide +kernel
theorem dX8_sightOf_67 : decode cX8_sightOf 67 = .ok (.istore 7, 2) := by decide +kernel
theorem dX8_sightOf_69 : decode cX8_sightOf 69 = .ok (.iload_n 0, 1) := by decide +kernel
theorem dX8_sightOf_70 : decode cX8_sightOf 70 = .ok (.iload 6, 2) := by decide +kernel
theorem dX8_sightOf_72 : decode cX8_sightOf 72 = .ok (.iload 7, 2) := by decide +kernel
theorem dX8_sightOf_74 : decode cX8_sightOf 74 = .ok (.invokestatic 124, 3) := by decide +kernel
theorem dX8_sightOf_77 : decode cX8_sightOf 77 = .ok (.invokestatic 152, 3) := by decide +kernel
theorem dX8_sightOf_80 : decode cX8_sightOf 80 = .ok (.ifCond .eq 10, 3) := by decide +kernel
theorem dX8_sightOf_83 : decode cX8_sightOf 83 = .ok (.iload 5, 2) := by decide +kernel
theorem dX8_sightOf_85 : decode cX8_sightOf 85 = .ok (.iconst 1, 1) := by decide +kernel
theorem dX8_sightOf_86 : decode cX8_sightOf 86 = .ok (.iadd, 1) := by decide +kernel
theorem dX8_sightOf_87 : decode cX8_sightOf 87 = .ok (.goto 5, 3) := by decide +kernel
theorem dX8_sightOf_90 : decode cX8_sightOf 90 = .ok (.iload 4, 2) := by decide +kernel
theorem dX8_sightOf_92 : decode cX8_sightOf 92 = .ok (.istore 4, 2) := by decide +kernel
theorem dX8_sightOf_94 : decode cX8_sightOf 94 = .ok (.iinc 5 (-1), 3) := by decide +kernel
theorem dX8_sightOf_97 : decode cX8_sightOf 97 = .ok (.goto (-82), 3) := by decide +kernel
theorem dX8_sightOf_100 : decode cX8_sightOf 100 = .ok (.iconst 5, 1) := by decide +kernel
theorem dX8_sightOf_101 : decode cX8_sightOf 101 = .ok (.iload_n 2, 1) := by decide +kernel
theorem dX8_sightOf_102 : decode cX8_sightOf 102 = .ok (.imul, 1) := by decide +kernel
theorem dX8_sightOf_103 : decode cX8_sightOf 103 = .ok (.iload 4, 2) := by decide +kernel
theorem dX8_sightOf_105 : decode cX8_sightOf 105 = .ok (.iadd, 1) := by decide +kernel
theorem dX8_sightOf_106 : decode cX8_sightOf 106 = .ok (.istore_n 2, 1) := by decide +kernel
theorem dX8_sightOf_107 : decode cX8_sightOf 107 = .ok (.iinc 3 1, 3) := by decide +kernel
theorem dX8_sightOf_110 : decode cX8_sightOf 110 = .ok (.goto (-106), 3) := by decide +kernel
theorem dX8_sightOf_113 : decode cX8_sightOf 113 = .ok (.iload_n 2, 1) := by decide +kernel
theorem dX8_sightOf_114 : decode cX8_sightOf 114 = .ok (.ireturn, 1) := by decide +kernel
set_option maxRecDepth 100000 in
theorem r_X8_sightOf_0 {X : Bn} (C : Cx X cX8_sightOf 8 RX8 wsX8_sightOf 1 21) {ws : va_W} (x0 : Int32) (x1 : Int32) (h : At X 8 (ws) 4 [(0, .int x0), (1, .int x1), (2, .int 0), (3, .int 0)] []) : At X 8 (ws) 0 [(0, .int x0), (1, .int x1)] [] := by
  refine at_iconst C dX8_sightOf_0 (v := 0) rfl ?_
  refine at_istore_n C dX8_sightOf_1 rfl (by decide) (lv' := [(2, .int 0), (0, .int x0), (1, .int x1)]) rfl ?_
  refine at_iconst C dX8_sightOf_2 (v := 0) rfl ?_
  refine at_istore_n C dX8_sightOf_3 rfl (by decide) (lv' := [(3, .int 0), (2, .int 0), (0, .int x0), (1, .int x1)]) rfl ?_
  refine at_lv [2, 3, 1, 0] rfl ?_
  exact h
set_option maxRecDepth 100000 in
theorem r_X8_sightOf_4 {X : Bn} (C : Cx X cX8_sightOf 8 RX8 wsX8_sightOf 1 21) {ws : va_W} (x0 : Int32) (x1 : Int32) (x2 : Int32) (x3 : Int32) (h : ((4 ≤ x3) → (Ends X (some .int) (some (.int x2)) (ws))) ∧ (¬ 4 ≤ x3 → (At X 8 (ws) 15 [(0, .int x0), (1, .int x1), (2, .int x2), (3, .int x3), (4, .int 0), (5, .int 3)] []))) : At X 8 (ws) 4 [(0, .int x0), (1, .int x1), (2, .int x2), (3, .int x3)] [] := by
  refine at_iload_n C dX8_sightOf_4 rfl (j := 3) rfl ?_
  refine at_iconst C dX8_sightOf_5 (v := 4) rfl ?_
  refine at_icmp_ge C dX8_sightOf_6 (tgt := 113) (by decide) (fun hc0 => ?_) (fun hc0 => ?_)
  · replace h := h.1 hc0
    refine at_iload_n C dX8_sightOf_113 rfl (j := 2) rfl ?_
    exact at_iret C dX8_sightOf_114 h
  · replace h := h.2 hc0
    refine at_iconst C dX8_sightOf_9 (v := 0) rfl ?_
    refine at_istore C dX8_sightOf_10 (by decide) (lv' := [(4, .int 0), (0, .int x0), (1, .int x1), (2, .int x2), (3, .int x3)]) rfl ?_
    refine at_iconst C dX8_sightOf_12 (v := 3) rfl ?_
    refine at_istore C dX8_sightOf_13 (by decide) (lv' := [(5, .int 3), (4, .int 0), (0, .int x0), (1, .int x1), (2, .int x2), (3, .int x3)]) rfl ?_
    refine at_lv [2, 3, 4, 5, 1, 0] rfl ?_
    exact h
set_option maxRecDepth 100000 in
theorem r_X8_sightOf_15 {X : Bn} (C : Cx X cX8_sightOf 8 RX8 wsX8_sightOf 1 21) {ws : va_W} (x0 : Int32) (x1 : Int32) (x2 : Int32) (x3 : Int32) (x4 : Int32) (x5 : Int32) (h : ((x5 < 0) → (At X 8 (ws) 4 [(0, .int x0), (1, .int x1), (2, .int ((5 * x2) + x4)), (3, .int (x3 + 1))] [])) ∧ (¬ x5 < 0 → (At X 8 (ws) 15 [(0, .int x0), (1, .int x1), (2, .int x2), (3, .int x3), (4, .int (if (f_X8_isIn x0 (f_X8_bitOf (if x1 = 0 then x5 else (if x1 = 2 then 3 - x5 else x3)) (if x1 = 1 then 3 - x5 else (if x1 = 3 then x5 else x3)))) then x5 + 1 else x4)), (5, .int (x5 + (-1)))] []))) : At X 8 (ws) 15 [(0, .int x0), (1, .int x1), (2, .int x2), (3, .int x3), (4, .int x4), (5, .int x5)] [] := by
  refine at_iload C dX8_sightOf_15 (j := 5) rfl ?_
  refine at_if_lt C dX8_sightOf_17 (tgt := 100) (by decide) (fun hc1 => ?_) (fun hc1 => ?_)
  · replace h := h.1 hc1
    refine at_iconst C dX8_sightOf_100 (v := 5) rfl ?_
    refine at_iload_n C dX8_sightOf_101 rfl (j := 2) rfl ?_
    refine at_imul C dX8_sightOf_102 ?_
    refine at_iload C dX8_sightOf_103 (j := 4) rfl ?_
    refine at_iadd C dX8_sightOf_105 ?_
    refine at_istore_n C dX8_sightOf_106 rfl (by decide) (lv' := [(2, .int ((5 * x2) + x4)), (0, .int x0), (1, .int x1), (3, .int x3), (4, .int x4), (5, .int x5)]) rfl ?_
    refine at_iinc C dX8_sightOf_107 (j := 3) (v := x3 + 1) rfl rfl (by decide) (lv' := [(3, .int (x3 + 1)), (2, .int ((5 * x2) + x4)), (0, .int x0), (1, .int x1), (4, .int x4), (5, .int x5)]) rfl ?_
    refine at_goto C dX8_sightOf_110 (tgt := 4) (by decide) ?_
    refine at_lv [2, 3, 1, 0] rfl ?_
    exact h
  · replace h := h.2 hc1
    refine at_iload_n C dX8_sightOf_20 rfl (j := 1) rfl ?_
    have K : At X 8 (ws) 42 [(0, .int x0), (1, .int x1), (2, .int x2), (3, .int x3), (4, .int x4), (5, .int x5)] [.int (if x1 = 0 then x5 else (if x1 = 2 then 3 - x5 else x3))] := by
      refine at_istore C dX8_sightOf_42 (by decide) (lv' := [(6, .int (if x1 = 0 then x5 else (if x1 = 2 then 3 - x5 else x3))), (0, .int x0), (1, .int x1), (2, .int x2), (3, .int x3), (4, .int x4), (5, .int x5)]) rfl ?_
      refine at_iload_n C dX8_sightOf_44 rfl (j := 2) rfl ?_
      refine at_iconst C dX8_sightOf_45 (v := 1) rfl ?_
      have K : At X 8 (ws) 67 [(0, .int x0), (1, .int x1), (2, .int x2), (3, .int x3), (4, .int x4), (5, .int x5), (6, .int (if x1 = 0 then x5 else (if x1 = 2 then 3 - x5 else x3)))] [.int (if x1 = 1 then 3 - x5 else (if x1 = 3 then x5 else x3))] := by
        refine at_istore C dX8_sightOf_67 (by decide) (lv' := [(7, .int (if x1 = 1 then 3 - x5 else (if x1 = 3 then x5 else x3))), (0, .int x0), (1, .int x1), (2, .int x2), (3, .int x3), (4, .int x4), (5, .int x5), (6, .int (if x1 = 0 then x5 else (if x1 = 2 then 3 - x5 else x3)))]) rfl ?_
        refine at_iload_n C dX8_sightOf_69 rfl (j := 1) rfl ?_
        refine at_iload C dX8_sightOf_70 (j := 7) rfl ?_
        refine at_iload C dX8_sightOf_72 (j := 0) rfl ?_
        refine at_cS0 C 2 (c_X8_bitOf X.l X.D X.E X.a1 X.a2 (if x1 = 0 then x5 else (if x1 = 2 then 3 - x5 else x3)) (if x1 = 1 then 3 - x5 else (if x1 = 3 then x5 else x3))) gX8_sightOf_X8_bitOf rfl (by decide +kernel) ⟨rfl, rfl⟩ rfl rfl rfl dX8_sightOf_74 ?_
        refine at_cS0 C 2 (c_X8_isIn X.l X.D X.E X.a1 X.a2 x0 (f_X8_bitOf (if x1 = 0 then x5 else (if x1 = 2 then 3 - x5 else x3)) (if x1 = 1 then 3 - x5 else (if x1 = 3 then x5 else x3)))) gX8_sightOf_X8_isIn rfl (by decide +kernel) ⟨rfl, rfl⟩ rfl rfl rfl dX8_sightOf_77 ?_
        have K : At X 8 (ws) 92 [(0, .int x0), (1, .int x1), (2, .int x2), (3, .int x3), (5, .int x5)] [.int (if (f_X8_isIn x0 (f_X8_bitOf (if x1 = 0 then x5 else (if x1 = 2 then 3 - x5 else x3)) (if x1 = 1 then 3 - x5 else (if x1 = 3 then x5 else x3)))) then x5 + 1 else x4)] := by
          refine at_istore C dX8_sightOf_92 (by decide) (lv' := [(4, .int (if (f_X8_isIn x0 (f_X8_bitOf (if x1 = 0 then x5 else (if x1 = 2 then 3 - x5 else x3)) (if x1 = 1 then 3 - x5 else (if x1 = 3 then x5 else x3)))) then x5 + 1 else x4)), (0, .int x0), (1, .int x1), (2, .int x2), (3, .int x3), (5, .int x5)]) rfl ?_
          refine at_iinc C dX8_sightOf_94 (j := 5) (v := x5 + (-1)) rfl rfl (by decide) (lv' := [(5, .int (x5 + (-1))), (4, .int (if (f_X8_isIn x0 (f_X8_bitOf (if x1 = 0 then x5 else (if x1 = 2 then 3 - x5 else x3)) (if x1 = 1 then 3 - x5 else (if x1 = 3 then x5 else x3)))) then x5 + 1 else x4)), (0, .int x0), (1, .int x1), (2, .int x2), (3, .int x3)]) rfl ?_
          refine at_goto C dX8_sightOf_97 (tgt := 15) (by decide) ?_
          refine at_lv [2, 3, 4, 5, 1, 0] rfl ?_
          exact h
        refine at_ifB_eq C dX8_sightOf_80 (tgt := 90) (by decide) (fun hc2 => ?_) (fun hc2 => ?_)
        · skip
          refine at_iload C dX8_sightOf_90 (j := 5) rfl ?_
          refine at_lv [1, 2, 3, 4, 6] rfl ?_
          first | (simp only [if_neg (show ¬ (f_X8_isIn x0 (f_X8_bitOf (if x1 = 0 then x5 else (if x1 = 2 then 3 - x5 else x3)) (if x1 = 1 then 3 - x5 else (if x1 = 3 then x5 else x3)))) = true by rw [hc2]; decide)] at K; exact K) | exact K
        · skip
          refine at_iload C dX8_sightOf_83 (j := 6) rfl ?_
          refine at_iconst C dX8_sightOf_85 (v := 1) rfl ?_
          refine at_iadd C dX8_sightOf_86 ?_
          refine at_goto C dX8_sightOf_87 (tgt := 92) (by decide) ?_
          refine at_lv [1, 2, 3, 4, 6] rfl ?_
          first | (simp only [if_pos hc2] at K; exact K) | exact K
      refine at_icmp_ne C dX8_sightOf_46 (tgt := 56) (by decide) (fun hc2 => ?_) (fun hc2 => ?_)
      · skip
        refine at_iload_n C dX8_sightOf_56 rfl (j := 2) rfl ?_
        refine at_iconst C dX8_sightOf_57 (v := 3) rfl ?_
        refine at_icmp_ne C dX8_sightOf_58 (tgt := 66) (by decide) (fun hc3 => ?_) (fun hc3 => ?_)
        · skip
          refine at_iload_n C dX8_sightOf_66 rfl (j := 4) rfl ?_
          refine at_lv [1, 2, 3, 4, 5, 6, 0] rfl ?_
          first | (simp only [if_neg hc2, if_neg hc3] at K; exact K) | exact K
        · skip
          refine at_iload C dX8_sightOf_61 (j := 6) rfl ?_
          refine at_goto C dX8_sightOf_63 (tgt := 67) (by decide) ?_
          refine at_lv [1, 2, 3, 4, 5, 6, 0] rfl ?_
          first | (simp only [if_neg hc2, if_pos hc3] at K; exact K) | exact K
      · skip
        refine at_iconst C dX8_sightOf_49 (v := 3) rfl ?_
        refine at_iload C dX8_sightOf_50 (j := 6) rfl ?_
        refine at_isub C dX8_sightOf_52 ?_
        refine at_goto C dX8_sightOf_53 (tgt := 67) (by decide) ?_
        refine at_lv [1, 2, 3, 4, 5, 6, 0] rfl ?_
        first | (simp only [if_pos hc2] at K; exact K) | exact K
    refine at_if_ne C dX8_sightOf_21 (tgt := 29) (by decide) (fun hc2 => ?_) (fun hc2 => ?_)
    · skip
      refine at_iload_n C dX8_sightOf_29 rfl (j := 1) rfl ?_
      refine at_iconst C dX8_sightOf_30 (v := 2) rfl ?_
      refine at_icmp_ne C dX8_sightOf_31 (tgt := 41) (by decide) (fun hc3 => ?_) (fun hc3 => ?_)
      · skip
        refine at_iload_n C dX8_sightOf_41 rfl (j := 3) rfl ?_
        first | (simp only [if_neg hc2, if_neg hc3] at K; exact K) | exact K
      · skip
        refine at_iconst C dX8_sightOf_34 (v := 3) rfl ?_
        refine at_iload C dX8_sightOf_35 (j := 5) rfl ?_
        refine at_isub C dX8_sightOf_37 ?_
        refine at_goto C dX8_sightOf_38 (tgt := 42) (by decide) ?_
        first | (simp only [if_neg hc2, if_pos hc3] at K; exact K) | exact K
    · skip
      refine at_iload C dX8_sightOf_24 (j := 5) rfl ?_
      refine at_goto C dX8_sightOf_26 (tgt := 42) (by decide) ?_
      first | (simp only [if_pos hc2] at K; exact K) | exact K
def sgStep (x0 x1 : Int32) (line : Int32) (k : Nat) (x4 : Int32) : Int32 := (if (f_X8_isIn x0 (f_X8_bitOf (if x1 = 0 then nI k else (if x1 = 2 then 3 - nI k else line)) (if x1 = 1 then 3 - nI k else (if x1 = 3 then nI k else line)))) then nI k + 1 else x4)
def f_X8_sightOf (x s : Int32) : Int32 := itF (fun line a => (5 * a) + sgStep x s (nI line) 0 (sgStep x s (nI line) 1 (sgStep x s (nI line) 2 (sgStep x s (nI line) 3 0)))) 0 4 0
set_option maxRecDepth 100000 in
theorem c_X8_sightOf (l : Launch) (D : va_G) (E : Nat → ClassId) (a1 a2 : Nat)  (x0 x1 : Int32) : Fn l D E a1 a2 yX8_sightOf wsX8_sightOf 1 21 [.int x0, .int x1] [] (some (.int (f_X8_sightOf x0 x1))) [] := by
  refine Fn.of (cc := cX8_sightOf) (maxL := 8) (ret := (some .int)) (own := RX8) (by decide) rfl rfl rfl (Nat.le_of_ble_eq_true rfl) (fun X h1 h2 h3 h4 h5 C hE => ?_)
  subst h1 h2 h3 h4 h5
  refine r_X8_sightOf_0 C x0 x1 ?_
  refine for_go (P := fun i a => At X 8 [] 4 [(0, .int x0), (1, .int x1), (2, .int a), (3, .int (nI i))] []) (N := 4) (fun line a => (5 * a) + sgStep x0 x1 (nI line) 0 (sgStep x0 x1 (nI line) 1 (sgStep x0 x1 (nI line) 2 (sgStep x0 x1 (nI line) 3 0)))) (fun i a hi h => ?_) 4 0 0 rfl ?_
  · refine r_X8_sightOf_4 C x0 x1 a (nI i) ⟨fun q => nlt_no (by decide) hi q, fun _ => ?_⟩
    refine r_X8_sightOf_15 C x0 x1 a (nI i) 0 3 ⟨fun q => absurd q (by decide), fun _ => ?_⟩
    refine r_X8_sightOf_15 C x0 x1 a (nI i) _ 2 ⟨fun q => absurd q (by decide), fun _ => ?_⟩
    refine r_X8_sightOf_15 C x0 x1 a (nI i) _ 1 ⟨fun q => absurd q (by decide), fun _ => ?_⟩
    refine r_X8_sightOf_15 C x0 x1 a (nI i) _ 0 ⟨fun q => absurd q (by decide), fun _ => ?_⟩
    refine r_X8_sightOf_15 C x0 x1 a (nI i) _ (-1) ⟨fun _ => ?_, fun q => absurd (by decide) q⟩
    rw [nI_1 i]
    exact h
  · exact r_X8_sightOf_4 C x0 x1 _ (nI 4) ⟨fun _ => hE, fun q => nle_no q⟩
set_option maxRecDepth 20000 in
theorem ggX8_outline_X8_isCell : GoodIn wsX8_outline wsX8_isCell := goodIn_r _ [4, 5, 6, 7, 3, 8, 9, 10, 11, 12, 13, 14] (by decide +kernel) (by decide +kernel)
set_option maxRecDepth 20000 in
theorem gX8_outline_X8_isCell : GoodIn wsX8_outline (va_wsS RX8 159 yX8_isCell wsX8_isCell) := goodIn_app (goodIn_of _ (by decide +kernel)) ggX8_outline_X8_isCell
theorem dX8_outline_0 : decode cX8_outline 0 = .ok (.iconst 0, 1) := by decide +kernel
theorem dX8_outline_1 : decode cX8_outline 1 = .ok (.istore_n 1, 1) := by decide +kernel
theorem dX8_outline_2 : decode cX8_outline 2 = .ok (.iconst 0, 1) := by decide +kernel
theorem dX8_outline_3 : decode cX8_outline 3 = .ok (.istore_n 2, 1) := by decide +kernel
theorem dX8_outline_4 : decode cX8_outline 4 = .ok (.iload_n 2, 1) := by decide +kernel
theorem dX8_outline_5 : decode cX8_outline 5 = .ok (.iconst 4, 1) := by decide +kernel
theorem dX8_outline_6 : decode cX8_outline 6 = .ok (.if_icmp .ge 107, 3) := by decide +kernel
theorem dX8_outline_9 : decode cX8_outline 9 = .ok (.iconst 0, 1) := by decide +kernel
theorem dX8_outline_10 : decode cX8_outline 10 = .ok (.istore_n 3, 1) := by decide +kernel
theorem dX8_outline_11 : decode cX8_outline 11 = .ok (.iload_n 3, 1) := by decide +kernel
theorem dX8_outline_12 : decode cX8_outline 12 = .ok (.iconst 4, 1) := by decide +kernel
theorem dX8_outline_13 : decode cX8_outline 13 = .ok (.if_icmp .ge 94, 3) := by decide +kernel
theorem dX8_outline_16 : decode cX8_outline 16 = .ok (.iload_n 0, 1) := by decide +kernel
theorem dX8_outline_17 : decode cX8_outline 17 = .ok (.iload_n 2, 1) := by decide +kernel
theorem dX8_outline_18 : decode cX8_outline 18 = .ok (.iload_n 3, 1) := by decide +kernel
theorem dX8_outline_19 : decode cX8_outline 19 = .ok (.invokestatic 159, 3) := by decide +kernel
theorem dX8_outline_22 : decode cX8_outline 22 = .ok (.ifCond .eq 79, 3) := by decide +kernel
theorem dX8_outline_25 : decode cX8_outline 25 = .ok (.iload_n 1, 1) := by decide +kernel
theorem dX8_outline_26 : decode cX8_outline 26 = .ok (.iload_n 0, 1) := by decide +kernel
theorem dX8_outline_27 : decode cX8_outline 27 = .ok (.iload_n 2, 1) := by decide +kernel
theorem dX8_outline_28 : decode cX8_outline 28 = .ok (.iconst 1, 1) := by decide +kernel
theorem dX8_outline_29 : decode cX8_outline 29 = .ok (.isub, 1) := by decide +kernel
theorem dX8_outline_30 : decode cX8_outline 30 = .ok (.iload_n 3, 1) := by decide +kernel
theorem dX8_outline_31 : decode cX8_outline 31 = .ok (.invokestatic 159, 3) := by decide +kernel
theorem dX8_outline_34 : decode cX8_outline 34 = .ok (.ifCond .eq 7, 3) := by decide +kernel
theorem dX8_outline_37 : decode cX8_outline 37 = .ok (.iconst 0, 1) := by decide +kernel
theorem dX8_outline_38 : decode cX8_outline 38 = .ok (.goto 4, 3) := by decide +kernel
theorem dX8_outline_41 : decode cX8_outline 41 = .ok (.iconst 1, 1) := by decide +kernel
theorem dX8_outline_42 : decode cX8_outline 42 = .ok (.iadd, 1) := by decide +kernel
theorem dX8_outline_43 : decode cX8_outline 43 = .ok (.istore_n 1, 1) := by decide +kernel
theorem dX8_outline_44 : decode cX8_outline 44 = .ok (.iload_n 1, 1) := by decide +kernel
theorem dX8_outline_45 : decode cX8_outline 45 = .ok (.iload_n 0, 1) := by decide +kernel
theorem dX8_outline_46 : decode cX8_outline 46 = .ok (.iload_n 2, 1) := by decide +kernel
theorem dX8_outline_47 : decode cX8_outline 47 = .ok (.iconst 1, 1) := by decide +kernel
theorem dX8_outline_48 : decode cX8_outline 48 = .ok (.iadd, 1) := by decide +kernel
theorem dX8_outline_49 : decode cX8_outline 49 = .ok (.iload_n 3, 1) := by decide +kernel
theorem dX8_outline_50 : decode cX8_outline 50 = .ok (.invokestatic 159, 3) := by decide +kernel
theorem dX8_outline_53 : decode cX8_outline 53 = .ok (.ifCond .eq 7, 3) := by decide +kernel
theorem dX8_outline_56 : decode cX8_outline 56 = .ok (.iconst 0, 1) := by decide +kernel
theorem dX8_outline_57 : decode cX8_outline 57 = .ok (.goto 4, 3) := by decide +kernel
theorem dX8_outline_60 : decode cX8_outline 60 = .ok (.iconst 1, 1) := by decide +kernel
theorem dX8_outline_61 : decode cX8_outline 61 = .ok (.iadd, 1) := by decide +kernel
theorem dX8_outline_62 : decode cX8_outline 62 = .ok (.istore_n 1, 1) := by decide +kernel
theorem dX8_outline_63 : decode cX8_outline 63 = .ok (.iload_n 1, 1) := by decide +kernel
theorem dX8_outline_64 : decode cX8_outline 64 = .ok (.iload_n 0, 1) := by decide +kernel
theorem dX8_outline_65 : decode cX8_outline 65 = .ok (.iload_n 2, 1) := by decide +kernel
theorem dX8_outline_66 : decode cX8_outline 66 = .ok (.iload_n 3, 1) := by decide +kernel
theorem dX8_outline_67 : decode cX8_outline 67 = .ok (.iconst 1, 1) := by decide +kernel
theorem dX8_outline_68 : decode cX8_outline 68 = .ok (.isub, 1) := by decide +kernel
theorem dX8_outline_69 : decode cX8_outline 69 = .ok (.invokestatic 159, 3) := by decide +kernel
theorem dX8_outline_72 : decode cX8_outline 72 = .ok (.ifCond .eq 7, 3) := by decide +kernel
theorem dX8_outline_75 : decode cX8_outline 75 = .ok (.iconst 0, 1) := by decide +kernel
theorem dX8_outline_76 : decode cX8_outline 76 = .ok (.goto 4, 3) := by decide +kernel
theorem dX8_outline_79 : decode cX8_outline 79 = .ok (.iconst 1, 1) := by decide +kernel
theorem dX8_outline_80 : decode cX8_outline 80 = .ok (.iadd, 1) := by decide +kernel
theorem dX8_outline_81 : decode cX8_outline 81 = .ok (.istore_n 1, 1) := by decide +kernel
theorem dX8_outline_82 : decode cX8_outline 82 = .ok (.iload_n 1, 1) := by decide +kernel
theorem dX8_outline_83 : decode cX8_outline 83 = .ok (.iload_n 0, 1) := by decide +kernel
theorem dX8_outline_84 : decode cX8_outline 84 = .ok (.iload_n 2, 1) := by decide +kernel
theorem dX8_outline_85 : decode cX8_outline 85 = .ok (.iload_n 3, 1) := by decide +kernel
theorem dX8_outline_86 : decode cX8_outline 86 = .ok (.iconst 1, 1) := by decide +kernel
theorem dX8_outline_87 : decode cX8_outline 87 = .ok (.iadd, 1) := by decide +kernel
theorem dX8_outline_88 : decode cX8_outline 88 = .ok (.invokestatic 159, 3) := by decide +kernel
theorem dX8_outline_91 : decode cX8_outline 91 = .ok (.ifCond .eq 7, 3) := by decide +kernel
theorem dX8_outline_94 : decode cX8_outline 94 = .ok (.iconst 0, 1) := by decide +kernel
theorem dX8_outline_95 : decode cX8_outline 95 = .ok (.goto 4, 3) := by decide +kernel
theorem dX8_outline_98 : decode cX8_outline 98 = .ok (.iconst 1, 1) := by decide +kernel
theorem dX8_outline_99 : decode cX8_outline 99 = .ok (.iadd, 1) := by decide +kernel
theorem dX8_outline_100 : decode cX8_outline 100 = .ok (.istore_n 1, 1) := by decide +kernel
theorem dX8_outline_101 : decode cX8_outline 101 = .ok (.iinc 3 1, 3) := by decide +kernel
theorem dX8_outline_104 : decode cX8_outline 104 = .ok (.goto (-93), 3) := by decide +kernel
theorem dX8_outline_107 : decode cX8_outline 107 = .ok (.iinc 2 1, 3) := by decide +kernel
theorem dX8_outline_110 : decode cX8_outline 110 = .ok (.goto (-106), 3) := by decide +kernel
theorem dX8_outline_113 : decode cX8_outline 113 = .ok (.iload_n 1, 1) := by decide +kernel
theorem dX8_outline_114 : decode cX8_outline 114 = .ok (.ireturn, 1) := by decide +kernel
set_option maxRecDepth 100000 in
theorem r_X8_outline_0 {X : Bn} (C : Cx X cX8_outline 4 RX8 wsX8_outline 2 47) {ws : va_W} (x0 : Int32) (h : At X 4 (ws) 4 [(0, .int x0), (1, .int 0), (2, .int 0)] []) : At X 4 (ws) 0 [(0, .int x0)] [] := by
  refine at_iconst C dX8_outline_0 (v := 0) rfl ?_
  refine at_istore_n C dX8_outline_1 rfl (by decide) (lv' := [(1, .int 0), (0, .int x0)]) rfl ?_
  refine at_iconst C dX8_outline_2 (v := 0) rfl ?_
  refine at_istore_n C dX8_outline_3 rfl (by decide) (lv' := [(2, .int 0), (1, .int 0), (0, .int x0)]) rfl ?_
  refine at_lv [2, 1, 0] rfl ?_
  exact h
set_option maxRecDepth 100000 in
theorem r_X8_outline_4 {X : Bn} (C : Cx X cX8_outline 4 RX8 wsX8_outline 2 47) {ws : va_W} (x0 : Int32) (x1 : Int32) (x2 : Int32) (h : ((4 ≤ x2) → (Ends X (some .int) (some (.int x1)) (ws))) ∧ (¬ 4 ≤ x2 → (At X 4 (ws) 11 [(0, .int x0), (1, .int x1), (2, .int x2), (3, .int 0)] []))) : At X 4 (ws) 4 [(0, .int x0), (1, .int x1), (2, .int x2)] [] := by
  refine at_iload_n C dX8_outline_4 rfl (j := 2) rfl ?_
  refine at_iconst C dX8_outline_5 (v := 4) rfl ?_
  refine at_icmp_ge C dX8_outline_6 (tgt := 113) (by decide) (fun hc0 => ?_) (fun hc0 => ?_)
  · replace h := h.1 hc0
    refine at_iload_n C dX8_outline_113 rfl (j := 1) rfl ?_
    exact at_iret C dX8_outline_114 h
  · replace h := h.2 hc0
    refine at_iconst C dX8_outline_9 (v := 0) rfl ?_
    refine at_istore_n C dX8_outline_10 rfl (by decide) (lv' := [(3, .int 0), (0, .int x0), (1, .int x1), (2, .int x2)]) rfl ?_
    refine at_lv [1, 2, 3, 0] rfl ?_
    exact h
set_option maxRecDepth 100000 in
theorem r_X8_outline_11 {X : Bn} (C : Cx X cX8_outline 4 RX8 wsX8_outline 2 47) {ws : va_W} (x0 : Int32) (x1 : Int32) (x2 : Int32) (x3 : Int32) (h : ((4 ≤ x3) → (At X 4 (ws) 4 [(0, .int x0), (1, .int x1), (2, .int (x2 + 1))] [])) ∧ (¬ 4 ≤ x3 → (At X 4 (ws) 11 [(0, .int x0), (1, .int (if (f_X8_isCell x0 x2 x3) then (((x1 + (b2i (if (f_X8_isCell x0 (x2 - 1) x3) then false else true))) + (b2i (if (f_X8_isCell x0 (x2 + 1) x3) then false else true))) + (b2i (if (f_X8_isCell x0 x2 (x3 - 1)) then false else true))) + (b2i (if (f_X8_isCell x0 x2 (x3 + 1)) then false else true)) else x1)), (2, .int x2), (3, .int (x3 + 1))] []))) : At X 4 (ws) 11 [(0, .int x0), (1, .int x1), (2, .int x2), (3, .int x3)] [] := by
  refine at_iload_n C dX8_outline_11 rfl (j := 3) rfl ?_
  refine at_iconst C dX8_outline_12 (v := 4) rfl ?_
  refine at_icmp_ge C dX8_outline_13 (tgt := 107) (by decide) (fun hc1 => ?_) (fun hc1 => ?_)
  · replace h := h.1 hc1
    refine at_iinc C dX8_outline_107 (j := 2) (v := x2 + 1) rfl rfl (by decide) (lv' := [(2, .int (x2 + 1)), (0, .int x0), (1, .int x1), (3, .int x3)]) rfl ?_
    refine at_goto C dX8_outline_110 (tgt := 4) (by decide) ?_
    refine at_lv [1, 2, 0] rfl ?_
    exact h
  · replace h := h.2 hc1
    refine at_iload_n C dX8_outline_16 rfl (j := 0) rfl ?_
    refine at_iload_n C dX8_outline_17 rfl (j := 2) rfl ?_
    refine at_iload_n C dX8_outline_18 rfl (j := 3) rfl ?_
    refine at_cS0 C 3 (c_X8_isCell X.l X.D X.E X.a1 X.a2 x0 x2 x3) gX8_outline_X8_isCell rfl (by decide +kernel) ⟨rfl, rfl⟩ rfl rfl rfl dX8_outline_19 ?_
    have K : At X 4 (ws) 101 [(0, .int x0), (1, .int (if (f_X8_isCell x0 x2 x3) then (((x1 + (b2i (if (f_X8_isCell x0 (x2 - 1) x3) then false else true))) + (b2i (if (f_X8_isCell x0 (x2 + 1) x3) then false else true))) + (b2i (if (f_X8_isCell x0 x2 (x3 - 1)) then false else true))) + (b2i (if (f_X8_isCell x0 x2 (x3 + 1)) then false else true)) else x1)), (2, .int x2), (3, .int x3)] [] := by
      refine at_iinc C dX8_outline_101 (j := 3) (v := x3 + 1) rfl rfl (by decide) (lv' := [(3, .int (x3 + 1)), (0, .int x0), (1, .int (if (f_X8_isCell x0 x2 x3) then (((x1 + (b2i (if (f_X8_isCell x0 (x2 - 1) x3) then false else true))) + (b2i (if (f_X8_isCell x0 (x2 + 1) x3) then false else true))) + (b2i (if (f_X8_isCell x0 x2 (x3 - 1)) then false else true))) + (b2i (if (f_X8_isCell x0 x2 (x3 + 1)) then false else true)) else x1)), (2, .int x2)]) rfl ?_
      refine at_goto C dX8_outline_104 (tgt := 11) (by decide) ?_
      refine at_lv [1, 2, 3, 0] rfl ?_
      exact h
    refine at_ifB_eq C dX8_outline_22 (tgt := 101) (by decide) (fun hc2 => ?_) (fun hc2 => ?_)
    · skip
      first | (simp only [if_neg (show ¬ (f_X8_isCell x0 x2 x3) = true by rw [hc2]; decide)] at K; exact K) | exact K
    · skip
      refine at_iload_n C dX8_outline_25 rfl (j := 1) rfl ?_
      refine at_iload_n C dX8_outline_26 rfl (j := 0) rfl ?_
      refine at_iload_n C dX8_outline_27 rfl (j := 2) rfl ?_
      refine at_iconst C dX8_outline_28 (v := 1) rfl ?_
      refine at_isub C dX8_outline_29 ?_
      refine at_iload_n C dX8_outline_30 rfl (j := 3) rfl ?_
      refine at_cS0 C 3 (c_X8_isCell X.l X.D X.E X.a1 X.a2 x0 (x2 - 1) x3) gX8_outline_X8_isCell rfl (by decide +kernel) ⟨rfl, rfl⟩ rfl rfl rfl dX8_outline_31 ?_
      have K : At X 4 (ws) 42 [(0, .int x0), (2, .int x2), (3, .int x3)] [.int (b2i (if (f_X8_isCell x0 (x2 - 1) x3) then false else true)), .int x1] := by
        refine at_iadd C dX8_outline_42 ?_
        refine at_istore_n C dX8_outline_43 rfl (by decide) (lv' := [(1, .int (x1 + (b2i (if (f_X8_isCell x0 (x2 - 1) x3) then false else true)))), (0, .int x0), (2, .int x2), (3, .int x3)]) rfl ?_
        refine at_iload_n C dX8_outline_44 rfl (j := 0) rfl ?_
        refine at_iload_n C dX8_outline_45 rfl (j := 1) rfl ?_
        refine at_iload_n C dX8_outline_46 rfl (j := 2) rfl ?_
        refine at_iconst C dX8_outline_47 (v := 1) rfl ?_
        refine at_iadd C dX8_outline_48 ?_
        refine at_iload_n C dX8_outline_49 rfl (j := 3) rfl ?_
        refine at_cS0 C 3 (c_X8_isCell X.l X.D X.E X.a1 X.a2 x0 (x2 + 1) x3) gX8_outline_X8_isCell rfl (by decide +kernel) ⟨rfl, rfl⟩ rfl rfl rfl dX8_outline_50 ?_
        have K : At X 4 (ws) 61 [(0, .int x0), (2, .int x2), (3, .int x3)] [.int (b2i (if (f_X8_isCell x0 (x2 + 1) x3) then false else true)), .int (x1 + (b2i (if (f_X8_isCell x0 (x2 - 1) x3) then false else true)))] := by
          refine at_iadd C dX8_outline_61 ?_
          refine at_istore_n C dX8_outline_62 rfl (by decide) (lv' := [(1, .int ((x1 + (b2i (if (f_X8_isCell x0 (x2 - 1) x3) then false else true))) + (b2i (if (f_X8_isCell x0 (x2 + 1) x3) then false else true)))), (0, .int x0), (2, .int x2), (3, .int x3)]) rfl ?_
          refine at_iload_n C dX8_outline_63 rfl (j := 0) rfl ?_
          refine at_iload_n C dX8_outline_64 rfl (j := 1) rfl ?_
          refine at_iload_n C dX8_outline_65 rfl (j := 2) rfl ?_
          refine at_iload_n C dX8_outline_66 rfl (j := 3) rfl ?_
          refine at_iconst C dX8_outline_67 (v := 1) rfl ?_
          refine at_isub C dX8_outline_68 ?_
          refine at_cS0 C 3 (c_X8_isCell X.l X.D X.E X.a1 X.a2 x0 x2 (x3 - 1)) gX8_outline_X8_isCell rfl (by decide +kernel) ⟨rfl, rfl⟩ rfl rfl rfl dX8_outline_69 ?_
          have K : At X 4 (ws) 80 [(0, .int x0), (2, .int x2), (3, .int x3)] [.int (b2i (if (f_X8_isCell x0 x2 (x3 - 1)) then false else true)), .int ((x1 + (b2i (if (f_X8_isCell x0 (x2 - 1) x3) then false else true))) + (b2i (if (f_X8_isCell x0 (x2 + 1) x3) then false else true)))] := by
            refine at_iadd C dX8_outline_80 ?_
            refine at_istore_n C dX8_outline_81 rfl (by decide) (lv' := [(1, .int (((x1 + (b2i (if (f_X8_isCell x0 (x2 - 1) x3) then false else true))) + (b2i (if (f_X8_isCell x0 (x2 + 1) x3) then false else true))) + (b2i (if (f_X8_isCell x0 x2 (x3 - 1)) then false else true)))), (0, .int x0), (2, .int x2), (3, .int x3)]) rfl ?_
            refine at_iload_n C dX8_outline_82 rfl (j := 0) rfl ?_
            refine at_iload_n C dX8_outline_83 rfl (j := 1) rfl ?_
            refine at_iload_n C dX8_outline_84 rfl (j := 2) rfl ?_
            refine at_iload_n C dX8_outline_85 rfl (j := 3) rfl ?_
            refine at_iconst C dX8_outline_86 (v := 1) rfl ?_
            refine at_iadd C dX8_outline_87 ?_
            refine at_cS0 C 3 (c_X8_isCell X.l X.D X.E X.a1 X.a2 x0 x2 (x3 + 1)) gX8_outline_X8_isCell rfl (by decide +kernel) ⟨rfl, rfl⟩ rfl rfl rfl dX8_outline_88 ?_
            have K : At X 4 (ws) 99 [(0, .int x0), (2, .int x2), (3, .int x3)] [.int (b2i (if (f_X8_isCell x0 x2 (x3 + 1)) then false else true)), .int (((x1 + (b2i (if (f_X8_isCell x0 (x2 - 1) x3) then false else true))) + (b2i (if (f_X8_isCell x0 (x2 + 1) x3) then false else true))) + (b2i (if (f_X8_isCell x0 x2 (x3 - 1)) then false else true)))] := by
              refine at_iadd C dX8_outline_99 ?_
              refine at_istore_n C dX8_outline_100 rfl (by decide) (lv' := [(1, .int ((((x1 + (b2i (if (f_X8_isCell x0 (x2 - 1) x3) then false else true))) + (b2i (if (f_X8_isCell x0 (x2 + 1) x3) then false else true))) + (b2i (if (f_X8_isCell x0 x2 (x3 - 1)) then false else true))) + (b2i (if (f_X8_isCell x0 x2 (x3 + 1)) then false else true)))), (0, .int x0), (2, .int x2), (3, .int x3)]) rfl ?_
              refine at_lv [1, 0, 2, 3] rfl ?_
              first | (simp only [if_pos hc2] at K; exact K) | exact K
            refine at_ifB_eq C dX8_outline_91 (tgt := 98) (by decide) (fun hc3 => ?_) (fun hc3 => ?_)
            · skip
              refine at_iconst C dX8_outline_98 (v := 1) rfl ?_
              refine at_lv [1, 2, 3] rfl ?_
              first | (simp only [if_neg (show ¬ (f_X8_isCell x0 x2 (x3 + 1)) = true by rw [hc3]; decide)] at K; exact K) | exact K
            · skip
              refine at_iconst C dX8_outline_94 (v := 0) rfl ?_
              refine at_goto C dX8_outline_95 (tgt := 99) (by decide) ?_
              refine at_lv [1, 2, 3] rfl ?_
              first | (simp only [if_pos hc3] at K; exact K) | exact K
          refine at_ifB_eq C dX8_outline_72 (tgt := 79) (by decide) (fun hc3 => ?_) (fun hc3 => ?_)
          · skip
            refine at_iconst C dX8_outline_79 (v := 1) rfl ?_
            refine at_lv [1, 2, 3] rfl ?_
            first | (simp only [if_neg (show ¬ (f_X8_isCell x0 x2 (x3 - 1)) = true by rw [hc3]; decide)] at K; exact K) | exact K
          · skip
            refine at_iconst C dX8_outline_75 (v := 0) rfl ?_
            refine at_goto C dX8_outline_76 (tgt := 80) (by decide) ?_
            refine at_lv [1, 2, 3] rfl ?_
            first | (simp only [if_pos hc3] at K; exact K) | exact K
        refine at_ifB_eq C dX8_outline_53 (tgt := 60) (by decide) (fun hc3 => ?_) (fun hc3 => ?_)
        · skip
          refine at_iconst C dX8_outline_60 (v := 1) rfl ?_
          refine at_lv [1, 2, 3] rfl ?_
          first | (simp only [if_neg (show ¬ (f_X8_isCell x0 (x2 + 1) x3) = true by rw [hc3]; decide)] at K; exact K) | exact K
        · skip
          refine at_iconst C dX8_outline_56 (v := 0) rfl ?_
          refine at_goto C dX8_outline_57 (tgt := 61) (by decide) ?_
          refine at_lv [1, 2, 3] rfl ?_
          first | (simp only [if_pos hc3] at K; exact K) | exact K
      refine at_ifB_eq C dX8_outline_34 (tgt := 41) (by decide) (fun hc3 => ?_) (fun hc3 => ?_)
      · skip
        refine at_iconst C dX8_outline_41 (v := 1) rfl ?_
        refine at_lv [0, 2, 3] rfl ?_
        first | (simp only [if_neg (show ¬ (f_X8_isCell x0 (x2 - 1) x3) = true by rw [hc3]; decide)] at K; exact K) | exact K
      · skip
        refine at_iconst C dX8_outline_37 (v := 0) rfl ?_
        refine at_goto C dX8_outline_38 (tgt := 42) (by decide) ?_
        refine at_lv [0, 2, 3] rfl ?_
        first | (simp only [if_pos hc3] at K; exact K) | exact K
def olStep (x0 : Int32) (r c : Nat) (x1 : Int32) : Int32 := (if (f_X8_isCell x0 (nI r) (nI c)) then (((x1 + (b2i (if (f_X8_isCell x0 (nI r - 1) (nI c)) then false else true))) + (b2i (if (f_X8_isCell x0 (nI r + 1) (nI c)) then false else true))) + (b2i (if (f_X8_isCell x0 (nI r) (nI c - 1)) then false else true))) + (b2i (if (f_X8_isCell x0 (nI r) (nI c + 1)) then false else true)) else x1)
def f_X8_outline (x : Int32) : Int32 := itF (fun r a => itF (fun c a => olStep x r c a) 0 4 a) 0 4 0
set_option maxRecDepth 100000 in
theorem c_X8_outline (l : Launch) (D : va_G) (E : Nat → ClassId) (a1 a2 : Nat)  (x0 : Int32) : Fn l D E a1 a2 yX8_outline wsX8_outline 2 47 [.int x0] [] (some (.int (f_X8_outline x0))) [] := by
  refine Fn.of (cc := cX8_outline) (maxL := 4) (ret := (some .int)) (own := RX8) (by decide) rfl rfl rfl (Nat.le_of_ble_eq_true rfl) (fun X h1 h2 h3 h4 h5 C hE => ?_)
  subst h1 h2 h3 h4 h5
  refine r_X8_outline_0 C x0 ?_
  refine for_go (P := fun r a => At X 4 [] 4 [(0, .int x0), (1, .int a), (2, .int (nI r))] []) (N := 4) (fun r a => itF (fun c a => olStep x0 r c a) 0 4 a) (fun r a hr h => ?_) 4 0 0 rfl ?_
  · refine r_X8_outline_4 C x0 a (nI r) ⟨fun hc => nlt_no (by decide) hr hc, fun _ => ?_⟩
    refine for_go (P := fun c a => At X 4 [] 11 [(0, .int x0), (1, .int a), (2, .int (nI r)), (3, .int (nI c))] []) (N := 4) (fun c a => olStep x0 r c a) (fun c a hc h => ?_) 4 0 a rfl ?_
    · exact r_X8_outline_11 C x0 a (nI r) (nI c) ⟨fun q => nlt_no (by decide) hc q, fun _ => by rw [← nI_1 c] at h; exact h⟩
    · exact r_X8_outline_11 C x0 _ (nI r) (nI 4) ⟨fun _ => by rw [nI_1 r]; exact h, fun q => nle_no q⟩
  · exact r_X8_outline_4 C x0 _ (nI 4) ⟨fun _ => hE, fun q => nle_no q⟩
