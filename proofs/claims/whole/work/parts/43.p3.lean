/-! the outline: what is counted cell by cell and by pairs -/
def olc (b u d l r : Bool) : Nat := if b then (!u).toNat + (!d).toNat + (!l).toNat + (!r).toNat else 0
theorem ol_cell : ∀ b u d l r : Bool, olc b u d l r + (b && u).toNat + (b && d).toNat + (b && l).toNat + (b && r).toNat = 4 * b.toNat := by decide
theorem ol_id (b0 b1 b2 b3 b4 b5 b6 b7 b8 b9 b10 b11 b12 b13 b14 b15 : Bool) : (olc b15 false b11 false b14 + olc b14 false b10 b15 b13 + olc b13 false b9 b14 b12 + olc b12 false b8 b13 false + olc b11 b15 b7 false b10 + olc b10 b14 b6 b11 b9 + olc b9 b13 b5 b10 b8 + olc b8 b12 b4 b9 false + olc b7 b11 b3 false b6 + olc b6 b10 b2 b7 b5 + olc b5 b9 b1 b6 b4 + olc b4 b8 b0 b5 false + olc b3 b7 false false b2 + olc b2 b6 false b3 b1 + olc b1 b5 false b2 b0 + olc b0 b4 false b1 false) + 2 * (((b0 && b4).toNat + (b1 && b5).toNat + (b2 && b6).toNat + (b3 && b7).toNat + (b4 && b8).toNat + (b5 && b9).toNat + (b6 && b10).toNat + (b7 && b11).toNat + (b8 && b12).toNat + (b9 && b13).toNat + (b10 && b14).toNat + (b11 && b15).toNat) + ((b0 && b1).toNat + (b1 && b2).toNat + (b2 && b3).toNat + (b4 && b5).toNat + (b5 && b6).toNat + (b6 && b7).toNat + (b8 && b9).toNat + (b9 && b10).toNat + (b10 && b11).toNat + (b12 && b13).toNat + (b13 && b14).toNat + (b14 && b15).toNat)) = 4 * (b0.toNat + b1.toNat + b2.toNat + b3.toNat + b4.toNat + b5.toNat + b6.toNat + b7.toNat + b8.toNat + b9.toNat + b10.toNat + b11.toNat + b12.toNat + b13.toNat + b14.toNat + b15.toNat) := by
  have e15 := ol_cell b15 false b11 false b14
  have e14 := ol_cell b14 false b10 b15 b13
  have e13 := ol_cell b13 false b9 b14 b12
  have e12 := ol_cell b12 false b8 b13 false
  have e11 := ol_cell b11 b15 b7 false b10
  have e10 := ol_cell b10 b14 b6 b11 b9
  have e9 := ol_cell b9 b13 b5 b10 b8
  have e8 := ol_cell b8 b12 b4 b9 false
  have e7 := ol_cell b7 b11 b3 false b6
  have e6 := ol_cell b6 b10 b2 b7 b5
  have e5 := ol_cell b5 b9 b1 b6 b4
  have e4 := ol_cell b4 b8 b0 b5 false
  have e3 := ol_cell b3 b7 false false b2
  have e2 := ol_cell b2 b6 false b3 b1
  have e1 := ol_cell b1 b5 false b2 b0
  have e0 := ol_cell b0 b4 false b1 false
  simp only [Bool.and_false, Bool.toNat_false, Nat.add_zero] at e15 e14 e13 e12 e11 e10 e9 e8 e7 e6 e5 e4 e3 e2 e1 e0
  rw [Bool.and_comm b4 b0] at e4
  rw [Bool.and_comm b5 b1] at e5
  rw [Bool.and_comm b6 b2] at e6
  rw [Bool.and_comm b7 b3] at e7
  rw [Bool.and_comm b8 b4] at e8
  rw [Bool.and_comm b9 b5] at e9
  rw [Bool.and_comm b10 b6] at e10
  rw [Bool.and_comm b11 b7] at e11
  rw [Bool.and_comm b12 b8] at e12
  rw [Bool.and_comm b13 b9] at e13
  rw [Bool.and_comm b14 b10] at e14
  rw [Bool.and_comm b15 b11] at e15
  rw [Bool.and_comm b1 b0] at e1
  rw [Bool.and_comm b2 b1] at e2
  rw [Bool.and_comm b3 b2] at e3
  rw [Bool.and_comm b5 b4] at e5
  rw [Bool.and_comm b6 b5] at e6
  rw [Bool.and_comm b7 b6] at e7
  rw [Bool.and_comm b9 b8] at e9
  rw [Bool.and_comm b10 b9] at e10
  rw [Bool.and_comm b11 b10] at e11
  rw [Bool.and_comm b13 b12] at e13
  rw [Bool.and_comm b14 b13] at e14
  rw [Bool.and_comm b15 b14] at e15
  omega
def sumB (f : Nat → Bool) : Nat → Nat → Nat
  | 0, _ => 0
  | k + 1, i => (f i).toNat + sumB f k (i + 1)
theorem pcR_sum (m : Nat) : ∀ (k i : Nat), pcR k (m / 2 ^ i) = sumB m.testBit k i
  | 0, _ => rfl
  | k + 1, i => by
    show m / 2 ^ i % 2 + pcR k (m / 2 ^ i / 2) = (m.testBit i).toNat + sumB m.testBit k (i + 1)
    rw [← pcR_sum m k (i + 1), Nat.div_div_eq_div_mul, ← Nat.pow_succ, Nat.testBit_eq_decide_div_mod_eq]
    rcases Nat.mod_two_eq_zero_or_one (m / 2 ^ i) with q | q <;> rw [q] <;> rfl
theorem sumB_cong {f g : Nat → Bool} : ∀ (k i : Nat), (∀ j, i ≤ j → j < i + k → f j = g j) → sumB f k i = sumB g k i
  | 0, _, _ => rfl
  | k + 1, i, h => by
    show (f i).toNat + sumB f k (i + 1) = (g i).toNat + sumB g k (i + 1)
    rw [h i (Nat.le_refl _) (by omega), sumB_cong k (i + 1) (fun j h1 h2 => h j (by omega) (by omega))]
theorem pc16 {m : Nat} (h : m < 65536) : pcR 32 m = sumB m.testBit 16 0 := by
  rw [show (32 : Nat) = 16 + 16 from rfl, pcR_add, show m / 2 ^ 16 = 0 from Nat.div_eq_of_lt h, pcR_0, Nat.add_zero, ← pcR_sum m 16 0, Nat.pow_zero, Nat.div_one]
theorem b2i_not (b : Bool) : b2i (if b then false else true) = nI (!b).toNat := by cases b <;> rfl
theorem ol_step {n r c a : Nat} (hn : n < 65536) (hr : r < 4) (hc : c < 4) : olStep (nI n) r c (nI a) = nI (a + olc (n.testBit (15 - 4 * r - c)) (decide (0 < r) && n.testBit (15 - 4 * (r - 1) - c)) (decide (r < 3) && n.testBit (15 - 4 * (r + 1) - c)) (decide (0 < c) && n.testBit (15 - 4 * r - (c - 1))) (decide (c < 3) && n.testBit (15 - 4 * r - (c + 1)))) := by
  rw [olStep, ic_0 hn hr hc, ic_u hn hr hc, ic_d hn hr hc, ic_l hn hr hc, ic_r hn hr hc, b2i_not, b2i_not, b2i_not, b2i_not, nI_add, nI_add, nI_add, nI_add, olc]
  by_cases q : n.testBit (15 - 4 * r - c) = true
  · rw [if_pos q, if_pos q]
    refine congrArg nI ?_
    omega
  · rw [if_neg q, if_neg q, Nat.add_zero]
theorem and_bd {a b : Nat} (h : a < 65536) : a &&& b < 65536 := Nat.lt_of_le_of_lt Nat.and_le_left h
theorem outline_eq {n : Nat} (hn : n < 65536) : f_X2_outline (nI n) = f_X8_outline (nI n) := by
  have ebv : ∀ i, (n &&& n / 16).testBit i = (n.testBit i && n.testBit (i + 4)) := fun i => by
    rw [Nat.testBit_and, show n / 16 = n / 2 ^ 4 from rfl, Nat.testBit_div_two_pow]
  have ebh : ∀ i, (n &&& (n &&& 61166) / 2).testBit i = (n.testBit i && (n.testBit (i + 1) && Nat.testBit 61166 (i + 1))) := fun i => by
    rw [Nat.testBit_and, show (n &&& 61166) / 2 = (n &&& 61166) / 2 ^ 1 from rfl, Nat.testBit_div_two_pow, Nat.testBit_and]
  have hi : ∀ i, 16 ≤ i → n.testBit i = false := fun i q => tb16 hn q
  have b16 := hi 16 (by decide)
  have b17 := hi 17 (by decide)
  have b18 := hi 18 (by decide)
  have b19 := hi 19 (by decide)
  have e1 : f_X2_outline (nI n) = nI (4 * pcR 32 n - 2 * (pcR 32 (n &&& n / 16) + pcR 32 (n &&& (n &&& 61166) / 2))) := by
    have hq : 2 * (pcR 32 (n &&& n / 16) + pcR 32 (n &&& (n &&& 61166) / 2)) ≤ 4 * pcR 32 n := by
      have := ol_id (n.testBit 0) (n.testBit 1) (n.testBit 2) (n.testBit 3) (n.testBit 4) (n.testBit 5) (n.testBit 6) (n.testBit 7) (n.testBit 8) (n.testBit 9) (n.testBit 10) (n.testBit 11) (n.testBit 12) (n.testBit 13) (n.testBit 14) (n.testBit 15)
      rw [pc16 hn, pc16 (and_bd hn), pc16 (and_bd hn)]
      simp only [sumB, ebv, ebh, Nat.reduceAdd, b16, b17, b18, b19, Bool.and_false, Bool.false_and, Bool.toNat_false, Nat.add_zero, Nat.zero_add, show Nat.testBit 61166 1 = true from by decide, show Nat.testBit 61166 2 = true from by decide, show Nat.testBit 61166 3 = true from by decide, show Nat.testBit 61166 4 = false from by decide, show Nat.testBit 61166 5 = true from by decide, show Nat.testBit 61166 6 = true from by decide, show Nat.testBit 61166 7 = true from by decide, show Nat.testBit 61166 8 = false from by decide, show Nat.testBit 61166 9 = true from by decide, show Nat.testBit 61166 10 = true from by decide, show Nat.testBit 61166 11 = true from by decide, show Nat.testBit 61166 12 = false from by decide, show Nat.testBit 61166 13 = true from by decide, show Nat.testBit 61166 14 = true from by decide, show Nat.testBit 61166 15 = true from by decide, Bool.and_true]
      omega
    unfold f_X2_outline
    rw [show (4 : Int32) = nI 4 from rfl, show (1 : Int32) = nI 1 from rfl, show (61166 : Int32) = nI 61166 from rfl, show (2 : Int32) = nI 2 from rfl, iush_nI (by decide) (by omega), and_nI, and_nI, iush_nI (by decide) (by have := and_bd (b := 61166) hn; omega), and_nI, bc32 (by omega), bc32 (by have := and_bd (b := n / 2 ^ 4) hn; omega), bc32 (by have := and_bd (b := (n &&& 61166) / 2 ^ 1) hn; omega), nI_add, pk_mul, pk_mul, pk_sub hq]
  have e2 : f_X8_outline (nI n) = nI (itF (fun r a => itF (fun c a => a + olc (n.testBit (15 - 4 * r - c)) (decide (0 < r) && n.testBit (15 - 4 * (r - 1) - c)) (decide (r < 3) && n.testBit (15 - 4 * (r + 1) - c)) (decide (0 < c) && n.testBit (15 - 4 * r - (c - 1))) (decide (c < 3) && n.testBit (15 - 4 * r - (c + 1)))) 0 4 a) 0 4 0) :=
    itF_nI (N := 4) (fun r a hr => itF_nI (N := 4) (fun c a hc => ol_step hn hr hc) 4 0 a rfl) 4 0 0 rfl
  rw [e1, e2]
  refine congrArg nI ?_
  have := ol_id (n.testBit 0) (n.testBit 1) (n.testBit 2) (n.testBit 3) (n.testBit 4) (n.testBit 5) (n.testBit 6) (n.testBit 7) (n.testBit 8) (n.testBit 9) (n.testBit 10) (n.testBit 11) (n.testBit 12) (n.testBit 13) (n.testBit 14) (n.testBit 15)
  rw [pc16 hn, pc16 (and_bd hn), pc16 (and_bd hn)]
  simp only [sumB, itF, ebv, ebh, Nat.reduceAdd, Nat.reduceSub, Nat.reduceMul, b16, b17, b18, b19, Bool.and_false, Bool.false_and, Bool.toNat_false, Nat.add_zero, Nat.zero_add, show Nat.testBit 61166 1 = true from by decide, show Nat.testBit 61166 2 = true from by decide, show Nat.testBit 61166 3 = true from by decide, show Nat.testBit 61166 4 = false from by decide, show Nat.testBit 61166 5 = true from by decide, show Nat.testBit 61166 6 = true from by decide, show Nat.testBit 61166 7 = true from by decide, show Nat.testBit 61166 8 = false from by decide, show Nat.testBit 61166 9 = true from by decide, show Nat.testBit 61166 10 = true from by decide, show Nat.testBit 61166 11 = true from by decide, show Nat.testBit 61166 12 = false from by decide, show Nat.testBit 61166 13 = true from by decide, show Nat.testBit 61166 14 = true from by decide, show Nat.testBit 61166 15 = true from by decide, Bool.and_true, Nat.lt_irrefl, decide_false, show decide (0 < 1) = true from rfl, show decide (0 < 2) = true from rfl, show decide (0 < 3) = true from rfl, show decide (0 < 3) = true from rfl, show decide (1 < 3) = true from rfl, show decide (2 < 3) = true from rfl, Bool.true_and]
  omega
theorem ones_eq {n : Nat} (hn : n < 65536) : f_J6_bitCount_0f7a4 (nI n) = f_X8_ones (nI n) := by
  rw [bc32 (by omega), f_X8_ones, uI_nI (by omega)]
theorem ones_eq32 (x : Int32) : f_J6_bitCount_0f7a4 x = f_X8_ones x := by
  have := bc32 (uI_lt x)
  rw [nI_uI] at this
  rw [this, f_X8_ones]
