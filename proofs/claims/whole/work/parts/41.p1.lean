/-! counting ones, by bytes -/
theorem and_split {a b c d : Nat} (hb : b < 256) (hd : d < 256) : (256 * a + b) &&& (256 * c + d) = 256 * (a &&& c) + (b &&& d) := by
  have h1 : ((256 * a + b) &&& (256 * c + d)) % 256 = b &&& d := by
    have := Nat.and_mod_two_pow (a := 256 * a + b) (b := 256 * c + d) (n := 8)
    have e : (2 : Nat) ^ 8 = 256 := rfl
    rw [e] at this
    rw [this, show (256 * a + b) % 256 = b by omega, show (256 * c + d) % 256 = d by omega]
  have h2 : ((256 * a + b) &&& (256 * c + d)) / 256 = a &&& c := by
    have e : ∀ z : Nat, z / 256 = z >>> 8 := fun z => (Nat.shiftRight_eq_div_pow z 8).symm
    rw [e, Nat.shiftRight_and_distrib, ← e, ← e, show (256 * a + b) / 256 = a by omega, show (256 * c + d) / 256 = c by omega]
  have h3 := Nat.div_add_mod ((256 * a + b) &&& (256 * c + d)) 256
  omega
def mk (b : Nat) : Nat → Nat
  | 0 => 0
  | k + 1 => 256 * mk b k + b
def wA (k x : Nat) : Nat := x - ((x / 2) &&& mk 85 k)
def wB (k x : Nat) : Nat := (x &&& mk 51 k) + ((x / 4) &&& mk 51 k)
def wC (k x : Nat) : Nat := (x + x / 16) &&& mk 15 k
def yB (b : Nat) : Nat := ((b - (b / 2 &&& 85)) &&& 51) + ((b - (b / 2 &&& 85)) / 4 &&& 51)
theorem b_half : ∀ m, m < 2 → ∀ b, b < 256 → (128 * m + b / 2) &&& 85 = b / 2 &&& 85 := by decide +kernel
theorem b_quart : ∀ m, m < 4 → ∀ b, b < 256 → (64 * m + b / 4) &&& 51 = b / 4 &&& 51 := by decide +kernel
theorem b_fin : ∀ b, b < 256 → yB b ≤ 68 ∧ yB b % 16 ≤ 4 ∧ yB b / 16 ≤ 4 ∧ yB b % 16 + yB b / 16 = pcR 8 b ∧ b - (b / 2 &&& 85) < 256 := by decide +kernel
theorem wA_s {k q b : Nat} (hb : b < 256) : wA (k + 1) (256 * q + b) = 256 * wA k q + (b - (b / 2 &&& 85)) := by
  unfold wA
  have e : (256 * q + b) / 2 = 256 * (q / 2) + (128 * (q % 2) + b / 2) := by omega
  rw [mk, e, and_split (by omega) (by decide), b_half (q % 2) (by omega) b hb]
  have h1 : (q / 2 &&& mk 85 k) ≤ q / 2 := Nat.and_le_left
  have h2 : (b / 2 &&& 85) ≤ b / 2 := Nat.and_le_left
  omega
theorem wB_s {k q y : Nat} (hy : y < 256) : wB (k + 1) (256 * q + y) = 256 * wB k q + ((y &&& 51) + (y / 4 &&& 51)) := by
  unfold wB
  have e : (256 * q + y) / 4 = 256 * (q / 4) + (64 * (q % 4) + y / 4) := by omega
  rw [mk, e, and_split hy (by decide), and_split (by omega) (by decide), b_quart (q % 4) (by omega) y hy]
  omega
theorem wB_nib (k x : Nat) : wB k (wA k x) % 16 ≤ 4 := by
  cases k with
  | zero => unfold wB; rw [mk]; simp
  | succ k =>
    obtain ⟨q, b, hb, rfl⟩ : ∃ q b, b < 256 ∧ x = 256 * q + b := ⟨x / 256, x % 256, by omega, by omega⟩
    have hf := b_fin b hb
    rw [wA_s hb, wB_s hf.2.2.2.2]
    have : (b - (b / 2 &&& 85) &&& 51) + ((b - (b / 2 &&& 85)) / 4 &&& 51) = yB b := rfl
    rw [this]
    omega
theorem and15 (z : Nat) : z &&& 15 = z % 16 := Nat.and_two_pow_sub_one_eq_mod z 4
theorem wC_s {k Y y : Nat} (hY : Y % 16 ≤ 4) (h1 : y ≤ 68) (h2 : y % 16 ≤ 4) (h3 : y / 16 ≤ 4) : wC (k + 1) (256 * Y + y) = 256 * wC k Y + (y % 16 + y / 16) := by
  unfold wC
  have e : 256 * Y + y + (256 * Y + y) / 16 = 256 * (Y + Y / 16) + (16 * (Y % 16) + y + y / 16) := by omega
  rw [mk, e, and_split (by omega) (by decide), and15]
  omega
def pb : Nat → Nat → Nat
  | 0, _ => 0
  | k + 1, x => 256 * pb k (x / 256) + pcR 8 (x % 256)
theorem word_pb : ∀ (k x : Nat), wC k (wB k (wA k x)) = pb k x
  | 0, x => by unfold wC; rw [mk]; simp [pb]
  | k + 1, x => by
    obtain ⟨q, b, hb, rfl⟩ : ∃ q b, b < 256 ∧ x = 256 * q + b := ⟨x / 256, x % 256, by omega, by omega⟩
    have hf := b_fin b hb
    rw [wA_s hb, wB_s hf.2.2.2.2]
    have ey : (b - (b / 2 &&& 85) &&& 51) + ((b - (b / 2 &&& 85)) / 4 &&& 51) = yB b := rfl
    rw [ey, wC_s (wB_nib k q) hf.1 hf.2.1 hf.2.2.1, word_pb k q, hf.2.2.2.1, pb, show (256 * q + b) / 256 = q by omega, show (256 * q + b) % 256 = b by omega]
theorem pcR_mod : ∀ (k n : Nat), pcR k (n % 2 ^ k) = pcR k n
  | 0, n => rfl
  | k + 1, n => by
    have e1 : n % 2 ^ (k + 1) % 2 = n % 2 := by rw [Nat.pow_succ, Nat.mul_comm]; exact Nat.mod_mul_right_mod n 2 (2 ^ k)
    have e2 : n % 2 ^ (k + 1) / 2 = n / 2 % 2 ^ k := by rw [Nat.pow_succ, Nat.mul_comm]; exact Nat.mod_mul_right_div_self n 2 (2 ^ k)
    show n % 2 ^ (k + 1) % 2 + pcR k (n % 2 ^ (k + 1) / 2) = n % 2 + pcR k (n / 2)
    rw [e1, e2, pcR_mod k (n / 2)]
theorem pcR_add : ∀ (a b n : Nat), pcR (a + b) n = pcR a n + pcR b (n / 2 ^ a)
  | 0, b, n => by rw [Nat.zero_add, Nat.pow_zero, Nat.div_one]; exact (Nat.zero_add _).symm
  | a + 1, b, n => by
    rw [show a + 1 + b = (a + b) + 1 by omega]
    show n % 2 + pcR (a + b) (n / 2) = n % 2 + pcR a (n / 2) + pcR b (n / 2 ^ (a + 1))
    rw [pcR_add a b (n / 2), Nat.div_div_eq_div_mul, Nat.pow_succ, Nat.mul_comm 2 (2 ^ a)]
    omega
theorem pcR_le : ∀ (k n : Nat), pcR k n ≤ k
  | 0, _ => Nat.le_refl _
  | k + 1, n => by
    have := pcR_le k (n / 2)
    show n % 2 + pcR k (n / 2) ≤ k + 1
    omega
theorem pcR_8 (n : Nat) : pcR 8 (n % 256) = pcR 8 n := pcR_mod 8 n
theorem pcR_0 : ∀ k, pcR k 0 = 0
  | 0 => rfl
  | k + 1 => by show 0 % 2 + pcR k (0 / 2) = 0; rw [show 0 / 2 = 0 from rfl, pcR_0 k]
theorem iush_nI {n k : Nat} (hk : k < 32) (hn : n < 2 ^ 32) : iush (nI n) (nI k) = nI (n / 2 ^ k) := by
  have amt : ∀ k, k < 32 → (((nI k).toUInt32 &&& Int32.toUInt32 31).toBitVec % 32).toNat = k := by decide
  apply Int32.toBitVec_inj.mp
  show (BitVec.ofNat 32 n) >>> (((nI k).toUInt32 &&& Int32.toUInt32 31).toBitVec % 32) = BitVec.ofNat 32 (n / 2 ^ k)
  apply BitVec.eq_of_toNat_eq
  rw [BitVec.ushiftRight_eq', amt k hk, BitVec.toNat_ushiftRight, BitVec.toNat_ofNat, BitVec.toNat_ofNat, Nat.mod_eq_of_lt hn, Nat.shiftRight_eq_div_pow, Nat.mod_eq_of_lt (Nat.lt_of_le_of_lt (Nat.div_le_self _ _) hn)]
theorem lush_lN {n k : Nat} (hk : k < 64) (hn : n < 2 ^ 64) : lush (lN n) (nI k) = lN (n / 2 ^ k) := by
  apply Int64.toBitVec_inj.mp
  show (BitVec.ofNat 64 n) >>> (((nI k).toInt64.toUInt64 &&& Int64.toUInt64 63).toBitVec % 64) = BitVec.ofNat 64 (n / 2 ^ k)
  apply BitVec.eq_of_toNat_eq
  rw [BitVec.ushiftRight_eq', shr_amt k hk, BitVec.toNat_ushiftRight, BitVec.toNat_ofNat, BitVec.toNat_ofNat, Nat.mod_eq_of_lt hn, Nat.shiftRight_eq_div_pow, Nat.mod_eq_of_lt (Nat.lt_of_le_of_lt (Nat.div_le_self _ _) hn)]
theorem and_lN (a b : Nat) : lN a &&& lN b = lN (a &&& b) := by
  apply Int64.toBitVec_inj.mp
  show BitVec.ofNat 64 a &&& BitVec.ofNat 64 b = BitVec.ofNat 64 (a &&& b)
  simp [BitVec.ofNat_and]
theorem lN_uL (x : Int64) : lN (uL x) = x := by
  apply Int64.toBitVec_inj.mp
  show BitVec.ofNat 64 x.toBitVec.toNat = x.toBitVec
  simp
theorem uL_lt (x : Int64) : uL x < 2 ^ 64 := x.toBitVec.isLt
def iA (x : Int32) : Int32 := x - (iush x 1 &&& 1431655765)
def iB (x : Int32) : Int32 := (x &&& 858993459) + (iush x 2 &&& 858993459)
def iC (x : Int32) : Int32 := (x + iush x 4) &&& 252645135
def iD (x : Int32) : Int32 := x + iush x 8
def iE (x : Int32) : Int32 := x + iush x 16
theorem mk85 : mk 85 4 = 1431655765 := by decide
theorem mk51 : mk 51 4 = 858993459 := by decide
theorem mk15 : mk 15 4 = 252645135 := by decide
theorem mk85L : mk 85 8 = 6148914691236517205 := by decide
theorem mk51L : mk 51 8 = 3689348814741910323 := by decide
theorem mk15L : mk 15 8 = 1085102592571150095 := by decide
theorem pb_s (k x : Nat) : pb (k + 1) x = pcR 8 x + 256 * pb k (x / 256) := by
  show 256 * pb k (x / 256) + pcR 8 (x % 256) = _
  rw [pcR_8]
  omega
theorem pc_s (k x : Nat) : pcR (8 + k) x = pcR 8 x + pcR k (x / 256) := pcR_add 8 k x
theorem d1_ {c0 y1 : Nat} (h0 : c0 ≤ 8) : (c0 + 256 * y1) / 256 = y1 := by omega
theorem d2_ {c0 c1 c2 y2 y3 : Nat} (h0 : c0 ≤ 8) (h1 : c1 ≤ 8) (h2 : c2 ≤ 8) : ((c0 + 256 * (c1 + 256 * y2)) + (c1 + 256 * (c2 + 256 * y3))) / 65536 = y2 + y3 := by omega
theorem d4_ {c0 c1 c2 c3 c4 c5 c6 y4 y5 y6 y7 : Nat} (h0 : c0 ≤ 8) (h1 : c1 ≤ 8) (h2 : c2 ≤ 8) (h3 : c3 ≤ 8) (h4 : c4 ≤ 8) (h5 : c5 ≤ 8) (h6 : c6 ≤ 8) :
    ((c0 + 256 * (c1 + 256 * (c2 + 256 * (c3 + 256 * y4)))) + (c1 + 256 * (c2 + 256 * (c3 + 256 * (c4 + 256 * y5)))) + ((c2 + 256 * (c3 + 256 * (c4 + 256 * (c5 + 256 * y6)))) + (c3 + 256 * (c4 + 256 * (c5 + 256 * (c6 + 256 * y7)))))) / 4294967296 = y4 + y5 + (y6 + y7) := by
  have e : (c0 + 256 * (c1 + 256 * (c2 + 256 * (c3 + 256 * y4)))) + (c1 + 256 * (c2 + 256 * (c3 + 256 * (c4 + 256 * y5)))) + ((c2 + 256 * (c3 + 256 * (c4 + 256 * (c5 + 256 * y6)))) + (c3 + 256 * (c4 + 256 * (c5 + 256 * (c6 + 256 * y7))))) = ((c0 + c1 + c2 + c3) + 256 * (c1 + c2 + c3 + c4) + 65536 * (c2 + c3 + c4 + c5) + 16777216 * (c3 + c4 + c5 + c6)) + 4294967296 * (y4 + y5 + (y6 + y7)) := by omega
  have b : (c0 + c1 + c2 + c3) + 256 * (c1 + c2 + c3 + c4) + 65536 * (c2 + c3 + c4 + c5) + 16777216 * (c3 + c4 + c5 + c6) < 4294967296 := by omega
  rw [e, Nat.add_mul_div_left _ _ (by decide), Nat.div_eq_of_lt b, Nat.zero_add]
theorem m8_ {c y s : Nat} : (c + 256 * y + s) % 128 = (c + s) % 128 := by omega
theorem bc32 {n : Nat} (hn : n < 2 ^ 32) : f_J6_bitCount_0f7a4 (nI n) = nI (pcR 32 n) := by
  have e1 : f_J6_bitCount_0f7a4 (nI n) = iE (iD (iC (iB (iA (nI n))))) &&& 63 := by unfold f_J6_bitCount_0f7a4 iE iD iC iB iA; rfl
  have eA : iA (nI n) = nI (wA 4 n) := by
    unfold iA wA
    have h : (n / 2 &&& 1431655765) ≤ n / 2 := Nat.and_le_left
    rw [show (1 : Int32) = nI 1 from rfl, iush_nI (by decide) hn, show (2 : Nat) ^ 1 = 2 from rfl, show (1431655765 : Int32) = nI 1431655765 from rfl, and_nI, mk85, pk_sub (by omega)]
  have hA : wA 4 n < 2 ^ 32 := Nat.lt_of_le_of_lt (Nat.sub_le _ _) hn
  have eB : iB (nI (wA 4 n)) = nI (wB 4 (wA 4 n)) := by
    unfold iB wB
    rw [show (2 : Int32) = nI 2 from rfl, iush_nI (by decide) hA, show (858993459 : Int32) = nI 858993459 from rfl, and_nI, and_nI, nI_add, mk51]
  have hB : wB 4 (wA 4 n) < 2 ^ 31 := by
    unfold wB
    rw [mk51]
    have h1 : (wA 4 n &&& 858993459) ≤ 858993459 := Nat.and_le_right
    have h2 : (wA 4 n / 4 &&& 858993459) ≤ 858993459 := Nat.and_le_right
    omega
  have eC : iC (nI (wB 4 (wA 4 n))) = nI (pb 4 n) := by
    rw [← word_pb]
    unfold iC wC
    rw [show (4 : Int32) = nI 4 from rfl, iush_nI (by decide) (by omega), nI_add, show (252645135 : Int32) = nI 252645135 from rfl, and_nI, mk15]
  have a0 := pb_s 3 n
  have a1 := pb_s 2 (n / 256)
  have a2 := pb_s 1 (n / 256 / 256)
  have a3 := pb_s 0 (n / 256 / 256 / 256)
  rw [show pb 0 (n / 256 / 256 / 256 / 256) = 0 from rfl] at a3
  have es : pcR 32 n = pcR 8 n + (pcR 8 (n / 256) + (pcR 8 (n / 256 / 256) + pcR 8 (n / 256 / 256 / 256))) := by
    rw [show (32 : Nat) = 8 + (8 + (8 + 8)) from rfl, pc_s, pc_s, pc_s]
  have l0 := pcR_le 8 n
  have l1 := pcR_le 8 (n / 256)
  have l2 := pcR_le 8 (n / 256 / 256)
  have l3 := pcR_le 8 (n / 256 / 256 / 256)
  rw [e1, eA, eB, eC, es]
  clear e1 eA eB eC es hA hB
  generalize pb 4 n = y0 at *
  generalize pb 3 (n / 256) = y1 at *
  generalize pb 2 (n / 256 / 256) = y2 at *
  generalize pb 1 (n / 256 / 256 / 256) = y3 at *
  generalize pcR 8 n = c0 at *
  generalize pcR 8 (n / 256) = c1 at *
  generalize pcR 8 (n / 256 / 256) = c2 at *
  generalize pcR 8 (n / 256 / 256 / 256) = c3 at *
  have bd : y0 < 2 ^ 28 := by omega
  have q1 : y0 / 256 = y1 := by rw [a0]; exact d1_ l0
  have eD : iD (nI y0) = nI (y0 + y1) := by
    unfold iD
    rw [show (8 : Int32) = nI 8 from rfl, iush_nI (by decide) (by omega), nI_add, show (2 : Nat) ^ 8 = 256 from rfl, q1]
  have q2 : (y0 + y1) / 65536 = y2 + y3 := by
    rw [a0, a1, a2, a3]
    exact d2_ l0 l1 l2
  have eE : iE (nI (y0 + y1)) = nI ((y0 + y1) + (y2 + y3)) := by
    unfold iE
    rw [show (16 : Int32) = nI 16 from rfl, iush_nI (by decide) (by omega), nI_add, show (2 : Nat) ^ 16 = 65536 from rfl, q2]
  rw [eD, eE, show (63 : Int32) = nI 63 from rfl, and_nI, show (63 : Nat) = 2 ^ 6 - 1 from rfl, Nat.and_two_pow_sub_one_eq_mod]
  refine congrArg nI ?_
  omega
def lA (x : Int64) : Int64 := x - (lush x 1 &&& 6148914691236517205)
def lB (x : Int64) : Int64 := (x &&& 3689348814741910323) + (lush x 2 &&& 3689348814741910323)
def lC (x : Int64) : Int64 := (x + lush x 4) &&& 1085102592571150095
def lD (x : Int64) : Int64 := x + lush x 8
def lE (x : Int64) : Int64 := x + lush x 16
def lF (x : Int64) : Int64 := x + lush x 32
theorem bc64 (x : Int64) : f_J13_bitCount_95d88 x = nI (pcR 64 (uL x)) := by
  have hn := uL_lt x
  have ex : x = lN (uL x) := (lN_uL x).symm
  generalize uL x = n at hn ex
  subst ex
  have e1 : f_J13_bitCount_95d88 (lN n) = (lF (lE (lD (lC (lB (lA (lN n))))))).toInt32 &&& 127 := by unfold f_J13_bitCount_95d88 lF lE lD lC lB lA; rfl
  have eA : lA (lN n) = lN (wA 8 n) := by
    unfold lA wA
    have h : (n / 2 &&& 6148914691236517205) ≤ n / 2 := Nat.and_le_left
    rw [show (1 : Int32) = nI 1 from rfl, lush_lN (by decide) hn, show (2 : Nat) ^ 1 = 2 from rfl, show (6148914691236517205 : Int64) = lN 6148914691236517205 from rfl, and_lN, mk85L, lN_sub (by omega)]
  have hA : wA 8 n < 2 ^ 64 := Nat.lt_of_le_of_lt (Nat.sub_le _ _) hn
  have eB : lB (lN (wA 8 n)) = lN (wB 8 (wA 8 n)) := by
    unfold lB wB
    rw [show (2 : Int32) = nI 2 from rfl, lush_lN (by decide) hA, show (3689348814741910323 : Int64) = lN 3689348814741910323 from rfl, and_lN, and_lN, lN_add, mk51L]
  have hB : wB 8 (wA 8 n) < 2 ^ 63 := by
    unfold wB
    rw [mk51L]
    have h1 : (wA 8 n &&& 3689348814741910323) ≤ 3689348814741910323 := Nat.and_le_right
    have h2 : (wA 8 n / 4 &&& 3689348814741910323) ≤ 3689348814741910323 := Nat.and_le_right
    omega
  have eC : lC (lN (wB 8 (wA 8 n))) = lN (pb 8 n) := by
    rw [← word_pb]
    unfold lC wC
    rw [show (4 : Int32) = nI 4 from rfl, lush_lN (by decide) (by omega), lN_add, show (1085102592571150095 : Int64) = lN 1085102592571150095 from rfl, and_lN, mk15L]
  have a0 := pb_s 7 n
  have a1 := pb_s 6 (n / 256)
  have a2 := pb_s 5 (n / 256 / 256)
  have a3 := pb_s 4 (n / 256 / 256 / 256)
  have a4 := pb_s 3 (n / 256 / 256 / 256 / 256)
  have a5 := pb_s 2 (n / 256 / 256 / 256 / 256 / 256)
  have a6 := pb_s 1 (n / 256 / 256 / 256 / 256 / 256 / 256)
  have a7 := pb_s 0 (n / 256 / 256 / 256 / 256 / 256 / 256 / 256)
  rw [show pb 0 (n / 256 / 256 / 256 / 256 / 256 / 256 / 256 / 256) = 0 from rfl] at a7
  have es : pcR 64 n = pcR 8 n + (pcR 8 (n / 256) + (pcR 8 (n / 256 / 256) + (pcR 8 (n / 256 / 256 / 256) + (pcR 8 (n / 256 / 256 / 256 / 256) + (pcR 8 (n / 256 / 256 / 256 / 256 / 256) + (pcR 8 (n / 256 / 256 / 256 / 256 / 256 / 256) + pcR 8 (n / 256 / 256 / 256 / 256 / 256 / 256 / 256))))))) := by
    rw [show (64 : Nat) = 8 + (8 + (8 + (8 + (8 + (8 + (8 + 8)))))) from rfl, pc_s, pc_s, pc_s, pc_s, pc_s, pc_s, pc_s]
  have l0 := pcR_le 8 n
  have l1 := pcR_le 8 (n / 256)
  have l2 := pcR_le 8 (n / 256 / 256)
  have l3 := pcR_le 8 (n / 256 / 256 / 256)
  have l4 := pcR_le 8 (n / 256 / 256 / 256 / 256)
  have l5 := pcR_le 8 (n / 256 / 256 / 256 / 256 / 256)
  have l6 := pcR_le 8 (n / 256 / 256 / 256 / 256 / 256 / 256)
  have l7 := pcR_le 8 (n / 256 / 256 / 256 / 256 / 256 / 256 / 256)
  rw [e1, eA, eB, eC, es]
  clear e1 eA eB eC es hA hB
  generalize pb 8 n = y0 at *
  generalize pb 7 (n / 256) = y1 at *
  generalize pb 6 (n / 256 / 256) = y2 at *
  generalize pb 5 (n / 256 / 256 / 256) = y3 at *
  generalize pb 4 (n / 256 / 256 / 256 / 256) = y4 at *
  generalize pb 3 (n / 256 / 256 / 256 / 256 / 256) = y5 at *
  generalize pb 2 (n / 256 / 256 / 256 / 256 / 256 / 256) = y6 at *
  generalize pb 1 (n / 256 / 256 / 256 / 256 / 256 / 256 / 256) = y7 at *
  generalize pcR 8 n = c0 at *
  generalize pcR 8 (n / 256) = c1 at *
  generalize pcR 8 (n / 256 / 256) = c2 at *
  generalize pcR 8 (n / 256 / 256 / 256) = c3 at *
  generalize pcR 8 (n / 256 / 256 / 256 / 256) = c4 at *
  generalize pcR 8 (n / 256 / 256 / 256 / 256 / 256) = c5 at *
  generalize pcR 8 (n / 256 / 256 / 256 / 256 / 256 / 256) = c6 at *
  generalize pcR 8 (n / 256 / 256 / 256 / 256 / 256 / 256 / 256) = c7 at *
  clear hn
  have b7 : y7 < 9 := by omega
  have b6 : y6 < 9 * 257 := by omega
  have b5 : y5 < 2 ^ 20 := by clear a0 a1 a2 a3 a4; omega
  have b4 : y4 < 2 ^ 28 := by clear a0 a1 a2 a3; omega
  have b3 : y3 < 2 ^ 36 := by clear a0 a1 a2; omega
  have b2 : y2 < 2 ^ 44 := by clear a0 a1; omega
  have b1 : y1 < 2 ^ 52 := by clear a0; omega
  have b0 : y0 < 2 ^ 60 := by clear a1 a2 a3 a4 a5 a6 a7; omega
  have q1 : y0 / 256 = y1 := by rw [a0]; exact d1_ l0
  have q2 : (y0 + y1) / 65536 = y2 + y3 := by
    rw [a0, a1, a2]
    exact d2_ l0 l1 l2
  have q3 : ((y0 + y1) + (y2 + y3)) / 4294967296 = (y4 + y5) + (y6 + y7) := by
    rw [a0, a1, a2, a3, a4, a5, a6]
    exact d4_ l0 l1 l2 l3 l4 l5 l6
  have eD : lD (lN y0) = lN (y0 + y1) := by
    unfold lD
    rw [show (8 : Int32) = nI 8 from rfl, lush_lN (by decide) (Nat.lt_trans b0 (by decide)), lN_add, show (2 : Nat) ^ 8 = 256 from rfl, q1]
  have eE : lE (lN (y0 + y1)) = lN ((y0 + y1) + (y2 + y3)) := by
    unfold lE
    rw [show (16 : Int32) = nI 16 from rfl, lush_lN (by decide) (by clear a0 a1 a2 a3 a4 a5 a6 a7 q1 q2 q3; omega), lN_add, show (2 : Nat) ^ 16 = 65536 from rfl, q2]
  have eF : lF (lN ((y0 + y1) + (y2 + y3))) = lN (((y0 + y1) + (y2 + y3)) + ((y4 + y5) + (y6 + y7))) := by
    unfold lF
    rw [show (32 : Int32) = nI 32 from rfl, lush_lN (by decide) (by clear a0 a1 a2 a3 a4 a5 a6 a7 q1 q2 q3; omega), lN_add, show (2 : Nat) ^ 32 = 4294967296 from rfl, q3]
  rw [eD, eE, eF, lN_i, show (127 : Int32) = nI 127 from rfl, and_nI, show (127 : Nat) = 2 ^ 7 - 1 from rfl, Nat.and_two_pow_sub_one_eq_mod]
  refine congrArg nI ?_
  clear q1 q2 q3 eD eE eF b0 b1 b2 b3 b4 b5 b6 b7
  have e : (y0 + y1) + (y2 + y3) + ((y4 + y5) + (y6 + y7)) = (c0 + c1 + c2 + c3 + c4 + c5 + c6 + c7) + 128 * (2 * (y1 + y2 + y3 + y4 + y5 + y6 + y7)) := by omega
  show _ % 128 = _
  rw [e, Nat.add_mul_mod_self_left, Nat.mod_eq_of_lt (by clear e a0 a1 a2 a3 a4 a5 a6 a7; omega)]
  clear e a0 a1 a2 a3 a4 a5 a6 a7
  omega
theorem cnt_go (n : Nat) : ∀ (k i m : Nat), itF (fun c a => a + b2i (n.testBit c)) i k (nI m) = nI (m + pcR k (n / 2 ^ i))
  | 0, i, m => rfl
  | k + 1, i, m => by
    show itF _ (i + 1) k (nI m + b2i (n.testBit i)) = _
    have e : b2i (n.testBit i) = nI (n / 2 ^ i % 2) := by
      rw [Nat.testBit_eq_decide_div_mod_eq]
      rcases Nat.mod_two_eq_zero_or_one (n / 2 ^ i) with q | q <;> rw [q] <;> rfl
    rw [e, nI_add, cnt_go n k (i + 1)]
    show _ = nI (m + (n / 2 ^ i % 2 + pcR k (n / 2 ^ i / 2)))
    rw [Nat.div_div_eq_div_mul, ← Nat.pow_succ, Nat.add_assoc]
/-- the ones of a long, counted cell by cell -/
theorem cnt64 (x : Int64) : f_J13_bitCount_95d88 x = itF (fun c a => a + b2i (tbL x c)) 0 64 0 := by
  rw [bc64]
  have h := cnt_go (uL x) 64 0 0
  rw [show uL x / 2 ^ 0 = uL x from by rw [Nat.pow_zero, Nat.div_one], Nat.zero_add] at h
  exact h.symm
