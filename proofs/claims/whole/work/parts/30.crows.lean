def iabs (x : Int32) : Int32 := if 0 ≤ x then x else 0 - x
def imax (x y : Int32) : Int32 := if x < y then y else x
def imin (x y : Int32) : Int32 := if y < x then y else x
section AtMath
variable {X : Bn} {cc : ByteArray} {nL : Nat} {own : String} {Ts : List Cond} {fr lo : Nat} {ws : va_W} {pc : Nat} {lv : List (Nat × Value)} {st : List Value}
theorem at_mmax (C : Cx X cc nL own Ts fr lo) {ix : Nat} (h1 : Cond.methodLink own ix Lib.Math.max.name ∈ Ts) (h2 : Cond.static Lib.Math.max.name ∈ Ts) (h3 : Cond.initialized "java/lang/Math" ∈ Ts) (h4 : Cond.code Lib.Math.max.name Lib.Math.max.code 2 (some .int) ∈ Ts) (hR : Nat.ble 1 fr = true ∧ Nat.ble ((st.map fun v => v.category).sum + 13) lo = true) {x y : Int32} (d : decode cc pc = .ok (.invokestatic ix, 3)) (h : At X nL ws (pc + 3) lv (.int (imax x y) :: st)) : At X nL ws pc lv (.int y :: .int x :: st) :=
  fun H locs ls hP hD hS hl => va_mmax C.1.1 C.1.2.1 (C.1.2.2.1.trans hl.1.symm) C.1.2.2.2.1 (C.1.2.2.2.2 _ h1) (C.1.2.2.2.2 _ h2) (C.1.2.2.2.2 _ h3) (C.1.2.2.2.2 _ h4) (Nat.le_trans (Nat.le_of_ble_eq_true hR.1) C.2.2.2.1.1) (Nat.le_trans (Nat.le_of_ble_eq_true hR.2) C.2.2.2.1.2) C.2.2.2.2.1.1 C.2.2.2.2.1.2 d (h H locs ls hP hD hS hl)
theorem at_mmin (C : Cx X cc nL own Ts fr lo) {ix : Nat} (h1 : Cond.methodLink own ix Lib.Math.min.name ∈ Ts) (h2 : Cond.static Lib.Math.min.name ∈ Ts) (h3 : Cond.initialized "java/lang/Math" ∈ Ts) (h4 : Cond.code Lib.Math.min.name Lib.Math.min.code 2 (some .int) ∈ Ts) (hR : Nat.ble 1 fr = true ∧ Nat.ble ((st.map fun v => v.category).sum + 13) lo = true) {x y : Int32} (d : decode cc pc = .ok (.invokestatic ix, 3)) (h : At X nL ws (pc + 3) lv (.int (imin x y) :: st)) : At X nL ws pc lv (.int y :: .int x :: st) :=
  fun H locs ls hP hD hS hl => va_mmin C.1.1 C.1.2.1 (C.1.2.2.1.trans hl.1.symm) C.1.2.2.2.1 (C.1.2.2.2.2 _ h1) (C.1.2.2.2.2 _ h2) (C.1.2.2.2.2 _ h3) (C.1.2.2.2.2 _ h4) (Nat.le_trans (Nat.le_of_ble_eq_true hR.1) C.2.2.2.1.1) (Nat.le_trans (Nat.le_of_ble_eq_true hR.2) C.2.2.2.1.2) C.2.2.2.2.1.1 C.2.2.2.2.1.2 d (h H locs ls hP hD hS hl)
theorem at_mabs (C : Cx X cc nL own Ts fr lo) {ix : Nat} (h1 : Cond.methodLink own ix Lib.Math.abs.name ∈ Ts) (h2 : Cond.static Lib.Math.abs.name ∈ Ts) (h3 : Cond.initialized "java/lang/Math" ∈ Ts) (h4 : Cond.code Lib.Math.abs.name Lib.Math.abs.code 1 (some .int) ∈ Ts) (hR : Nat.ble 1 fr = true ∧ Nat.ble ((st.map fun v => v.category).sum + 13) lo = true) {x : Int32} (d : decode cc pc = .ok (.invokestatic ix, 3)) (h : At X nL ws (pc + 3) lv (.int (iabs x) :: st)) : At X nL ws pc lv (.int x :: st) :=
  fun H locs ls hP hD hS hl => va_mabs C.1.1 C.1.2.1 (C.1.2.2.1.trans hl.1.symm) C.1.2.2.2.1 (C.1.2.2.2.2 _ h1) (C.1.2.2.2.2 _ h2) (C.1.2.2.2.2 _ h3) (C.1.2.2.2.2 _ h4) (Nat.le_trans (Nat.le_of_ble_eq_true hR.1) C.2.2.2.1.1) (Nat.le_trans (Nat.le_of_ble_eq_true hR.2) C.2.2.2.1.2) C.2.2.2.2.1.1 C.2.2.2.2.1.2 d (h H locs ls hP hD hS hl)
theorem at_ldc_w (C : Cx X cc nL own Ts fr lo) {index : Nat} {v : Int32} (hc : Cond.constant own index v ∈ Ts) (d : decode cc pc = .ok (.ldc_w index, 3)) (k : At X nL ws (pc + 3) lv (.int v :: st)) : At X nL ws pc lv st := fun H locs ls hP hD hS hl => lv_ldcw C.1.1 C.1.2.1 C.1.2.2.2.1 (C.1.2.2.2.2 _ hc) d (k H locs ls hP hD hS hl)
/-- System.arraycopy between two rows of ints -/
theorem at_copyi (C : Cx X cc nL own Ts fr lo) {ix : Nat} (g1 : Cond.methodLink own ix arraycopyName ∈ Ts) (g2 : Cond.native arraycopyName ∈ Ts) (g3 : Cond.static arraycopyName ∈ Ts) (g4 : Cond.initialized "java/lang/System" ∈ Ts) (q0 q1 : Nat) {a0 a n0 n1 : Nat} {f g : Nat → Int32} (ha0 : ws[q0]? = some (a0, .inl (X.E 0, n0, .inl f))) (ha1 : ws[q1]? = some (a, .inl (X.E 0, n1, .inl g))) {sp dp n : Int32} (h1 : ¬ sp < 0) (h2 : ¬ dp < 0) (h3 : ¬ n < 0) (h4 : sp.toNatClampNeg + n.toNatClampNeg ≤ n0) (h5 : dp.toNatClampNeg + n.toNatClampNeg ≤ n1)
    (hR : Nat.ble 1 fr = true ∧ Nat.ble ((st.map fun v => v.category).sum + (nativeFrameWords "java/lang/System" "arraycopy" 5 + 11)) lo = true) {ws' : va_W} (hw : ws.set q1 (a, .inl (X.E 0, n1, .inl (va_cpy f g sp.toNatClampNeg dp.toNatClampNeg n.toNatClampNeg))) = ws') (d : decode cc pc = .ok (.invokestatic ix, 3)) (k : At X nL ws' (pc + 3) lv st) : At X nL ws pc lv (.int n :: .int dp :: .ref a :: .int sp :: .ref a0 :: st) := by
  subst hw
  exact fun H locs ls hP hD hS hl => va_copyi C.1.1 C.1.2.1 (C.1.2.2.1.trans hl.1.symm) C.1.2.2.2.1 (C.1.2.2.2.2 _ g1) (C.1.2.2.2.2 _ g2) (C.1.2.2.2.2 _ g3) (C.1.2.2.2.2 _ g4) C.2.1 hP hD hS q0 q1 0 0 ha0 ha1 rfl rfl rfl h1 h2 h3 h4 h5 (fun _ _ => rfl) (Nat.le_trans (Nat.le_of_ble_eq_true hR.1) C.2.2.2.1.1) (Nat.le_trans (Nat.le_of_ble_eq_true hR.2) C.2.2.2.1.2) d (fun H1 locs1 hP1 hD1 hS1 => k H1 locs1 ls hP1 hD1 hS1 hl)
end AtMath
/-! which text, which sheet a number names -/
def txV (ad : Nat → Nat) (x : Int32) : Value := if x = 0 then .ref (ad 1) else (if x = 1 then .ref (ad 3) else .null)
theorem txV_0 {ad : Nat → Nat} {x : Int32} (h : x = 0) : txV ad x = .ref (ad 1) := if_pos h
theorem txV_1 {ad : Nat → Nat} {x : Int32} (h : x = 1) : txV ad x = .ref (ad 3) := by subst h; rfl
theorem txV_n {ad : Nat → Nat} {x : Int32} (h0 : ¬ x = 0) (h1 : ¬ x = 1) : txV ad x = .null := by rw [txV, if_neg h0, if_neg h1]
def shV (ad : Nat → Nat) (x : Int32) : Value := if 0 ≤ x ∧ x < 4 then .ref (ad (20 + 2 * x.toNatClampNeg)) else .null
theorem sh_cases (x : Int32) : (∃ k, k < 4 ∧ x = nI k) ∨ ¬ (0 ≤ x ∧ x < 4) := by
  by_cases h : 0 ≤ x ∧ x < 4
  · have h1 : (0 : Int) ≤ x.toInt := by simpa using Int32.le_iff_toInt_le.mp h.1
    have h2 : x.toInt < 4 := by simpa using Int32.lt_iff_toInt_lt.mp h.2
    refine Or.inl ⟨x.toInt.toNat, by omega, ?_⟩
    apply Int32.toInt_inj.mp
    show x.toInt = (Int32.ofNat x.toInt.toNat).toInt
    rw [Int32.toInt_ofNat_of_lt (by omega)]
    omega
  · exact Or.inr h
theorem shV_k {ad : Nat → Nat} {x : Int32} {k : Nat} (hk : k < 4) (h : x = nI k) : shV ad x = .ref (ad (20 + 2 * k)) := by
  subst h
  have h1 : (0 : Int32) ≤ nI k ∧ nI k < 4 := ⟨(nle (a := 0) (by decide) (by omega)).mpr (Nat.zero_le _), (nlt (b := 4) (by omega) (by decide)).mpr hk⟩
  rw [shV, if_pos h1, nI_clamp (by omega)]
theorem shV_n {ad : Nat → Nat} {x : Int32} (h : ¬ (0 ≤ x ∧ x < 4)) : shV ad x = .null := if_neg h
