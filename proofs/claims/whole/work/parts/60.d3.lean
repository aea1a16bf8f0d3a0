section
/-! digest -/
def h31 (h : Int64) (r : Int32) : Int64 := 31 * h + r.toInt64
def sgS (C : MS) (s : Nat) (a : Int64) : Int64 := itF (fun i a => h31 a (f_X7_sight C (nI s) 0 (nI i))) 0 4 a
def fmS (C : MS) (s i j : Nat) (a : Int64) : Int64 := itF (fun i a => h31 a (f_X7_form C (nI s) (nI i))) i j a
def tlS (C : MS) (vT vR : Nat → Int32) (s : Nat) (a : Int64) : Int64 := h31 (h31 (h31 (h31 (h31 (h31 a (f_X7_kin C (nI s) 0)) (f_X7_kin C (nI s) 1)) (f_X7_self C (nI s))) (f_X7_stands C (nI s) 0 0)) (vT s)) (vR s)
def shS (C : MS) (vT vR : Nat → Int32) (s : Nat) (a : Int64) : Int64 := tlS C vT vR s (fmS C s 0 3 (sgS C s (h31 a (f_X7_shape C (nI s) 1))))
def d178 (C : MS) (a : Int64) : Int64 := h31 (31 * (31 * (h31 (h31 a (f_X7_echoes C 1 (-1) (-1) (-1) 0)) (f_X7_echoes C 1 (-1) (-1) (-1) 1)) + f_X7_fog C 0 2 4 0) + f_X7_fog C 0 2 4 1) (f_X7_meet C 0 0 0 1 0 2)
def w178 (C : MS) (i j : Nat) (a : Int64) : Int64 := itF (fun i a => h31 a (f_X7_watchers C (nI i))) i j a
def d59 (C : MS) (a : Int64) : Int64 := d178 C (w178 C 0 3 (h31 (h31 (h31 (h31 (h31 (h31 (h31 a (f_X7_fits C 0)) (f_X7_fits C 1)) (f_X7_look C 0)) (f_X7_look C 1)) (f_X7_view C 0)) (f_X7_view C 9)) (f_X7_sees C 0 2)))
def s59 (C : MS) (vT vR : Nat → Int32) (i j : Nat) (a : Int64) : Int64 := itF (fun s a => shS C vT vR s a) i j a
def d6 (C : MS) (vT vR : Nat → Int32) (cnt : Nat) (a : Int64) : Int64 := d59 C (s59 C vT vR 0 cnt (h31 (h31 a (f_X7_fault C 0)) (f_X7_fault C 1)))
def c6 (C : MS) (i j : Nat) (a : Int64) : Int64 := itF (fun i a => h31 a (f_X7_count C (nI i))) i j a
def dgV (C : MS) (vT vR : Nat → Int32) (cnt : Nat) : Int64 := d6 C vT vR cnt (c6 C 0 8 17)
/-- what a shape's two searches answer -/
def srcC (C : MS) (vT vR : Nat → Int32) (s : Nat) : Prop := (thruC C (nI s) 0 0 1 9 (vT s) ∧ AnC C yX7_through wsX7_through 4 87 [.int (nI s), .int 0, .int 0, .int 1, .int 9] (.int (vT s))) ∧ reaC C (nI s) 0 0 (vR s) ∧ AnC C yX7_reach wsX7_reach 4 87 [.int (nI s), .int 0, .int 0] (.int (vR s))
theorem src_ex {C S : MS} (h : JM C S) : ∃ vT vR : Nat → Int32, ∀ s, srcC C vT vR s := by
  have h1 : ∀ s, ∃ v, thruC C (nI s) 0 0 1 9 v ∧ AnC C yX7_through wsX7_through 4 87 [.int (nI s), .int 0, .int 0, .int 1, .int 9] (.int v) := fun s => by
    obtain ⟨v, a, b, _⟩ := q_through h (nI s) 0 0 1 9
    exact ⟨v, a, b⟩
  have h2 : ∀ s, ∃ v, reaC C (nI s) 0 0 v ∧ AnC C yX7_reach wsX7_reach 4 87 [.int (nI s), .int 0, .int 0] (.int v) := fun s => by
    obtain ⟨v, a, b, _⟩ := q_reach h (nI s) 0 0
    exact ⟨v, a, b⟩
  exact ⟨fun s => Classical.choose (h1 s), fun s => Classical.choose (h2 s), fun s => ⟨Classical.choose_spec (h1 s), Classical.choose_spec (h2 s)⟩⟩
theorem qC_fault (C : MS) (x1 : Int32) : AnC C yX7_fault wsX7_fault 0 0 [.int x1] (.int (f_X7_fault C x1)) := by
  intro ad C' hk
  refine ⟨C', hk, fun l D E a1 a2 => ?_⟩
  have e : f_X7_fault C x1 = f_X7_fault C' x1 := by
    unfold f_X7_fault
    rw [hk.1 7 (by decide) (by decide) (by decide) (by decide), hk.1 8 (by decide) (by decide) (by decide) (by decide)]
  rw [e]
  exact c_X7_fault l D E a1 a2 ad C' x1
def wsAt (ad : Nat → Nat) (s : Nat) (C : MS) (pc : Nat) (a : Int64) (i : Nat) (C' : MS) (r : Int64) : Prop := ∀ X : Bn, Cx X cX7_withShape 7 RX7 wsX7_withShape 5 114 → Ends X (some .long) (some (.long r)) (cW X.E ad C') → At X 7 (cW X.E ad C) pc [(0, .ref (ad 0)), (3, .int (nI s)), (4, .long a), (6, .int (nI i))] []
theorem ws_51 {C0 S : MS} (h : JM C0 S) {vT vR : Nat → Int32} {s : Nat} (hv : srcC C0 vT vR s) (ad : Nat → Nat) : ∀ (j i : Nat) (C : MS) (a : Int64), keepC C0 C → i + j = 3 → ∃ C', keepC C0 C' ∧ wsAt ad s C 51 a i C' (tlS C0 vT vR s (fmS C0 s i j a)) := by
  intro j
  induction j with
  | zero =>
    intro i C a hk hi
    obtain rfl : i = 3 := by omega
    obtain ⟨C1, k1, F1⟩ := qC_kin h (nI s) 0 ad C hk
    obtain ⟨C2, k2, F2⟩ := qC_kin h (nI s) 1 ad C1 k1
    obtain ⟨C3, k3, F3⟩ := qC_self h (nI s) ad C2 k2
    obtain ⟨C4, k4, F4⟩ := qC_stands h (nI s) 0 0 ad C3 k3
    obtain ⟨C5, k5, F5⟩ := hv.1.2 ad C4 k4
    obtain ⟨C6, k6, F6⟩ := hv.2.2 ad C5 k5
    refine ⟨C6, k6, fun X K hE => ?_⟩
    exact r_X7_withShape_51 K ad C (nI s) a (nI 3) ⟨fun _ => ⟨_, C1, F1 _ _ _ _ _, _, C2, F2 _ _ _ _ _, _, C3, F3 _ _ _ _ _, _, C4, F4 _ _ _ _ _, _, C5, F5 _ _ _ _ _, _, C6, F6 _ _ _ _ _, hE⟩, fun q => absurd (by decide) q⟩
  | succ j ih =>
    intro i C a hk hi
    obtain ⟨C1, k1, F1⟩ := qC_form h (nI s) (nI i) ad C hk
    obtain ⟨C', k', hA⟩ := ih (i + 1) C1 (h31 a (f_X7_form C0 (nI s) (nI i))) k1 (by omega)
    refine ⟨C', k', fun X K hE => ?_⟩
    refine r_X7_withShape_51 K ad C (nI s) a (nI i) ⟨fun q => absurd ((nlt (a := 2) (b := i) (by decide) (by omega)).mp q) (by omega), fun _ => ⟨_, C1, F1 _ _ _ _ _, ?_⟩⟩
    rw [nI_1]
    exact hA X K hE
theorem ws_18 {C0 S : MS} (h : JM C0 S) {vT vR : Nat → Int32} {s : Nat} (hv : srcC C0 vT vR s) (ad : Nat → Nat) : ∀ (j i : Nat) (C : MS) (a : Int64), keepC C0 C → i + j = 4 → ∃ C', keepC C0 C' ∧ wsAt ad s C 18 a i C' (tlS C0 vT vR s (fmS C0 s 0 3 (itF (fun i a => h31 a (f_X7_sight C0 (nI s) 0 (nI i))) i j a))) := by
  intro j
  induction j with
  | zero =>
    intro i C a hk hi
    obtain rfl : i = 4 := by omega
    obtain ⟨C', k', hA⟩ := ws_51 h hv ad 3 0 C a hk rfl
    exact ⟨C', k', fun X K hE => r_X7_withShape_18 K ad C (nI s) a (nI 4) ⟨fun _ => hA X K hE, fun q => nle_no q⟩⟩
  | succ j ih =>
    intro i C a hk hi
    obtain ⟨C1, k1, F1⟩ := qC_sight h (nI s) 0 (nI i) ad C hk
    obtain ⟨C', k', hA⟩ := ih (i + 1) C1 (h31 a (f_X7_sight C0 (nI s) 0 (nI i))) k1 (by omega)
    refine ⟨C', k', fun X K hE => ?_⟩
    refine r_X7_withShape_18 K ad C (nI s) a (nI i) ⟨fun q => nlt_no (b := 4) (by decide) (by omega) q, fun _ => ⟨_, C1, F1 _ _ _ _ _, ?_⟩⟩
    rw [nI_1]
    exact hA X K hE
theorem c_X7_withShape {C0 S : MS} (h : JM C0 S) {vT vR : Nat → Int32} {s : Nat} (hv : srcC C0 vT vR s) (ad : Nat → Nat) (C : MS) (a : Int64) (hk : keepC C0 C) : ∃ C', keepC C0 C' ∧ ∀ (l : Launch) (D : va_G) (E : Nat → ClassId) (a1 a2 : Nat), Fn l D E a1 a2 yX7_withShape wsX7_withShape 5 114 [.ref (ad 0), .long a, .int (nI s)] (cW E ad C) (some (.long (shS C0 vT vR s a))) (cW E ad C') := by
  obtain ⟨C1, k1, F1⟩ := qC_shape h (nI s) 1 ad C hk
  obtain ⟨C', k', hA⟩ := ws_18 h hv ad 4 0 C1 (h31 a (f_X7_shape C0 (nI s) 1)) k1 rfl
  refine ⟨C', k', fun l D E a1 a2 => ?_⟩
  refine Fn.of (cc := cX7_withShape) (maxL := 7) (ret := (some .long)) (own := RX7) (by decide) rfl rfl (sameC _ _ _ _) (Nat.le_of_ble_eq_true rfl) (fun X q1 q2 q3 q4 q5 K hE => ?_)
  subst q1 q2 q3 q4 q5
  exact r_X7_withShape_0 K ad C a (nI s) ⟨_, C1, F1 _ _ _ _ _, hA X K hE⟩
def dgAt (ad : Nat → Nat) (C : MS) (pc : Nat) (a : Int64) (i : Nat) (C' : MS) (r : Int64) : Prop := ∀ X : Bn, Cx X cX7_digest 4 RX7 wsX7_digest 6 140 → Ends X (some .long) (some (.long r)) (cW X.E ad C') → At X 4 (cW X.E ad C) pc [(0, .ref (ad 0)), (1, .long a), (3, .int (nI i))] []
theorem dg_178 {C0 S : MS} (h : JM C0 S) (ad : Nat → Nat) : ∀ (j i : Nat) (C : MS) (a : Int64), keepC C0 C → i + j = 3 → ∃ C', keepC C0 C' ∧ dgAt ad C 178 a i C' (d178 C0 (w178 C0 i j a)) := by
  intro j
  induction j with
  | zero =>
    intro i C a hk hi
    obtain rfl : i = 3 := by omega
    obtain ⟨C1, k1, F1⟩ := qC_echoes h 1 (-1) (-1) (-1) 0 ad C hk
    obtain ⟨C2, k2, F2⟩ := qC_echoes h 1 (-1) (-1) (-1) 1 ad C1 k1
    obtain ⟨C3, k3, F3⟩ := qC_fog h 0 2 4 0 ad C2 k2
    obtain ⟨C4, k4, F4⟩ := qC_fog h 0 2 4 1 ad C3 k3
    obtain ⟨C5, k5, F5⟩ := qC_meet h 0 0 0 1 0 2 ad C4 k4
    refine ⟨C5, k5, fun X K hE => ?_⟩
    exact r_X7_digest_178 K ad C a (nI 3) ⟨fun _ => ⟨_, C1, F1 _ _ _ _ _, _, C2, F2 _ _ _ _ _, _, C3, F3 _ _ _ _ _, _, C4, F4 _ _ _ _ _, _, C5, F5 _ _ _ _ _, hE⟩, fun q => absurd (by decide) q⟩
  | succ j ih =>
    intro i C a hk hi
    obtain ⟨C1, k1, F1⟩ := qC_watchers h (nI i) ad C hk
    obtain ⟨C', k', hA⟩ := ih (i + 1) C1 (h31 a (f_X7_watchers C0 (nI i))) k1 (by omega)
    refine ⟨C', k', fun X K hE => ?_⟩
    refine r_X7_digest_178 K ad C a (nI i) ⟨fun q => absurd ((nlt (a := 2) (b := i) (by decide) (by omega)).mp q) (by omega), fun _ => ⟨_, C1, F1 _ _ _ _ _, ?_⟩⟩
    rw [nI_1]
    exact hA X K hE
theorem dg_59 {C0 S : MS} (h : JM C0 S) {vT vR : Nat → Int32} (hv : ∀ s, srcC C0 vT vR s) {cnt : Nat} (hc : cnt ≤ 8) (e6 : C0.1 6 0 = nI cnt) (ad : Nat → Nat) : ∀ (j i : Nat) (C : MS) (a : Int64), keepC C0 C → i + j = cnt → ∃ C', keepC C0 C' ∧ dgAt ad C 59 a i C' (d59 C0 (s59 C0 vT vR i j a)) := by
  intro j
  induction j with
  | zero =>
    intro i C a hk hi
    obtain rfl : i = cnt := by omega
    have e : C.1 6 0 = nI i := by rw [hk.1 6 (by decide) (by decide) (by decide) (by decide)]; exact e6
    obtain ⟨C1, k1, F1⟩ := qC_fits h 0 ad C hk
    obtain ⟨C2, k2, F2⟩ := qC_fits h 1 ad C1 k1
    obtain ⟨C3, k3, F3⟩ := qC_look h 0 ad C2 k2
    obtain ⟨C4, k4, F4⟩ := qC_look h 1 ad C3 k3
    obtain ⟨C5, k5, F5⟩ := qC_view h 0 ad C4 k4
    obtain ⟨C6, k6, F6⟩ := qC_view h 9 ad C5 k5
    obtain ⟨C7, k7, F7⟩ := qC_sees h 0 2 ad C6 k6
    obtain ⟨C', k', hA⟩ := dg_178 h ad 3 0 C7 (h31 (h31 (h31 (h31 (h31 (h31 (h31 a (f_X7_fits C0 0)) (f_X7_fits C0 1)) (f_X7_look C0 0)) (f_X7_look C0 1)) (f_X7_view C0 0)) (f_X7_view C0 9)) (f_X7_sees C0 0 2)) k7 rfl
    refine ⟨C', k', fun X K hE => ?_⟩
    exact r_X7_digest_59 K ad C a (nI i) ⟨fun _ => ⟨_, C1, F1 _ _ _ _ _, _, C2, F2 _ _ _ _ _, _, C3, F3 _ _ _ _ _, _, C4, F4 _ _ _ _ _, _, C5, F5 _ _ _ _ _, _, C6, F6 _ _ _ _ _, _, C7, F7 _ _ _ _ _, hA X K hE⟩, fun q => absurd (by rw [e]; exact Int32.le_refl _) q⟩
  | succ j ih =>
    intro i C a hk hi
    have e : C.1 6 0 = nI cnt := by rw [hk.1 6 (by decide) (by decide) (by decide) (by decide)]; exact e6
    obtain ⟨C1, k1, F1⟩ := c_X7_withShape h (hv i) ad C a hk
    obtain ⟨C', k', hA⟩ := ih (i + 1) C1 (shS C0 vT vR i a) k1 (by omega)
    refine ⟨C', k', fun X K hE => ?_⟩
    refine r_X7_digest_59 K ad C a (nI i) ⟨fun q => nlt_no (a := i) (b := cnt) (by omega) (by omega) (by rw [← e]; exact q), fun _ => ⟨_, C1, F1 _ _ _ _ _, ?_⟩⟩
    rw [nI_1]
    exact hA X K hE
theorem dg_6 {C0 S : MS} (h : JM C0 S) {vT vR : Nat → Int32} (hv : ∀ s, srcC C0 vT vR s) {cnt : Nat} (hc : cnt ≤ 8) (e6 : C0.1 6 0 = nI cnt) (ad : Nat → Nat) : ∀ (j i : Nat) (C : MS) (a : Int64), keepC C0 C → i + j = 8 → ∃ C', keepC C0 C' ∧ dgAt ad C 6 a i C' (d6 C0 vT vR cnt (c6 C0 i j a)) := by
  intro j
  induction j with
  | zero =>
    intro i C a hk hi
    obtain rfl : i = 8 := by omega
    obtain ⟨C1, k1, F1⟩ := qC_fault C0 0 ad C hk
    obtain ⟨C2, k2, F2⟩ := qC_fault C0 1 ad C1 k1
    obtain ⟨C', k', hA⟩ := dg_59 h hv hc e6 ad cnt 0 C2 (h31 (h31 a (f_X7_fault C0 0)) (f_X7_fault C0 1)) k2 (Nat.zero_add cnt)
    refine ⟨C', k', fun X K hE => ?_⟩
    exact r_X7_digest_6 K ad C a (nI 8) ⟨fun _ => ⟨_, C1, F1 _ _ _ _ _, _, C2, F2 _ _ _ _ _, hA X K hE⟩, fun q => absurd (by decide) q⟩
  | succ j ih =>
    intro i C a hk hi
    obtain ⟨C1, k1, F1⟩ := qC_count h (nI i) ad C hk
    obtain ⟨C', k', hA⟩ := ih (i + 1) C1 (h31 a (f_X7_count C0 (nI i))) k1 (by omega)
    refine ⟨C', k', fun X K hE => ?_⟩
    refine r_X7_digest_6 K ad C a (nI i) ⟨fun q => absurd ((nlt (a := 7) (b := i) (by decide) (by omega)).mp q) (by omega), fun _ => ⟨_, C1, F1 _ _ _ _ _, ?_⟩⟩
    rw [nI_1]
    exact hA X K hE
theorem qC_digest {C0 S : MS} (h : JM C0 S) {vT vR : Nat → Int32} (hv : ∀ s, srcC C0 vT vR s) {cnt : Nat} (hc : cnt ≤ 8) (e6 : C0.1 6 0 = nI cnt) : AnC C0 yX7_digest wsX7_digest 6 140 [] (.long (dgV C0 vT vR cnt)) := by
  intro ad C hk
  obtain ⟨C', k', hA⟩ := dg_6 h hv hc e6 ad 8 0 C 17 hk rfl
  refine ⟨C', k', fun l D E a1 a2 => ?_⟩
  show Fn l D E a1 a2 yX7_digest wsX7_digest 6 140 [.ref (ad 0)] (cW E ad C) (some (.long (dgV C0 vT vR cnt))) (cW E ad C')
  refine Fn.of (cc := cX7_digest) (maxL := 4) (ret := (some .long)) (own := RX7) (by decide) rfl rfl (sameC _ _ _ _) (Nat.le_of_ble_eq_true rfl) (fun X q1 q2 q3 q4 q5 K hE => ?_)
  subst q1 q2 q3 q4 q5
  exact r_X7_digest_0 K ad C (hA X K hE)
end
