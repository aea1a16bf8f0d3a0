section
/-! the reference's digest -/
theorem JM.cnt {C M : MS} (h : JM C M) {cnt : Nat} (hc : cnt ≤ 8) (e6 : C.1 6 0 = nI cnt) : ∃ sh k, Bo C M cnt sh k := by
  obtain ⟨_, cnt', sh, k, hB⟩ := h
  have h8 := hB.1
  obtain rfl : cnt' = cnt := (nI_eq (by omega) (by omega)).mp (hB.2.1.symm.trans e6)
  exact ⟨sh, k, hB⟩
theorem shp_y {C : MS} {cnt s : Nat} (hc : cnt ≤ 8) (e6 : C.1 6 0 = nI cnt) (hs : s < cnt) : f_X7_isShape C (nI s) = true := (cShape_iff hc e6 _).mpr ⟨s, hs, rfl⟩
theorem i_formOf {C : MS} {x y : Int32} (hs : f_X7_isShape C x = true) (hy : f_X8_in y.toInt64 0 2 = true) : AnI C yX8_formOf wsX8_formOf 3 72 [.int x, .int y] (.int (f_X7_form C x y)) := by
  intro ad M hJ
  obtain ⟨hR, cnt, sh, k, hB⟩ := id hJ
  have q : f_X8_isShape M x = true := by rw [← shape_b hB]; exact hs
  refine ⟨M, hJ, fun l D E a1 a2 => ?_⟩
  rw [v_form hB, f_X8_form, if_pos q, if_pos hy]
  exact c_X8_formOf l D E a1 a2 ad M x y ⟨fun _ => pS hB q, fun _ => ⟨fun _ => (pS hB q).1, fun _ => (pS hB q).1⟩⟩
theorem i_kinOf {C : MS} {x y : Int32} (hs : f_X7_isShape C x = true) (hy : f_X8_isTwo y = true) : AnI C yX8_kinOf wsX8_kinOf 4 90 [.int x, .int y] (.int (f_X7_kin C x y)) := by
  intro ad M hJ
  obtain ⟨hR, cnt, sh, k, hB⟩ := id hJ
  have q : f_X8_isShape M x = true := by rw [← shape_b hB]; exact hs
  refine ⟨M, hJ, fun l D E a1 a2 => ?_⟩
  rw [v_kin hB, f_X8_kin, if_pos q, if_pos hy]
  exact c_X8_kinOf l D E a1 a2 ad M x y ⟨hB.okSh, pS hB q⟩
theorem i_selfOf {C : MS} {x : Int32} (hs : f_X7_isShape C x = true) : AnI C yX8_selfOf wsX8_selfOf 3 67 [.int x] (.int (f_X7_self C x)) := by
  intro ad M hJ
  obtain ⟨hR, cnt, sh, k, hB⟩ := id hJ
  have q : f_X8_isShape M x = true := by rw [← shape_b hB]; exact hs
  refine ⟨M, hJ, fun l D E a1 a2 => ?_⟩
  rw [v_self hB, f_X8_self, if_pos q]
  exact c_X8_selfOf l D E a1 a2 ad M x (pS hB q)
theorem keepF.bo {C S S2 : MS} {cnt k : Nat} {sh : Nat → Nat} (hB : Bo C S cnt sh k) (hf : keepF S S2) : Bo C S2 cnt sh k := hB.ref (hf.1 8 (by decide) (by decide) (by decide)) (hf.1 9 (by decide) (by decide) (by decide)) (hf.1 10 (by decide) (by decide) (by decide)) (hf.1 14 (by decide) (by decide) (by decide)) (hf.1 15 (by decide) (by decide) (by decide))
theorem i_throughOf {C : MS} {cnt s t c u d : Nat} {v : Int32} (hc : cnt ≤ 8) (e6 : C.1 6 0 = nI cnt) (hs : s < cnt) (ht : t < 4) (hcc : c < 64) (hu : u < 4) (hd : d < 64) (hv : thruC C (nI s) (nI t) (nI c) (nI u) (nI d) v) : AnI C yX8_throughOf wsX8_throughOf 5 121 [.int (nI s), .int (nI t), .int (nI c), .int (nI u), .int (nI d)] (.int v) := by
  intro ad M hJ
  obtain ⟨sh, k, hB⟩ := hJ.cnt hc e6
  obtain ⟨r, S', hr, hf, hF⟩ := c_X8_throughOf ad M (s := s) (t := t) (cell := c) (u := u) (to := d) (by omega) ht hcc hu hd
  have q1 : f_X8_isStand M (nI s) (nI t) (nI c) = true := (isStand_iff hB.1 hB.2.2.1 _ _ _).mpr ⟨s, t, c, ⟨hs, ht, hcc⟩, rfl, rfl, rfl⟩
  have q2 : f_X8_isStand M (nI s) (nI u) (nI d) = true := (isStand_iff hB.1 hB.2.2.1 _ _ _).mpr ⟨s, u, d, ⟨hs, hu, hd⟩, rfl, rfl, rfl⟩
  have : v = r := by
    refine v_through hB hv ?_
    unfold thruV
    rw [if_pos ⟨q1, q2⟩, nI_clamp (show s < 2 ^ 31 by omega), nI_clamp (show t < 2 ^ 31 by omega), nI_clamp (show c < 2 ^ 31 by omega), nI_clamp (show u < 2 ^ 31 by omega), nI_clamp (show d < 2 ^ 31 by omega)]
    exact hr
  subst this
  exact ⟨S', ⟨hJ.1.keep (keepC.rf C) hf.q, cnt, sh, k, keepF.bo hB hf⟩, hF⟩
theorem i_reachOf {C : MS} {cnt s t c : Nat} {v : Int32} (hc : cnt ≤ 8) (e6 : C.1 6 0 = nI cnt) (hs : s < cnt) (ht : t < 4) (hcc : c < 64) (hv : reaC C (nI s) (nI t) (nI c) v) : AnI C yX8_reachOf wsX8_reachOf 5 121 [.int (nI s), .int (nI t), .int (nI c)] (.int v) := by
  intro ad M hJ
  obtain ⟨sh, k, hB⟩ := hJ.cnt hc e6
  obtain ⟨r, S', hr, hf, hF⟩ := c_X8_reachOf ad M (s := s) (t := t) (cell := c) (by omega) ht hcc
  have q1 : f_X8_isStand M (nI s) (nI t) (nI c) = true := (isStand_iff hB.1 hB.2.2.1 _ _ _).mpr ⟨s, t, c, ⟨hs, ht, hcc⟩, rfl, rfl, rfl⟩
  have : v = r := by
    refine v_reach hB hv ?_
    unfold rchV
    rw [if_pos q1, nI_clamp (show s < 2 ^ 31 by omega), nI_clamp (show t < 2 ^ 31 by omega), nI_clamp (show c < 2 ^ 31 by omega)]
    exact hr
  subst this
  exact ⟨S', ⟨hJ.1.keep (keepC.rf C) hf.q, cnt, sh, k, keepF.bo hB hf⟩, hF⟩
theorem i_fitsOf {C : MS} {x : Int32} (hx : f_X8_isTwo x = true) : AnI C yX8_fitsOf wsX8_fitsOf 4 91 [.int x] (.int (f_X7_fits C x)) := by
  intro ad M hJ
  obtain ⟨hR, cnt, sh, k, hB⟩ := id hJ
  refine ⟨M, hJ, fun l D E a1 a2 => ?_⟩
  rw [v_fits hB, f_X8_fits, if_pos hx]
  exact c_X8_fitsOf l D E a1 a2 ad M x hB.fit
theorem i_lookOf {C : MS} {x : Int32} (hx : f_X8_isTwo x = true) : AnI C yX8_lookOf wsX8_lookOf 5 116 [.int x] (.int (f_X7_look C x)) := by
  intro ad M hJ
  obtain ⟨hR, cnt, sh, k, hB⟩ := id hJ
  obtain ⟨f, hF⟩ := c_X8_lookOf ad M x hB.fit
  refine ⟨setF M 16 f, ⟨hR.keep (keepC.rf C) (fun k hk => setF_o (by omega)), cnt, sh, k, hB.ref (setF_o (by decide)) (setF_o (by decide)) (setF_o (by decide)) (setF_o (by decide)) (setF_o (by decide))⟩, fun l D E a1 a2 => ?_⟩
  rw [v_look hB, f_X8_look, if_pos hx]
  exact hF l D E a1 a2
theorem i_watchersOf {C : MS} {x : Int32} (hx : f_X8_in x.toInt64 0 2 = true) : AnI C yX8_watchersOf wsX8_watchersOf 3 75 [.int x] (.int (f_X7_watchers C x)) := by
  intro ad M hJ
  obtain ⟨hR, cnt, sh, k, hB⟩ := id hJ
  obtain ⟨f, hF⟩ := c_X8_watchersOf ad M x
  refine ⟨setG M 0 f, ⟨hR.keep (keepC.rf C) (fun k hk => rfl), cnt, sh, k, hB.ref rfl rfl rfl rfl rfl⟩, fun l D E a1 a2 => ?_⟩
  rw [v_watchers hB, f_X8_watchers, if_pos hx]
  exact hF l D E a1 a2
theorem i_echoesOf {C : MS} {x : Int32} (hx : f_X8_isTwo x = true) : AnI C yX8_echoesOf wsX8_echoesOf 4 96 [.int 1, .int (-1), .int (-1), .int (-1), .int x] (.int (f_X7_echoes C 1 (-1) (-1) (-1) x)) := by
  intro ad M hJ
  obtain ⟨hR, cnt, sh, k, hB⟩ := id hJ
  refine ⟨M, hJ, fun l D E a1 a2 => ?_⟩
  have e : f_X8_echoes M 1 (-1) (-1) (-1) x = f_X8_echoesOf M 1 (-1) (-1) (-1) x := by
    unfold f_X8_echoes
    rw [hx, show f_X8_isTold 1 = true from by decide, show f_X8_isTold (-1) = true from by decide]; rfl
  rw [v_echoes hB, e]
  exact c_X8_echoesOf l D E a1 a2 ad M 1 (-1) (-1) (-1) x
theorem in2 {i : Nat} (h : i < 3) : f_X8_in (nI i).toInt64 0 2 = true := (in_nI (m := 2) (by decide)).mpr ⟨i, by omega, rfl⟩
theorem two2y {i : Nat} (h : i < 2) : f_X8_isTwo (nI i) = true := (in_nI (m := 1) (by decide)).mpr ⟨i, by omega, rfl⟩
def dmAt (ad : Nat → Nat) (M : MS) (pc : Nat) (a : Int64) (i : Nat) (M' : MS) (r : Int64) : Prop := ∀ X : Bn, Cx X cX8_digest 5 RX8 wsX8_digest 6 146 → Ends X (some .long) (some (.long r)) (mW X.E ad M') → At X 5 (mW X.E ad M) pc [(0, .ref (ad 0)), (1, .long a), (3, .int (nI i))] []
def dm2At (ad : Nat → Nat) (M : MS) (pc : Nat) (a : Int64) (s i : Nat) (M' : MS) (r : Int64) : Prop := ∀ X : Bn, Cx X cX8_digest 5 RX8 wsX8_digest 6 146 → Ends X (some .long) (some (.long r)) (mW X.E ad M') → At X 5 (mW X.E ad M) pc [(0, .ref (ad 0)), (1, .long a), (3, .int (nI s)), (4, .int (nI i))] []
def fgM (C : MS) (i j : Nat) (a : Int64) : Int64 := itF (fun i a => 31 * a + f_X7_fog C 0 2 4 (nI i)) i j a
def ecM (C : MS) (i j : Nat) (a : Int64) : Int64 := itF (fun i a => h31 a (f_X7_echoes C 1 (-1) (-1) (-1) (nI i))) i j a
def lkM (C : MS) (i j : Nat) (a : Int64) : Int64 := itF (fun i a => h31 a (f_X7_look C (nI i))) i j a
def ftM (C : MS) (i j : Nat) (a : Int64) : Int64 := itF (fun i a => h31 a (f_X7_fits C (nI i))) i j a
def e405 (C : MS) (a : Int64) : Int64 := h31 a (f_X7_meet C 0 0 0 1 0 2)
def e375 (C : MS) (a : Int64) : Int64 := e405 C (fgM C 0 2 a)
def e349 (C : MS) (a : Int64) : Int64 := e375 C (ecM C 0 2 a)
def e282 (C : MS) (a : Int64) : Int64 := e349 C (w178 C 0 3 (h31 (h31 (h31 a (f_X7_view C 0)) (f_X7_view C 9)) (f_X7_sees C 0 2)))
def e256 (C : MS) (a : Int64) : Int64 := e282 C (lkM C 0 2 a)
def e57 (C : MS) (a : Int64) : Int64 := e256 C (ftM C 0 2 a)
theorem e57_d (C : MS) (a : Int64) : e57 C a = d59 C a := rfl
theorem dm_405 {C0 : MS} (ad : Nat → Nat) : ∀ (j i : Nat) (M : MS) (a : Int64), JM C0 M → i + j = 2 → ∃ M', JM C0 M' ∧ dmAt ad M 405 a i M' (e405 C0 (fgM C0 i j a)) := by
  intro j
  induction j with
  | zero =>
    intro i M a hJ hi
    obtain rfl : i = 2 := by omega
    obtain ⟨M1, j1, F1⟩ := qM_meet C0 0 0 0 1 0 2 ad M hJ.1
    exact ⟨M1, j1, fun X K hE => r_X8_digest_405 K ad M a (nI 2) ⟨fun _ => ⟨_, M1, F1 _ _ _ _ _, hE⟩, fun q => nle_no q⟩⟩
  | succ j ih =>
    intro i M a hJ hi
    obtain ⟨M1, j1, F1⟩ := qM_fog C0 0 2 4 (nI i) ad M hJ.1
    obtain ⟨M', j', hA⟩ := ih (i + 1) M1 (31 * a + f_X7_fog C0 0 2 4 (nI i)) j1 (by omega)
    refine ⟨M', j', fun X K hE => ?_⟩
    refine r_X8_digest_405 K ad M a (nI i) ⟨fun q => nlt_no (b := 2) (by decide) (by omega) q, fun _ => ⟨_, M1, F1 _ _ _ _ _, ?_⟩⟩
    rw [nI_1]
    exact hA X K hE
theorem dm_375 {C0 : MS} (ad : Nat → Nat) : ∀ (j i : Nat) (M : MS) (a : Int64), JM C0 M → i + j = 2 → ∃ M', JM C0 M' ∧ dmAt ad M 375 a i M' (e375 C0 (ecM C0 i j a)) := by
  intro j
  induction j with
  | zero =>
    intro i M a hJ hi
    obtain rfl : i = 2 := by omega
    obtain ⟨M', j', hA⟩ := dm_405 (C0 := C0) ad 2 0 M a hJ rfl
    exact ⟨M', j', fun X K hE => r_X8_digest_375 K ad M a (nI 2) ⟨fun _ => hA X K hE, fun q => nle_no q⟩⟩
  | succ j ih =>
    intro i M a hJ hi
    obtain ⟨M1, j1, F1⟩ := i_echoesOf (C := C0) (x := nI i) (two2y (by omega)) ad M hJ
    obtain ⟨M', j', hA⟩ := ih (i + 1) M1 (h31 a (f_X7_echoes C0 1 (-1) (-1) (-1) (nI i))) j1 (by omega)
    refine ⟨M', j', fun X K hE => ?_⟩
    refine r_X8_digest_375 K ad M a (nI i) ⟨fun q => nlt_no (b := 2) (by decide) (by omega) q, fun _ => ⟨_, M1, F1 _ _ _ _ _, ?_⟩⟩
    rw [nI_1]
    exact hA X K hE
theorem dm_349 {C0 : MS} (ad : Nat → Nat) : ∀ (j i : Nat) (M : MS) (a : Int64), JM C0 M → i + j = 3 → ∃ M', JM C0 M' ∧ dmAt ad M 349 a i M' (e349 C0 (w178 C0 i j a)) := by
  intro j
  induction j with
  | zero =>
    intro i M a hJ hi
    obtain rfl : i = 3 := by omega
    obtain ⟨M', j', hA⟩ := dm_375 (C0 := C0) ad 2 0 M a hJ rfl
    exact ⟨M', j', fun X K hE => r_X8_digest_349 K ad M a (nI 3) ⟨fun _ => hA X K hE, fun q => nle_no q⟩⟩
  | succ j ih =>
    intro i M a hJ hi
    obtain ⟨M1, j1, F1⟩ := i_watchersOf (C := C0) (x := nI i) (in2 (by omega)) ad M hJ
    obtain ⟨M', j', hA⟩ := ih (i + 1) M1 (h31 a (f_X7_watchers C0 (nI i))) j1 (by omega)
    refine ⟨M', j', fun X K hE => ?_⟩
    refine r_X8_digest_349 K ad M a (nI i) ⟨fun q => nlt_no (b := 3) (by decide) (by omega) q, fun _ => ⟨_, M1, F1 _ _ _ _ _, ?_⟩⟩
    rw [nI_1]
    exact hA X K hE
theorem dm_282 {C0 : MS} (ad : Nat → Nat) : ∀ (j i : Nat) (M : MS) (a : Int64), JM C0 M → i + j = 2 → ∃ M', JM C0 M' ∧ dmAt ad M 282 a i M' (e282 C0 (lkM C0 i j a)) := by
  intro j
  induction j with
  | zero =>
    intro i M a hJ hi
    obtain rfl : i = 2 := by omega
    obtain ⟨M1, j1, F1⟩ := qM_view C0 0 ad M hJ.1
    obtain ⟨M2, j2, F2⟩ := qM_view C0 9 ad M1 j1.1
    obtain ⟨M3, j3, F3⟩ := qM_sees C0 0 2 ad M2 j2.1
    obtain ⟨M', j', hA⟩ := dm_349 (C0 := C0) ad 3 0 M3 (h31 (h31 (h31 a (f_X7_view C0 0)) (f_X7_view C0 9)) (f_X7_sees C0 0 2)) j3 rfl
    exact ⟨M', j', fun X K hE => r_X8_digest_282 K ad M a (nI 2) ⟨fun _ => ⟨_, M1, F1 _ _ _ _ _, _, M2, F2 _ _ _ _ _, _, M3, F3 _ _ _ _ _, hA X K hE⟩, fun q => nle_no q⟩⟩
  | succ j ih =>
    intro i M a hJ hi
    obtain ⟨M1, j1, F1⟩ := i_lookOf (C := C0) (x := nI i) (two2y (by omega)) ad M hJ
    obtain ⟨M', j', hA⟩ := ih (i + 1) M1 (h31 a (f_X7_look C0 (nI i))) j1 (by omega)
    refine ⟨M', j', fun X K hE => ?_⟩
    refine r_X8_digest_282 K ad M a (nI i) ⟨fun q => nlt_no (b := 2) (by decide) (by omega) q, fun _ => ⟨_, M1, F1 _ _ _ _ _, ?_⟩⟩
    rw [nI_1]
    exact hA X K hE
theorem dm_256 {C0 : MS} (ad : Nat → Nat) : ∀ (j i : Nat) (M : MS) (a : Int64), JM C0 M → i + j = 2 → ∃ M', JM C0 M' ∧ dmAt ad M 256 a i M' (e256 C0 (ftM C0 i j a)) := by
  intro j
  induction j with
  | zero =>
    intro i M a hJ hi
    obtain rfl : i = 2 := by omega
    obtain ⟨M', j', hA⟩ := dm_282 (C0 := C0) ad 2 0 M a hJ rfl
    exact ⟨M', j', fun X K hE => r_X8_digest_256 K ad M a (nI 2) ⟨fun _ => hA X K hE, fun q => nle_no q⟩⟩
  | succ j ih =>
    intro i M a hJ hi
    obtain ⟨M1, j1, F1⟩ := i_fitsOf (C := C0) (x := nI i) (two2y (by omega)) ad M hJ
    obtain ⟨M', j', hA⟩ := ih (i + 1) M1 (h31 a (f_X7_fits C0 (nI i))) j1 (by omega)
    refine ⟨M', j', fun X K hE => ?_⟩
    refine r_X8_digest_256 K ad M a (nI i) ⟨fun q => nlt_no (b := 2) (by decide) (by omega) q, fun _ => ⟨_, M1, F1 _ _ _ _ _, ?_⟩⟩
    rw [nI_1]
    exact hA X K hE
/-- a shape's end, and on to what follows -/
theorem dm_120 {C0 : MS} {vT vR : Nat → Int32} {cnt s : Nat} (hc : cnt ≤ 8) (e6 : C0.1 6 0 = nI cnt) (hs : s < cnt) (hv : srcC C0 vT vR s) (ad : Nat → Nat) {r : Int64 → Int64} (next : ∀ (M : MS) (a : Int64), JM C0 M → ∃ M', JM C0 M' ∧ dmAt ad M 57 a (s + 1) M' (r a)) : ∀ (j i : Nat) (M : MS) (a : Int64), JM C0 M → i + j = 3 → ∃ M', JM C0 M' ∧ dm2At ad M 120 a s i M' (r (tlS C0 vT vR s (fmS C0 s i j a))) := by
  have hS := shp_y hc e6 hs
  have v8 : vp_in (nI s) 8 := vp_in_nI (by omega) (by decide)
  have cs : (nI s).toNatClampNeg = s := nI_clamp (by omega)
  intro j
  induction j with
  | zero =>
    intro i M a hJ hi
    obtain rfl : i = 3 := by omega
    obtain ⟨M1, j1, F1⟩ := i_kinOf (C := C0) (x := nI s) (y := 0) hS (by decide) ad M hJ
    obtain ⟨M2, j2, F2⟩ := i_kinOf (C := C0) (x := nI s) (y := 1) hS (by decide) ad M1 j1
    obtain ⟨M3, j3, F3⟩ := i_selfOf (C := C0) (x := nI s) hS ad M2 j2
    obtain ⟨sh, k, hB⟩ := j3.cnt hc e6
    have est : b2i (if f_X8_canStand M3 (M3.1 9 s) 0 then true else false) = f_X7_stands C0 (nI s) 0 0 := by
      have q1 : f_X8_isStand M3 (nI s) 0 0 = true := (isStand_iff hB.1 hB.2.2.1 _ _ _).mpr ⟨s, 0, 0, ⟨hs, by decide, by decide⟩, rfl, rfl, rfl⟩
      rw [v_stands hB, f_X8_stands, if_pos q1, cs, show f_X8_turned (M3.1 9 s) 0 = M3.1 9 s from rfl]
      cases f_X8_canStand M3 (M3.1 9 s) 0 <;> rfl
    obtain ⟨M5, j5, F5⟩ := i_throughOf hc e6 hs (t := 0) (c := 0) (u := 1) (d := 9) (by decide) (by decide) (by decide) (by decide) hv.1.1 ad M3 j3
    obtain ⟨M6, j6, F6⟩ := i_reachOf hc e6 hs (t := 0) (c := 0) (by decide) (by decide) hv.2.1 ad M5 j5
    obtain ⟨M', j', hA⟩ := next M6 (tlS C0 vT vR s a) j6
    refine ⟨M', j', fun X K hE => ?_⟩
    refine r_X8_digest_120 K ad M a (nI s) (nI 3) ⟨fun _ => ⟨_, M1, F1 _ _ _ _ _, _, M2, F2 _ _ _ _ _, _, M3, F3 _ _ _ _ _, v8, f_X8_canStand M3 (M3.1 9 (nI s).toNatClampNeg) 0, M3, c_X8_canStand _ _ _ _ _ ad M3 _ 0 ⟨0, by decide, rfl⟩, _, M5, F5 _ _ _ _ _, _, M6, F6 _ _ _ _ _, ?_⟩, fun q => nle_no q⟩
    rw [nI_1, cs, est]
    exact hA X K hE
  | succ j ih =>
    intro i M a hJ hi
    obtain ⟨M1, j1, F1⟩ := i_formOf (C := C0) (x := nI s) (y := nI i) hS (in2 (by omega)) ad M hJ
    obtain ⟨M', j', hA⟩ := ih (i + 1) M1 (h31 a (f_X7_form C0 (nI s) (nI i))) j1 (by omega)
    refine ⟨M', j', fun X K hE => ?_⟩
    refine r_X8_digest_120 K ad M a (nI s) (nI i) ⟨fun q => nlt_no (b := 3) (by decide) (by omega) q, fun _ => ⟨_, M1, F1 _ _ _ _ _, ?_⟩⟩
    rw [nI_1]
    exact hA X K hE
theorem dm_86 {C0 : MS} {vT vR : Nat → Int32} {cnt s : Nat} (hc : cnt ≤ 8) (e6 : C0.1 6 0 = nI cnt) (hs : s < cnt) (hv : srcC C0 vT vR s) (ad : Nat → Nat) {r : Int64 → Int64} (next : ∀ (M : MS) (a : Int64), JM C0 M → ∃ M', JM C0 M' ∧ dmAt ad M 57 a (s + 1) M' (r a)) : ∀ (j i : Nat) (M : MS) (a : Int64), JM C0 M → i + j = 4 → ∃ M', JM C0 M' ∧ dm2At ad M 86 a s i M' (r (tlS C0 vT vR s (fmS C0 s 0 3 (itF (fun i a => h31 a (f_X7_sight C0 (nI s) 0 (nI i))) i j a)))) := by
  have v8 : vp_in (nI s) 8 := vp_in_nI (by omega) (by decide)
  have cs : (nI s).toNatClampNeg = s := nI_clamp (by omega)
  intro j
  induction j with
  | zero =>
    intro i M a hJ hi
    obtain rfl : i = 4 := by omega
    obtain ⟨M', j', hA⟩ := dm_120 hc e6 hs hv ad next 3 0 M a hJ rfl
    exact ⟨M', j', fun X K hE => r_X8_digest_86 K ad M a (nI s) (nI 4) ⟨fun _ => hA X K hE, fun q => nle_no q⟩⟩
  | succ j ih =>
    intro i M a hJ hi
    obtain ⟨sh, k, hB⟩ := hJ.cnt hc e6
    have e : f_X8_sightOf (M.1 9 s) (nI i) = f_X7_sight C0 (nI s) 0 (nI i) := by
      have q1 : f_X8_isShape M (nI s) = true := (isShape_iff hB.1 hB.2.2.1 _).mpr ⟨s, hs, rfl⟩
      rw [v_sight hB, f_X8_sight, if_pos q1, if_pos (show f_X8_isTurn 0 = true by decide), if_pos (show f_X8_in (nI i).toInt64 0 3 = true from (in_nI (m := 3) (by decide)).mpr ⟨i, by omega, rfl⟩), cs]
      rfl
    obtain ⟨M', j', hA⟩ := ih (i + 1) M (h31 a (f_X7_sight C0 (nI s) 0 (nI i))) hJ (by omega)
    refine ⟨M', j', fun X K hE => ?_⟩
    refine r_X8_digest_86 K ad M a (nI s) (nI i) ⟨fun q => nlt_no (b := 4) (by decide) (by omega) q, fun _ => ⟨v8, ?_⟩⟩
    rw [nI_1, cs, e]
    exact hA X K hE
theorem dm_57 {C0 : MS} {vT vR : Nat → Int32} (hv : ∀ s, srcC C0 vT vR s) {cnt : Nat} (hc : cnt ≤ 8) (e6 : C0.1 6 0 = nI cnt) (ad : Nat → Nat) : ∀ (j i : Nat) (M : MS) (a : Int64), JM C0 M → i + j = cnt → ∃ M', JM C0 M' ∧ dmAt ad M 57 a i M' (e57 C0 (s59 C0 vT vR i j a)) := by
  intro j
  induction j with
  | zero =>
    intro i M a hJ hi
    obtain rfl : i = cnt := by omega
    obtain ⟨sh, k, hB⟩ := hJ.cnt hc e6
    obtain ⟨M', j', hA⟩ := dm_256 (C0 := C0) ad 2 0 M a hJ rfl
    exact ⟨M', j', fun X K hE => r_X8_digest_57 K ad M a (nI i) ⟨fun _ => hA X K hE, fun q => absurd (by rw [hB.2.2.1]; exact Int32.le_refl _) q⟩⟩
  | succ j ih =>
    intro i M a hJ hi
    obtain ⟨sh, k, hB⟩ := hJ.cnt hc e6
    have cs : (nI i).toNatClampNeg = i := nI_clamp (by omega)
    have e : f_X8_turned (M.1 9 i) 1 = f_X7_shape C0 (nI i) 1 := by
      have q1 : f_X8_isShape M (nI i) = true := (isShape_iff hB.1 hB.2.2.1 _).mpr ⟨i, by omega, rfl⟩
      rw [v_shape hB, f_X8_shape, if_pos q1, if_pos (show f_X8_isTurn 1 = true by decide), cs]
    obtain ⟨M', j', hA⟩ := dm_86 hc e6 (s := i) (by omega) (hv i) ad (r := fun a => e57 C0 (s59 C0 vT vR (i + 1) j a)) (fun M a hJ => ih (i + 1) M a hJ (by omega)) 4 0 M (h31 a (f_X7_shape C0 (nI i) 1)) hJ rfl
    refine ⟨M', j', fun X K hE => ?_⟩
    refine r_X8_digest_57 K ad M a (nI i) ⟨fun q => nlt_no (a := i) (b := cnt) (by omega) (by omega) (by rw [← hB.2.2.1]; exact q), fun _ => ⟨vp_in_nI (by omega) (by decide), ?_⟩⟩
    rw [cs, e]
    exact hA X K hE
theorem rd_both {C0 M : MS} (h : Rel C0 M) (ad : Nat → Nat) : ∃ T M', JM C0 M' ∧ (∀ (l : Launch) (D : va_G) (E : Nat → ClassId) (a1 a2 : Nat), Fn l D E a1 a2 yX8_readsShapes wsX8_readsShapes 2 49 [.ref (ad 0)] (mW E ad M) (some (.int (f_X7_fault C0 0))) (mW E ad T)) ∧ ∀ (l : Launch) (D : va_G) (E : Nat → ClassId) (a1 a2 : Nat), Fn l D E a1 a2 yX8_readsHouse wsX8_readsHouse 2 45 [.ref (ad 0)] (mW E ad T) (some (.int (f_X7_fault C0 1))) (mW E ad M') := by
  obtain ⟨n0, n1, k, hT, hS, hH, hK, hP, hL⟩ := id h
  obtain ⟨T, ⟨r1, r2, r3, r4⟩, hF⟩ := c_X8_readsShapes ad M hT.1.1 hT.1.2.2.1
  have t6 : T.1 6 1 = nI n1 := by rw [r3 6 (by decide) (by decide) (by decide)]; exact hT.2.2.2.1
  obtain ⟨S1, ⟨q1, q2, q3⟩, hG⟩ := c_X8_readsHouse ad T hT.2.1 t6
  have e5 : T.1 5 = M.1 5 := r3 5 (by decide) (by decide) (by decide)
  rw [e5] at q1 hG
  have ra : rdAll n0 n1 M S1 := by
    refine ⟨?_, fun j hj => ?_, q1, fun k k7 k8 k9 k10 => ?_, by rw [q3]; exact r4⟩
    · rw [q2 8 (by decide) (by decide)]; exact r1
    · rw [q2 9 (by decide) (by decide)]; exact r2 j hj
    · rw [q2 k k7 k10]; exact r3 k k7 k8 k9
  refine ⟨T, S1, ⟨h.keep (keepC.rf C0) ra.keep, _, _, _, bo_of hT hS hH hK ra⟩, fun l D E a1 a2 => ?_, fun l D E a1 a2 => ?_⟩
  · rw [show f_X7_fault C0 0 = fault0 (hxv (M.1 5) 0 n0) n0 from by rw [hx_eq0 hT]; exact hS.1]
    exact hF l D E a1 a2
  · rw [show f_X7_fault C0 1 = faultH (hxv (M.1 5) 40 n1) n1 from by rw [hx_eq1 hT]; exact hH.1]
    exact hG l D E a1 a2
theorem dm_6 {C0 : MS} {vT vR : Nat → Int32} (hv : ∀ s, srcC C0 vT vR s) {cnt : Nat} (hc : cnt ≤ 8) (e6 : C0.1 6 0 = nI cnt) (ad : Nat → Nat) : ∀ (j i : Nat) (M : MS) (a : Int64), Rel C0 M → i + j = 8 → ∃ M', JM C0 M' ∧ dmAt ad M 6 a i M' (d6 C0 vT vR cnt (c6 C0 i j a)) := by
  intro j
  induction j with
  | zero =>
    intro i M a hR hi
    obtain rfl : i = 8 := by omega
    obtain ⟨T, M1, j1, F1, F2⟩ := rd_both hR ad
    obtain ⟨M', j', hA⟩ := dm_57 hv hc e6 ad cnt 0 M1 (h31 (h31 a (f_X7_fault C0 0)) (f_X7_fault C0 1)) j1 (Nat.zero_add cnt)
    rw [e57_d] at hA
    exact ⟨M', j', fun X K hE => r_X8_digest_6 K ad M a (nI 8) ⟨fun _ => ⟨_, T, F1 _ _ _ _ _, _, M1, F2 _ _ _ _ _, hA X K hE⟩, fun q => nle_no q⟩⟩
  | succ j ih =>
    intro i M a hR hi
    obtain ⟨M1, j1, F1⟩ := qM_count C0 (nI i) ad M hR
    obtain ⟨M', j', hA⟩ := ih (i + 1) M1 (h31 a (f_X7_count C0 (nI i))) j1.1 (by omega)
    refine ⟨M', j', fun X K hE => ?_⟩
    refine r_X8_digest_6 K ad M a (nI i) ⟨fun q => nlt_no (b := 8) (by decide) (by omega) q, fun _ => ⟨_, M1, F1 _ _ _ _ _, ?_⟩⟩
    rw [nI_1]
    exact hA X K hE
theorem pr_digest : Pr Value.long yX7_digest wsX7_digest 6 140 yX8_digest wsX8_digest 6 146 [] := Pr.of (fun C S h => by
  obtain ⟨vT, vR, hv⟩ := src_ex h
  obtain ⟨_, cnt, sh, k, hB⟩ := id h
  refine ⟨(dgV C vT vR cnt), qC_digest h hv hB.1 hB.2.1, fun ad M hR => ?_⟩
  obtain ⟨M', j', hA⟩ := dm_6 hv hB.1 hB.2.1 ad 8 0 M 17 hR rfl
  refine ⟨M', j', fun l D E a1 a2 => ?_⟩
  show Fn l D E a1 a2 yX8_digest wsX8_digest 6 146 [.ref (ad 0)] (mW E ad M) (some (.long (dgV C vT vR cnt))) (mW E ad M')
  refine Fn.of (cc := cX8_digest) (maxL := 5) (ret := (some .long)) (own := RX8) (by decide) rfl rfl (sameM _ _ _ _) (Nat.le_of_ble_eq_true rfl) (fun X q1 q2 q3 q4 q5 K hE => ?_)
  subst q1 q2 q3 q4 q5
  exact r_X8_digest_0 K ad M (hA X K hE))
end
