/-! THE CLAIM OUT OF ONE WALK OF THE LAW'S BODY. Your part is whole_start (and what it stands on); all else here is the same for every law, but numbers. -/
def R_law : String := "OnlySidewaysLaw"
def lw_P (b : Addr) (xs : List Int32) (args : Array Value) (s : State) : Prop := args = #[.ref b] ∧ s.IntsAt b xs ∧ xs.length ≤ 448 ∧ (Jvm.Cond.and given_1 narrow_1).before args s = true
def lw_Q (_ : Array Value) (s : State) (o : Outcome) (t : State) : Prop := o = .returned (some (.int 1)) ∧ Framed s o t [] 600000 7302249
def lw_Z (below : List Frame) (a : Array Value) (s : State) : State → Prop := fun t => ∃ o, t.status = .running ∧ Ended t below o ∧ lw_Q a s o t
/-- the law's own end, with 1 on the stack, nothing written that was there before, its room as the claim has it -/
theorem lw_ret {p : Program} {l : Launch} {e : Env} {s : State} {m : MethodId} {below : List Frame} {meth : Method} {c : Code} {b : Nat} (hx : p.tables.exec = Jvm.exec) (hb : c.code = code) (hr : meth.sig.returnType = ret) (hlocks : meth.locks = false) {pc : Nat} {H : Heap} {ls : Array Slot} (hdg : decode code pc = .ok (.ireturn, 1)) : W p l e room_1 s m #[Value.ref b] below meth c H [] 600000 7302249 (lw_Z below #[Value.ref b] s) (F0 m pc ls [.int 1]) := by
  intro T hT X
  obtain ⟨fs, hret, hrun, hended, hW, hframe⟩ := X.leave (v := some (.int 1)) (hlocks := hlocks) (fun h => by rw [hr] at h; cases h)
  have hmeth' : T.vm.method? m = some meth := X.method'
  refine ⟨T.setFrames fs, ?_, .returned (some (.int 1)), hrun, hended, rfl, ⟨_, rfl⟩, hW, hframe⟩
  jvm_step X.here [X.here.top, hx, hb, hdg, hmeth', hr, ret, narrow_b1]
  (try refine ⟨rfl, ?_⟩); (try refine ⟨rfl, ?_⟩)
  first | (intro acts; rw [hret _ acts rfl rfl rfl]) | rw [hret _ _ rfl rfl rfl]
  exact Steps.refl _
/-- what holds at the law's entry: the machine, the code, the tables' words (any of lw_tbl by 'hts w (by decide +kernel)'), the script of L ints xs at the cell b, what the Statement gives of the start (any of its parts by flat_of_before) -/
def lw_At (p : Program) (s : State) (m : MethodId) (meth : Method) (c : Code) (b L : Nat) (xs : Nat → Int32) : Prop :=
  p.tables.exec = Jvm.exec ∧ c.code = code ∧ meth.sig.returnType = ret ∧ c.maxLocals = 4 ∧ s.vm.findClass R_law = some m.cls ∧ (∀ w ∈ lw_tbl, w.before #[Value.ref b] s = true) ∧ va_X b L xs s s.heap ∧ b < s.heap.size ∧ meth.locks = false ∧ (Jvm.Cond.and given_1 narrow_1).before #[Value.ref b] s = true
-- ===== YOUR PART BEGINS =====
theorem rel_start : Rel C00 M00 := by
  refine ⟨0, 0, 0, ⟨⟨by decide, rfl, rfl, fun j hj => absurd hj (Nat.not_lt_zero j)⟩, by decide, rfl, rfl, fun j hj => absurd hj (Nat.not_lt_zero j)⟩, ⟨rfl, rfl, fun j hj => absurd hj (Nat.not_lt_zero j)⟩, ⟨rfl, (by decide : ∀ c, c < 64 → tbL (C00.2 1 0) c = freeH (hxv (C00.1 1) 0 0) 0 c)⟩, ⟨by decide, rfl, rfl, fun j hj => absurd hj (Nat.not_lt_zero j)⟩, fun s hs => ?_, rfl⟩
  rcases (show s = 0 ∨ s = 1 ∨ s = 2 ∨ s = 3 by omega) with rfl | rfl | rfl | rfl
  · exact ⟨0, by decide, rfl, rfl, fun i hi => absurd hi (Nat.not_lt_zero i), Or.inl ⟨rfl, rfl⟩⟩
  · exact ⟨0, by decide, rfl, rfl, fun i hi => absurd hi (Nat.not_lt_zero i), Or.inl ⟨rfl, rfl⟩⟩
  · exact ⟨0, by decide, rfl, rfl, fun i hi => absurd hi (Nat.not_lt_zero i), Or.inl ⟨rfl, rfl⟩⟩
  · exact ⟨0, by decide, rfl, rfl, fun i hi => absurd hi (Nat.not_lt_zero i), Or.inl ⟨rfl, rfl⟩⟩
theorem nest_in : ∀ w ∈ nestW, w ∈ lw_tbl := by decide +kernel
theorem ao_in : Cond.arrayOver (.object "OnlySideways$Sheet") ∈ lw_tbl := by decide +kernel
theorem ls_in1 : Cond.laysStatic RX1 "ROW_STEPS" "[I" ∈ lw_tbl := by decide +kernel
theorem ls_in2 : Cond.laysStatic RX1 "COLUMN_STEPS" "[I" ∈ lw_tbl := by decide +kernel
theorem in_inst0 : Cond.instantiable RX0 4 ∈ wsL_law := by decide +kernel
theorem in_inst1 : Cond.instantiable RX1 6 ∈ wsL_law := by decide +kernel
theorem in_inst3 : Cond.instantiable RX3 4 ∈ wsL_law := by decide +kernel
theorem in_inst4 : Cond.instantiable RX4 4 ∈ wsL_law := by decide +kernel
theorem in_inst5 : Cond.instantiable RX5 2 ∈ wsL_law := by decide +kernel
theorem in_inst6 : Cond.instantiable RX6 4 ∈ wsL_law := by decide +kernel
theorem in_inst7 : Cond.instantiable RX7 8 ∈ wsL_law := by decide +kernel
theorem in_inst8 : Cond.instantiable RX8 18 ∈ wsL_law := by decide +kernel
theorem in_ini1 : Cond.initialized RX1 ∈ wsL_law := by decide +kernel
theorem in_ini7 : Cond.initialized RX7 ∈ wsL_law := by decide +kernel
theorem in_ini8 : Cond.initialized RX8 ∈ wsL_law := by decide +kernel
theorem in_cl7 : Cond.classLink RL 7 RX7 ∈ wsL_law := by decide +kernel
theorem in_cl8 : Cond.classLink RL 10 RX8 ∈ wsL_law := by decide +kernel
theorem in_ac0 : Cond.arrayClass .int ∈ wsL_law := by decide +kernel
theorem in_ac1 : Cond.arrayClass .long ∈ wsL_law := by decide +kernel
theorem in_ac2 : Cond.arrayClass .boolean ∈ wsL_law := by decide +kernel
theorem in_mi7 : Cond.instanceMethod yX7_init ∈ wsL_law ∧ Cond.methodLink RL 9 yX7_init ∈ wsL_law := by decide +kernel
theorem in_mi8 : Cond.instanceMethod yX8_init ∈ wsL_law ∧ Cond.methodLink RL 12 yX8_init ∈ wsL_law := by decide +kernel
/-- the classes, the arrays' classes, the two static rows, as the start has them -/
def stKnown (s : State) (D : va_G) (E : Nat → ClassId) (a1 a2 : Nat) : Prop := va_K D vwCl (tyE E) s ∧ NS a1 a2 (fun q => s.heap.size ≤ q) s s.heap ∧ aoS s
theorem st_K {s : State} {b : Nat} (hts : ∀ w ∈ wsL_law, w.before #[Value.ref b] s = true) (hao : (Cond.arrayOver (.object "OnlySideways$Sheet")).before #[Value.ref b] s = true) : ∃ D E, va_K D vwCl (tyE E) s := by
  obtain ⟨c0, i0, k0⟩ := u_known (C := RX0) (T := TX0) (N := 4) (n := 4) hts inlX0 (hts _ in_inst0)
  obtain ⟨c1, i1, k1⟩ := u_known (C := RX1) (T := TX1) (N := 6) (n := 6) hts inlX1 (hts _ in_inst1)
  obtain ⟨c3, i3, k3⟩ := u_known (C := RX3) (T := TX3) (N := 4) (n := 4) hts inlX3 (hts _ in_inst3)
  obtain ⟨c4, i4, k4⟩ := u_known (C := RX4) (T := TX4) (N := 4) (n := 4) hts inlX4 (hts _ in_inst4)
  obtain ⟨c5, i5, k5⟩ := u_known (C := RX5) (T := TX5) (N := 2) (n := 2) hts inlX5 (hts _ in_inst5)
  obtain ⟨c6, i6, k6⟩ := u_known (C := RX6) (T := TX6) (N := 4) (n := 4) hts inlX6 (hts _ in_inst6)
  obtain ⟨c7, i7, k7⟩ := u_known (C := RX7) (T := TX7) (N := 8) (n := 8) hts inlX7 (hts _ in_inst7)
  obtain ⟨c8, i8, k8⟩ := u_known (C := RX8) (T := TX8) (N := 18) (n := 18) hts inlX8 (hts _ in_inst8)
  obtain ⟨e0, ka0, co0, f1, f2, f3⟩ := Cond.arrayClass_spec (hts _ in_ac0)
  obtain ⟨e1, ka1, co1, g1, g2, g3⟩ := Cond.arrayClass_spec (hts _ in_ac1)
  obtain ⟨e2, ka2, co2, h1, h2, h3⟩ := Cond.arrayClass_spec (hts _ in_ac2)
  obtain ⟨comp, e3, ka3, m1, m2, m3, m4, m5⟩ := Cond.arrayOver_spec hao
  refine ⟨(fun k => if k = 0 then c0 else if k = 1 then c1 else if k = 2 then c3 else if k = 3 then c4 else if k = 4 then c5 else if k = 5 then c6 else if k = 6 then c7 else c8, fun k => if k = 0 then i0 else if k = 1 then i1 else if k = 2 then i3 else if k = 3 then i4 else if k = 4 then i5 else if k = 5 then i6 else if k = 6 then i7 else i8), fun k => if k = 0 then e0 else if k = 1 then e1 else if k = 2 then e2 else e3, fun k q hq => ?_, fun k q hq => ?_⟩
  · match k, hq with
    | 0, hq => cases hq; exact k0
    | 1, hq => cases hq; exact k1
    | 2, hq => cases hq; exact k3
    | 3, hq => cases hq; exact k4
    | 4, hq => cases hq; exact k5
    | 5, hq => cases hq; exact k6
    | 6, hq => cases hq; exact k7
    | 7, hq => cases hq; exact k8
    | k + 8, hq => simp [vwCl] at hq
  · match k, hq with
    | 0, hq => cases hq; exact ⟨fun n z => ⟨fun k h => (by cases h), ka0, f2, co0, f3⟩, f1⟩
    | 1, hq => cases hq; exact ⟨fun n z => ⟨fun k h => (by cases h), ka1, g2, co1, g3⟩, g1⟩
    | 2, hq => cases hq; exact ⟨fun n z => ⟨fun k h => (by cases h), ka2, h2, co2, h3⟩, h1⟩
    | 3, hq => cases hq; exact ⟨fun n z => ⟨fun k h => (by cases h), ka3, m3, comp, m4⟩, ka3, comp, m3, m4, m1, m5⟩
    | k + 4, hq => simp [tyE] at hq
theorem st_known {p : Program} {s : State} {m : MethodId} {meth : Method} {c : Code} {b L : Nat} {xs : Nat → Int32} (C0 : lw_At p s m meth c b L xs) : ∃ D E a1 a2, stKnown s D E a1 a2 := by
  obtain ⟨hx, hb, hr, hml, hown, hts, hXs, hbl, hlocks, hgv⟩ := id C0
  have hts' : ∀ w ∈ wsL_law, w.before #[Value.ref b] s = true := fun w h => hts w (wsL_law_all w h)
  have hg := flat_of_before _ hgv
  have hA : ∀ a : Nat, a < s.heap.size → ¬ (fun q : Nat => s.heap.size ≤ q) a := fun a h => Nat.not_le.mpr h
  obtain ⟨D, E, hK⟩ := st_K hts' (hts _ ao_in)
  obtain ⟨a1, v1, t1⟩ := va_Tof (tm := .static "OnlySideways$House" "ROW_STEPS" "[I") (ty := .int) (N := 4) (f := fun j => .int (rowSt j)) (A := fun q : Nat => s.heap.size ≤ q) (by decide) (hg _ (by decide +kernel)) (va_eqt (hg (Cond.eq (.length (.static "OnlySideways$House" "ROW_STEPS" "[I")) (.int 4)) (by decide +kernel))) (fun j hj => by
    rcases (show j = 0 ∨ j = 1 ∨ j = 2 ∨ j = 3 by omega) with rfl | rfl | rfl | rfl
    · exact va_eqt (hg (Cond.eq (.elem (.static "OnlySideways$House" "ROW_STEPS" "[I") (.int 0)) (.int (-1))) (by decide +kernel))
    · exact va_eqt (hg (Cond.eq (.elem (.static "OnlySideways$House" "ROW_STEPS" "[I") (.int 1)) (.int 0)) (by decide +kernel))
    · exact va_eqt (hg (Cond.eq (.elem (.static "OnlySideways$House" "ROW_STEPS" "[I") (.int 2)) (.int 1)) (by decide +kernel))
    · exact va_eqt (hg (Cond.eq (.elem (.static "OnlySideways$House" "ROW_STEPS" "[I") (.int 3)) (.int 0)) (by decide +kernel))) hA
  obtain ⟨a2, v2, t2⟩ := va_Tof (tm := .static "OnlySideways$House" "COLUMN_STEPS" "[I") (ty := .int) (N := 4) (f := fun j => .int (colSt j)) (A := fun q : Nat => s.heap.size ≤ q) (by decide) (hg _ (by decide +kernel)) (va_eqt (hg (Cond.eq (.length (.static "OnlySideways$House" "COLUMN_STEPS" "[I")) (.int 4)) (by decide +kernel))) (fun j hj => by
    rcases (show j = 0 ∨ j = 1 ∨ j = 2 ∨ j = 3 by omega) with rfl | rfl | rfl | rfl
    · exact va_eqt (hg (Cond.eq (.elem (.static "OnlySideways$House" "COLUMN_STEPS" "[I") (.int 0)) (.int 0)) (by decide +kernel))
    · exact va_eqt (hg (Cond.eq (.elem (.static "OnlySideways$House" "COLUMN_STEPS" "[I") (.int 1)) (.int 1)) (by decide +kernel))
    · exact va_eqt (hg (Cond.eq (.elem (.static "OnlySideways$House" "COLUMN_STEPS" "[I") (.int 2)) (.int 0)) (by decide +kernel))
    · exact va_eqt (hg (Cond.eq (.elem (.static "OnlySideways$House" "COLUMN_STEPS" "[I") (.int 3)) (.int (-1))) (by decide +kernel))) hA
  refine ⟨D, E, a1, a2, hK, ⟨fun w hw => ?_, va_Zref (hts _ ls_in1) (hts' _ in_ini1) v1 hA, va_Zref (hts _ ls_in2) (hts' _ in_ini1) v2 hA, t1, t2⟩, va_AO.of (hts _ ao_in)⟩
  have h1 := hts w (nest_in w hw)
  obtain ⟨a, i, x, hh, rfl⟩ := nestW_form w hw
  exact va_any rfl h1
set_option maxHeartbeats 4000000 in
set_option maxRecDepth 100000 in
/-- YOUR PART: from the entry, for every script of at most 448 ints, the law comes to its end with true -/
theorem whole_start {p : Program} {e : Env} {s : State} {m : MethodId} {below : List Frame} {meth : Method} {c : Code} (l : Launch) {b L : Nat} {xs : Nat → Int32} (hL : L ≤ 448) (C0 : lw_At p s m meth c b L xs) : W p l e room_1 s m #[Value.ref b] below meth c s.heap [] 0 0 (lw_Z below #[Value.ref b] s) (entryFrame m ([Value.ref b] : List Value).toArray 4) := by
  obtain ⟨D, E, a1, a2, hK, hN, hao⟩ := st_known C0
  obtain ⟨hx, hb, hr, hml, hown, hts, hXs, hbl, hlocks, hgv⟩ := id C0
  have hts' : ∀ w ∈ wsL_law, w.before #[Value.ref b] s = true := fun w h => hts w (wsL_law_all w h)
  let X : Bn := ((p, l, e, room_1, s), (m, #[Value.ref b], below, meth, c), (0, 0, lw_Z below #[Value.ref b] s, fun q => s.heap.size ≤ q), (D, E, a1, a2))
  have K : Cx X cL_law 4 RL wsL_law 9 346 := ⟨⟨hx, hb, hml, hown, hts'⟩, hK, hN, ⟨Nat.le_refl _, Nat.le_refl _⟩, ⟨Nat.zero_le _, Nat.zero_le _⟩, hlocks⟩
  have hA : AL X := fun q h => h
  have hX : LX X b L xs := ⟨hXs, hbl, Nat.not_le.mpr hbl, hL⟩
  have hR1 : X.R.cells = 600000 := rfl
  have hR2 : X.R.slots = 7302249 := rfl
  have key : At (X.cs 0 0) 4 [] 0 [(0, .ref b)] [] := by
    refine at_new K hA (K := RX7) (T := TX7) (N := 8) (ci := 6) inlX7 tyX7 tyX7_ok in_cl7 in_inst7 in_ini7 rfl (fs := [.null, .null, .null, .null, .null, .null, .null, .int 0]) (fun j hj => by rcases (show j = 0 ∨ j = 1 ∨ j = 2 ∨ j = 3 ∨ j = 4 ∨ j = 5 ∨ j = 6 ∨ j = 7 by omega) with rfl | rfl | rfl | rfl | rfl | rfl | rfl | rfl <;> rfl) (by rw [hR1]; omega) (by rw [hR2]; omega) (ws' := fun q => [(q, .inr (6, [.null, .null, .null, .null, .null, .null, .null, .int 0]))]) (fun _ => rfl) dL_law_0 (fun q => ?_)
    have K1 : Cx (X.cs (0 + 1) (0 + 8)) cL_law 4 RL wsL_law 9 346 := K.cs (by rw [hR1]; omega) (by rw [hR2]; omega)
    refine at_dup K1 dL_law_3 rfl ?_
    refine at_callI K hA hao (b := q) (As := []) (w0 := [(q, .inr (6, [.null, .null, .null, .null, .null, .null, .null, .int 0]))]) [] 0 (c_X7_init X.l X.D X.E X.a1 X.a2 q) gL_law_X7_init rfl in_ini7 in_mi7.2 in_mi7.1 rfl (by decide +kernel) ⟨rfl, rfl⟩ rfl rfl (Nat.le_of_ble_eq_true rfl) (by rw [hR1]; omega) (by rw [hR2]; omega) rfl dL_law_4 (fun w1 hw1 => ?_)
    obtain ⟨ad, ea, rfl⟩ := hw1
    subst ea
    have K2 : Cx (X.cs (0 + 1 + 27) (0 + 8 + 697)) cL_law 4 RL wsL_law 9 346 := K.cs (by rw [hR1]; omega) (by rw [hR2]; omega)
    refine at_astore_n K2 dL_law_7 rfl (by decide) (lv' := [(1, .ref (ad 0)), (0, .ref b)]) rfl ?_
    refine at_new K hA (ws := cW X.E ad C00) (K := RX8) (T := TX8) (N := 18) (ci := 7) inlX8 tyX8 tyX8_ok in_cl8 in_inst8 in_ini8 rfl (fs := [.null, .null, .null, .null, .int 0, .null, .null, .int 0, .int 0, .null, .null, .null, .null, .int 0, .int 0, .null, .null, .null]) (fun j hj => by rcases (show j = 0 ∨ j = 1 ∨ j = 2 ∨ j = 3 ∨ j = 4 ∨ j = 5 ∨ j = 6 ∨ j = 7 ∨ j = 8 ∨ j = 9 ∨ j = 10 ∨ j = 11 ∨ j = 12 ∨ j = 13 ∨ j = 14 ∨ j = 15 ∨ j = 16 ∨ j = 17 by omega) with rfl | rfl | rfl | rfl | rfl | rfl | rfl | rfl | rfl | rfl | rfl | rfl | rfl | rfl | rfl | rfl | rfl | rfl <;> rfl) (by rw [hR1]; omega) (by rw [hR2]; omega) (ws' := fun q => cW X.E ad C00 ++ [(q, .inr (7, [.null, .null, .null, .null, .int 0, .null, .null, .int 0, .int 0, .null, .null, .null, .null, .int 0, .int 0, .null, .null, .null]))]) (fun _ => rfl) dL_law_8 (fun q2 => ?_)
    have K3 : Cx (X.cs (0 + 1 + 27 + 1) (0 + 8 + 697 + 18)) cL_law 4 RL wsL_law 9 346 := K.cs (by rw [hR1]; omega) (by rw [hR2]; omega)
    refine at_dup K3 dL_law_11 rfl ?_
    refine at_callI K hA hao (b := q2) (As := []) (w0 := [(q2, .inr (7, [.null, .null, .null, .null, .int 0, .null, .null, .int 0, .int 0, .null, .null, .null, .null, .int 0, .int 0, .null, .null, .null]))]) (cW X.E ad C00) 0 (c_X8_init X.l X.D X.E X.a1 X.a2 q2) gL_law_X8_init rfl in_ini8 in_mi8.2 in_mi8.1 rfl (by decide +kernel) ⟨rfl, rfl⟩ rfl rfl (Nat.le_of_ble_eq_true rfl) (by rw [hR1]; omega) (by rw [hR2]; omega) rfl dL_law_12 (fun w1 hw1 => ?_)
    obtain ⟨ad', ea, rfl⟩ := hw1
    subst ea
    have K4 : Cx (X.cs (0 + 1 + 27 + 1 + 13) (0 + 8 + 697 + 18 + 1731)) cL_law 4 RL wsL_law 9 346 := K.cs (by rw [hR1]; omega) (by rw [hR2]; omega)
    refine at_astore_n K4 dL_law_15 rfl (by decide) (lv' := [(2, .ref (ad' 0)), (1, .ref (ad 0)), (0, .ref b)]) rfl ?_
    refine at_iconst K4 dL_law_16 (v := 0) rfl ?_
    refine at_istore_n K4 dL_law_17 rfl (by decide) (lv' := [(3, .int 0), (2, .ref (ad' 0)), (1, .ref (ad 0)), (0, .ref b)]) rfl ?_
    have fin : ∀ C M j, At (X.cs (0 + 1 + 27 + 1 + 13) (0 + 8 + 697 + 18 + 1731)) 4 (cW X.E ad C ++ mW X.E ad' M) 1302 (LV b ad ad' j) [] := by
      intro C M j
      refine at_iconst K4 dL_law_1302 (v := 1) rfl ?_
      intro H locs ls hP hD hS hl
      show W p l e room_1 s m #[Value.ref b] below meth c H locs (0 + 1 + 27 + 1 + 13) (0 + 8 + 697 + 18 + 1731) (lw_Z below #[Value.ref b] s) (F0 m 1303 ls [.int 1])
      refine va_forget (fun q hq => hS.2.2 q hq) ?_
      refine W.widen (k := 600000) (n := 7302249) (by omega) (by omega) ?_
      exact lw_ret hx hb hr hlocks dL_law_1303
    have lp := law_loop (X := X.cs (0 + 1 + 27 + 1 + 13) (0 + 8 + 697 + 18 + 1731)) (ad := ad) (ad' := ad') K4 hX fin (L / 7 + 1) 0 C00 M00 rel_start (by omega) (by omega) (by omega)
    intro H locs ls hP hD hS hl
    exact lp H locs ls hP hD hS (lv_sub hl [3, 2, 1, 0] rfl)
  have hl := lv_entry ([.ref b]) (n := 4) (Nat.le_of_ble_eq_true rfl)
  rw [lg_entry_eq]
  exact key s.heap [] _ (fun k q h => by simp at h) ⟨fun i j p q h => by simp at h, fun k q h => by simp at h⟩ va_S.rf hl
-- ===== YOUR PART ENDS =====
set_option maxHeartbeats 4000000 in
theorem lw_walk (l : Launch) (b : Addr) (xs : List Int32) : MetFree l x (headSpec (Jvm.Cond.code x code maxLocals ret :: tables_1) room_1) (lw_P b xs) (fun _ _ _ _ _ => True) lw_Q := by
  refine MetFree.of_bodyS (code := code) (maxLocals := maxLocals) (ret := ret) (by decide) ?_ ?_
  · intro args s m h hn
    obtain ⟨meth, c, h1, h2, h3, h4, h5, h6, -, -⟩ := Cond.code_spec hn (atoms_spec (ws := Jvm.Cond.code x code maxLocals ret :: tables_1) h _ List.mem_cons_self)
    exact ⟨meth, c, h1, h2, h3, h4, h5, h6⟩
  · intro p e s m args below meth c s₁ B hml0 hP _
    obtain ⟨rfl, hx, hbd, hgv⟩ := hP
    obtain ⟨scr, harrAt, hlist, hof, hsmall⟩ := hx
    obtain ⟨hcb, hkn, -, -⟩ := State.arrayAt?_spec harrAt
    have hown : s.vm.findClass R_law = some m.cls := findClass_of_methodNamed B.named
    have hts0 : ∀ c ∈ (Jvm.Cond.code x code maxLocals ret :: tables_1), c.before #[Value.ref b] s = true := atoms_spec (ws := Jvm.Cond.code x code maxLocals ret :: tables_1) B.pre
    have hts : ∀ w ∈ lw_tbl, w.before #[Value.ref b] s = true := k2_hts_sels lw_privs (fun w hw => hts0 w (List.mem_cons_of_mem _ hw)) lw_privs_ok
    have hml : c.maxLocals = 4 := B.maxLocals_eq (hts0 _ List.mem_cons_self)
    have X₀ : Stand p l e room_1 s m #[Value.ref b] below meth c s₁ [] 0 0 := Stand.of_body B
    have hh0 : s₁.heap = s.heap := by rw [B.state]; rfl
    have hsz : scr.slots.size = xs.length := by rw [← Array.length_toList, hlist, List.length_map]
    have hval : ∀ j : Nat, j < xs.length → scr.slots[j]? = some (.int (xs.getD j 0)) := fun j hj => by
      rw [← Array.getElem?_toList, hlist]
      simp [hj]
    have hbl : b < s.heap.size := (Array.getElem?_eq_some_iff.mp hcb).1
    have hX : va_X b xs.length (fun j => xs.getD j 0) s s.heap := ⟨scr, hcb, hof, hkn, hsz, hval⟩
    have K : W p l e room_1 s m #[Value.ref b] below meth c s₁.heap [] 0 0 (lw_Z below #[Value.ref b] s) (entryFrame m ([Value.ref b] : List Value).toArray 4) := by
      rw [hh0]
      exact whole_start l hbd ⟨B.exec, B.bytes, B.returns, hml, hown, hts, hX, hbl, B.notSynchronized, hgv⟩
    obtain ⟨t, a1, o, b1, b2, b3⟩ := K s₁ rfl X₀
    exact ⟨t, o, a1, b1, b2, b3⟩
theorem lw_pre_spec {args : Array Value} {s : State} (h : (Jvm.Cond.and given_1 narrow_1).before args s = true) (hr : rest_1_c.before args s = true) : ∃ (b : Addr) (xs : List Int32), lw_P b xs args s := by
  have hs := flat_of_before _ h
  have hq := flat_of_before _ hr
  have hc : (Cond.count 1).before args s = true := hs _ (by decide +kernel)
  have harr : (Cond.arrayOf (.arg 0) .int).before args s = true := hs _ (by decide +kernel)
  have hle : (Cond.le (.length (.arg 0)) (.int 448)).before args s = true := hs _ (by decide +kernel)
  have hlen : (Cond.isInt (.length (.arg 0))).before args s = true := hq _ (by decide +kernel)
  have hall : (Cond.all (.arg 0) (.isInt (.elem (.arg 0) (.index 0)))).before args s = true := hq _ (by decide +kernel)
  obtain ⟨b, xs, hb, hx⟩ := State.ints_of_pre rfl harr hlen hall
  have hsm : xs.length < 2 ^ 31 := hx.choose_spec.2.2.2
  have hev : (Term.length (.arg 0)).eval args s none [] s = some (.int xs.length.toInt32) := hx.length_eval hb
  have hv := Cond.le_ints hev (show (Term.int 448).eval args s none [] s = some (.int 448) from rfl)
  have hd : xs.length.toInt32 ≤ 448 := by
    simpa [Cond.before, Cond.holds, hv] using hle
  have hN : xs.length ≤ 448 := (Int32.ofNat_le_ofNat hsm (by decide)).mp (show Int32.ofNat xs.length ≤ Int32.ofNat 448 from hd)
  exact ⟨b, xs, Cond.one_arg hc (show args[0]? = some (.ref b) from hb), hx, hN, h⟩
theorem lw_comes (l : Launch) : Comes l x (Jvm.Cond.code x code maxLocals ret :: tables_1) room_1 (fun tb e args s => Calls_1 tb e args s ∧ rest_1 tb e args s ∧ Pre_1 tb e args s)
    (fun _ _ args s o t => lw_Q args s o t) := by
  intro p e ha hc hk s m args below hf hfit hheap happ hpre
  obtain ⟨b, xs, hP⟩ := lw_pre_spec hpre.2.2 hpre.2.1
  obtain ⟨k, o, h1, h2, h3, hQ⟩ := lw_walk l b xs p e ha hc hk s m args below hf ((Spec.applies_iff_loose hf).mp happ).1 hP trivial
  exact ⟨k, o, h1, h2, h3, hQ⟩
theorem lw_frame {s t : State} {o : Outcome} {args : Array Value} (h : Framed s o t [] 600000 7302249) :
    Framed s o t (fieldLocs frame_1_writes args s ++ arrayLocs frame_1_arrays args s ++ staticLocs frame_1_statics s) 600000 7302249 := h
theorem lw_limb (L : Cond) (hL : ∀ (args : Array Value) (s t : State), L.after args s (.returned (some (.int 1))) t = true) :
    ArmFor flags0 classFile x code maxLocals ret World_1 tables_1 room_1 Calls_1 rest_1 Pre_1
      (fun tb e a s o t => postC L tb e a s o t ∧ Framed s o t (fieldLocs frame_1_writes a s ++ arrayLocs frame_1_arrays a s ++ staticLocs frame_1_statics s) 600000 7302249) := by
  intro l _ _ _ p e ha hc hk s m args below hf hfit hheap happ hpre
  obtain ⟨k, o, h1, h2, h3, rfl, hF⟩ := lw_comes l p e ha hc hk s m args below hf hfit hheap happ hpre
  exact ⟨k, _, h1, h2, h3, hL args s _, lw_frame hF⟩
theorem i_vc : Claimed_1_1 ∧ Claimed_1_2 := ⟨lw_limb limb_1_1 (fun args s t => by simp [limb_1_1, Cond.after, Cond.holds, Cond.value]), lw_limb limb_1_2 (fun args s t => Cond.after_iff.mpr (by
  first | (rw [show limb_1_2 = Cond.eq .result (.int 1) from rfl, Cond.eq_ints (x := 1) (y := 1) rfl rfl]; simp; done) | (simp [limb_1_2, Cond.value, Term.eval]; done)))⟩
