section
/-! constructors: cells are made -/
def Bn.cs (X : Bn) (k n : Nat) : Bn := (X.1, X.2.1, (k, n, X.2.2.1.2.2.1, X.2.2.1.2.2.2), X.2.2.2)
def AL (X : Bn) : Prop := ∀ q : Nat, X.s.heap.size ≤ q → X.A q
def aoS (U : State) : Prop := va_AO "OnlySideways$Sheet" U
section AtNew
variable {X : Bn} {cc : ByteArray} {nL : Nat} {own : String} {Ts : List Cond} {fr lo : Nat} {ws : va_W} {pc : Nat} {lv : List (Nat × Value)} {st : List Value} {k n : Nat}
theorem Cx.cs (C : Cx X cc nL own Ts fr lo) (h1 : k ≤ X.R.cells) (h2 : n ≤ X.R.slots) : Cx (X.cs k n) cc nL own Ts fr lo := ⟨C.1, C.2.1, C.2.2.1, C.2.2.2.1, ⟨h1, h2⟩, C.2.2.2.2.2⟩
theorem at_new (C : Cx X cc nL own Ts fr lo) (hA : AL X) {K : String} {T : u_T} {N ci index : Nat} (hin : ∀ w ∈ u_ws K T N, w ∈ Ts) (ty0 : Nat → FieldType) (hty : ∀ k, k < N → parseFieldDescriptor (T k).2.2.1 = some (ty0 k)) (hcl : Cond.classLink own index K ∈ Ts) (hinst : Cond.instantiable K N ∈ Ts) (hini : Cond.initialized K ∈ Ts) (hc : vwCl[ci]? = some (K, T, N)) {fs : List Value} (hfs : ∀ j, j < N → defaultValue (ty0 j) = vp_V fs j) (h1 : k + 1 ≤ X.R.cells) (h2 : n + N ≤ X.R.slots) {ws' : Nat → va_W} (hw : ∀ q, ws ++ [(q, .inr (ci, fs))] = ws' q) (d : decode cc pc = .ok (.new index, 3)) (kk : ∀ q, At (X.cs (k + 1) (n + N)) nL (ws' q) (pc + 3) lv (.ref q :: st)) : At (X.cs k n) nL ws pc lv st :=
  fun H locs ls hP hD hS hl => va_new C.1.1 C.1.2.1 C.1.2.2.2.2 hin ty0 hty C.1.2.2.2.1 (C.1.2.2.2.2 _ hcl) (C.1.2.2.2.2 _ hinst) (C.1.2.2.2.2 _ hini) C.2.1 hP hD hS hA hc hfs h1 h2 d (fun q H1 hP1 hD1 hS1 => kk q H1 locs ls (by rw [← hw]; exact hP1) (by rw [← hw]; exact hD1) hS1 hl)
theorem at_newaI (C : Cx X cc nL own Ts fr lo) (hA : AL X) (harr : Cond.arrayClass .int ∈ Ts) {v : Int32} {N : Nat} (hv : ¬ v < 0) (hN : v.toNatClampNeg = N) (hb : N * 4 ≤ 536870912) (h1 : k + 1 ≤ X.R.cells) (h2 : n + N ≤ X.R.slots) {ws' : Nat → va_W} (hw : ∀ q, ws ++ [(q, .inl (X.E 0, N, .inl (fun _ => 0)))] = ws' q) (d : decode cc pc = .ok (.newarray .int, 2)) (kk : ∀ q, At (X.cs (k + 1) (n + N)) nL (ws' q) (pc + 2) lv (.ref q :: st)) : At (X.cs k n) nL ws pc lv (.int v :: st) := by
  intro H locs ls hP hD hS hl
  refine va_newa (atype := .int) (ty := .int) (a0 := (N, .inl (fun _ => 0))) C.1.1 C.1.2.1 (C.1.2.2.2.2 _ harr) rfl C.2.1 hP hD hS hA (fun cA => rfl) hv hN hb h1 h2 d (fun q cA H1 hK1 hP1 hD1 hS1 => ?_)
  have e1 : va_RA X.s cA .int := (hK1.2 4 (cA, .int) rfl).2
  have e2 : va_RA X.s (X.E 0) .int := (C.2.1.2 0 (X.E 0, .int) rfl).2
  obtain rfl : cA = X.E 0 := Option.some.inj ((va_nm_int e1).symm.trans (va_nm_int e2))
  rw [hw] at hP1 hD1
  exact kk q H1 locs ls hP1 hD1 hS1 hl
theorem at_newaJ (C : Cx X cc nL own Ts fr lo) (hA : AL X) (harr : Cond.arrayClass .long ∈ Ts) {v : Int32} {N : Nat} (hv : ¬ v < 0) (hN : v.toNatClampNeg = N) (hb : N * 8 ≤ 536870912) (h1 : k + 1 ≤ X.R.cells) (h2 : n + N ≤ X.R.slots) {ws' : Nat → va_W} (hw : ∀ q, ws ++ [(q, .inl (X.E 1, N, .inr (.inl (fun _ => 0))))] = ws' q) (d : decode cc pc = .ok (.newarray .long, 2)) (kk : ∀ q, At (X.cs (k + 1) (n + N)) nL (ws' q) (pc + 2) lv (.ref q :: st)) : At (X.cs k n) nL ws pc lv (.int v :: st) := by
  intro H locs ls hP hD hS hl
  refine va_newa (atype := .long) (ty := .long) (a0 := (N, .inr (.inl (fun _ => 0)))) C.1.1 C.1.2.1 (C.1.2.2.2.2 _ harr) rfl C.2.1 hP hD hS hA (fun cA => rfl) hv hN hb h1 h2 d (fun q cA H1 hK1 hP1 hD1 hS1 => ?_)
  have e1 : va_RA X.s cA .long := (hK1.2 4 (cA, .long) rfl).2
  have e2 : va_RA X.s (X.E 1) .long := (C.2.1.2 1 (X.E 1, .long) rfl).2
  obtain rfl : cA = X.E 1 := Option.some.inj ((va_nm_long e1).symm.trans (va_nm_long e2))
  rw [hw] at hP1 hD1
  exact kk q H1 locs ls hP1 hD1 hS1 hl
theorem at_newaZ (C : Cx X cc nL own Ts fr lo) (hA : AL X) (harr : Cond.arrayClass .boolean ∈ Ts) {v : Int32} {N : Nat} (hv : ¬ v < 0) (hN : v.toNatClampNeg = N) (hb : N * 1 ≤ 536870912) (h1 : k + 1 ≤ X.R.cells) (h2 : n + N ≤ X.R.slots) {ws' : Nat → va_W} (hw : ∀ q, ws ++ [(q, .inl (X.E 2, N, .inl (fun _ => 0)))] = ws' q) (d : decode cc pc = .ok (.newarray .boolean, 2)) (kk : ∀ q, At (X.cs (k + 1) (n + N)) nL (ws' q) (pc + 2) lv (.ref q :: st)) : At (X.cs k n) nL ws pc lv (.int v :: st) := by
  intro H locs ls hP hD hS hl
  refine va_newa (atype := .boolean) (ty := .boolean) (a0 := (N, .inl (fun _ => 0))) C.1.1 C.1.2.1 (C.1.2.2.2.2 _ harr) rfl C.2.1 hP hD hS hA (fun cA => rfl) hv hN hb h1 h2 d (fun q cA H1 hK1 hP1 hD1 hS1 => ?_)
  have e1 : va_RA X.s cA .boolean := (hK1.2 4 (cA, .boolean) rfl).2
  have e2 : va_RA X.s (X.E 2) .boolean := (C.2.1.2 2 (X.E 2, .boolean) rfl).2
  obtain rfl : cA = X.E 2 := Option.some.inj ((va_nm_boolean e1).symm.trans (va_nm_boolean e2))
  rw [hw] at hP1 hD1
  exact kk q H1 locs ls hP1 hD1 hS1 hl
theorem at_newq (C : Cx X cc nL own Ts fr lo) (hA : AL X) {index : Nat} (hcl : Cond.classLink own index "OnlySideways$Sheet" ∈ Ts) (hao : aoS X.s) {v : Int32} {N : Nat} (hv : ¬ v < 0) (hN : v.toNatClampNeg = N) (hb : N * 4 ≤ 536870912) (h1 : k + 1 ≤ X.R.cells) (h2 : n + N ≤ X.R.slots) {ws' : Nat → va_W} (hw : ∀ q, ws ++ [(q, .inl (X.E 3, N, .inr (.inr (.inr (.inr (fun _ => none))))))] = ws' q) (d : decode cc pc = .ok (.anewarray index, 3)) (kk : ∀ q, At (X.cs (k + 1) (n + N)) nL (ws' q) (pc + 3) lv (.ref q :: st)) : At (X.cs k n) nL ws pc lv (.int v :: st) := by
  intro H locs ls hP hD hS hl
  refine va_newq C.1.1 C.1.2.1 C.1.2.2.2.1 (C.1.2.2.2.2 _ hcl) hao C.2.1 hP hD hS hA hv hN hb h1 h2 d (fun q cA H1 hK1 hP1 hD1 hS1 => ?_)
  obtain ⟨_, _, _, _, _, e1⟩ : va_RA X.s cA (.object "OnlySideways$Sheet") := (hK1.2 4 (cA, .object "OnlySideways$Sheet") rfl).2
  obtain ⟨_, _, _, _, _, e2⟩ : va_RA X.s (X.E 3) (.object "OnlySideways$Sheet") := (C.2.1.2 3 (X.E 3, .object "OnlySideways$Sheet") rfl).2
  obtain rfl : cA = X.E 3 := Option.some.inj (e1.symm.trans e2)
  rw [hw] at hP1 hD1
  exact kk q H1 locs ls hP1 hD1 hS1 hl
theorem at_astq (C : Cx X cc nL own Ts fr lo) (q0 qk : Nat) {a v N : Nat} {vs : List Value} {f : Nat → Option Nat} (ha : ws[q0]? = some (a, .inl (X.E 3, N, .inr (.inr (.inr (.inr f)))))) (hv : ws[qk]? = some (v, .inr (3, vs))) {i : Int32} (hin : vp_in i N) {ws' : va_W} (hw : ws.set q0 (a, .inl (X.E 3, N, .inr (.inr (.inr (.inr (va_up f i.toNatClampNeg (some v))))))) = ws') (d : decode cc pc = .ok (.aastore, 1)) (h : At X nL ws' (pc + 1) lv st) : At X nL ws pc lv (.ref v :: .int i :: .ref a :: st) := by
  subst hw
  exact fun H locs ls hP hD hS hl => va_astq C.1.1 C.1.2.1 C.2.1 hP hD hS q0 3 qk 3 ha rfl hv rfl hin d (fun H1 locs1 hP1 hD1 hS1 => h H1 locs1 ls hP1 hD1 hS1 hl)
theorem at_putF (C : Cx X cc nL own Ts fr lo) (hi2 : X.meth.name = "<init>") {K : String} {T : u_T} {N ci index a : Nat} {fs : List Value} {v : Value} {ty : FieldType} (hin : ∀ w ∈ u_ws K T N, w ∈ Ts) (ty0 : Nat → FieldType) (hty : ∀ k, k < N → parseFieldDescriptor (T k).2.2.1 = some (ty0 k)) (hnm : ∀ a, a < N → ∀ b, b < N → a ≠ b → (T a).2.1 ≠ (T b).2.1) (q0 : Nat) (he : ws[q0]? = some (a, .inr (ci, fs))) (hc : vwCl[ci]? = some (K, T, N)) (k : Nat) (hk : k < N) (hlink : Cond.fieldLink own index (T k).1 (T k).2.1 (T k).2.2.1 ∈ Ts) (hfin : (T k).2.2.2 = true) (hdecl : (T k).1 = own) (hd : ty0 k = ty) (hn : narrow ty v = v) (hfit : fits ty v = true) (hl' : k < fs.length) {ws' : va_W} (hw : ws.set q0 (a, .inr (ci, fs.set k v)) = ws') (d : decode cc pc = .ok (.putfield index, 3)) (h : At X nL ws' (pc + 3) lv st) : At X nL ws pc lv (v :: .ref a :: st) := by
  subst hw
  exact fun H locs ls hP hD hS hl => va_putF C.1.1 C.1.2.1 C.1.2.2.2.2 hin ty0 hty hnm C.1.2.2.2.1 C.2.1 hP hD hS q0 he hc k hk (C.1.2.2.2.2 _ hlink) (fun _ h9 => h9) hfin hi2 hdecl (by rw [hty k hk, hd]) hn hfit hl' d (fun H1 locs1 hP1 hD1 hS1 => h H1 locs1 ls hP1 hD1 hS1 hl)
theorem at_objInit (C : Cx X cc nL own Ts fr lo) {idx a : Nat} (hlink : Cond.methodLink own idx objectInit ∈ Ts) (hinst : Cond.instanceMethod objectInit ∈ Ts) (hcode : Cond.code objectInit ⟨#[0xb1]⟩ 1 none ∈ Ts) (hf : 1 ≤ fr) (hlo : 20 ≤ lo) (hrm : (st.map fun v => v.category).sum ≤ 8) (d : decode cc pc = .ok (.invokespecial idx, 3)) (h : At X nL ws (pc + 3) lv st) : At X nL ws pc lv (.ref a :: st) := by
  intro H locs ls hP hD hS hl
  refine W.objInit C.1.1 C.1.2.1 C.1.2.2.2.1 (C.1.2.2.2.2 _ hlink) (C.1.2.2.2.2 _ hinst) (C.1.2.2.2.2 _ hcode) rfl (by rw [C.1.2.2.1]; exact hl.1) rfl d (Nat.le_trans hf C.2.2.2.1.1) ?_ (W.eq (g2 := F0 X.m (pc + 3) ls st) rfl (h H locs ls hP hD hS hl))
  refine Nat.le_trans ?_ (Nat.le_trans hlo C.2.2.2.1.2)
  show 2 * 0 + _ + 12 ≤ 20
  omega
end AtNew
/-- a constructor's contract: over w0 it makes mc cells of ms slots and leaves one of the worlds W1 -/
def QX (D : va_G) (w0 : va_W) (sz : Nat) (W1 : va_W → Prop) : Array Value → State → Outcome → State → Prop := fun _ st oc t => oc = .returned none ∧ ∃ w1, W1 w1 ∧ va_P D vwCl w1 t.heap ∧ va_D (va_A w0 sz) w1 ∧ va_F (va_A w0 sz) st t
def PX (D : va_G) (E : Nat → ClassId) (a1 a2 : Nat) (w0 : va_W) (sz : Nat) : State → Prop := fun U => U.heap.size = sz ∧ va_P D vwCl w0 U.heap ∧ va_K D vwCl (tyE E) U ∧ va_D (fun _ => True) w0 ∧ NS a1 a2 (va_A w0 sz) U U.heap ∧ aoS U
def Fx (l : Launch) (D : va_G) (E : Nat → ClassId) (a1 a2 : Nat) (y : MethodName) (ws : List Cond) (fr lo mc ms : Nat) (As : List Value) (w0 : va_W) (W1 : va_W → Prop) : Prop := ∀ sz, Met l y ws { frames := fr, cells := mc, slots := ms, locals := lo } (va_Pc As (PX D E a1 a2 w0 sz)) (QX D w0 sz W1) mc ms (va_A w0 sz)
theorem PX.blind {D : va_G} {E : Nat → ClassId} {a1 a2 sz : Nat} {w0 : va_W} {As : List Value} : FrameBlind (va_Pc As (PX D E a1 a2 w0 sz)) := by
  intro a U g mk q
  obtain ⟨q0, qs, qP, qK, qD, qN, qA⟩ := q
  exact ⟨q0, qs, qP, va_K.moved (u := U) (U := U.calling g mk a) (Vm.Alike.refl U.vm) qK, qD, NS.same (s := U) (U := U.calling g mk a) rfl qN, va_AO.moved (u := U) (U := U.calling g mk a) (Vm.Alike.refl U.vm) qA⟩
def EndX (X : Bn) (W1 : va_W → Prop) (mc ms : Nat) : Prop := X.meth.sig.returnType = none ∧ ∃ (w0 : va_W) (sz : Nat), X.Q = MQ X.below (QX X.D w0 sz W1) X.args X.s mc ms (va_A w0 sz) ∧ X.A = va_A w0 sz
theorem Fx.of {l : Launch} {D : va_G} {E : Nat → ClassId} {a1 a2 : Nat} {y : MethodName} {ws ws' : List Cond} {fr lo mc ms : Nat} {As : List Value} {w0 : va_W} {W1 : va_W → Prop} {cc : ByteArray} {maxL : Nat} {own : String}
    (hy : plainName y.cls = true) (hw : ws = Cond.code y cc maxL none :: ws') (hcls : y.cls = own) (hyn : y.name = "<init>") (hlen : (lg_sl As).length ≤ maxL)
    (body : ∀ X : Bn, X.l = l → X.D = D → X.E = E → X.a1 = a1 → X.a2 = a2 → X.R.cells = mc → X.R.slots = ms → Cx X cc maxL own ws fr lo → AL X → X.meth.name = "<init>" → aoS X.s → EndX X W1 mc ms → At (X.cs 0 0) maxL w0 0 (lv_args 0 As) []) : Fx l D E a1 a2 y ws fr lo mc ms As w0 W1 := by
  intro sz
  refine Met.ofW (cc := cc) (maxL := maxL) (ret := none) hy hw ?_
  intro p e s m args below meth c s₁ B hml hv
  obtain ⟨rfl, hsz, hP, hK, hD, hN, hao⟩ := hv
  subst hsz
  have hts := atoms_spec (ws := ws) B.pre
  have hown : s.vm.findClass own = some m.cls := by rw [← hcls]; exact findClass_of_methodNamed B.named
  have hin : meth.name = "<init>" := by rw [← hyn]; exact (name_of_methodNamed B.named B.method).1
  have hl := lv_entry As (n := maxL) hlen
  rw [lg_entry_eq]
  have hD2 : va_D (va_A w0 s.heap.size) w0 := ⟨hD.1, fun k q hk => Or.inl ⟨k, q.2, hk⟩⟩
  exact body ((p, l, e, (headSpec ws { frames := fr, cells := mc, slots := ms, locals := lo }).room, s), (m, As.toArray, below, meth, c), (0, 0, MQ below (QX D w0 s.heap.size W1) As.toArray s mc ms (va_A w0 s.heap.size), va_A w0 s.heap.size), (D, E, a1, a2)) rfl rfl rfl rfl rfl rfl rfl ⟨⟨B.exec, B.bytes, hml, hown, hts⟩, hK, hN, ⟨Nat.le_refl _, Nat.le_refl _⟩, ⟨Nat.zero_le _, Nat.zero_le _⟩, B.notSynchronized⟩ (fun q h => Or.inr h) hin hao ⟨B.returns, w0, s.heap.size, rfl, rfl⟩ s.heap [] _ hP hD2 va_S.rf hl
section AtNew2
variable {X : Bn} {cc : ByteArray} {nL : Nat} {own : String} {Ts : List Cond} {fr lo : Nat} {ws : va_W} {pc : Nat} {lv : List (Nat × Value)} {k n : Nat}
theorem at_vretX (C : Cx X cc nL own Ts fr lo) {W1 : va_W → Prop} {mc ms : Nat} (hE : EndX X W1 mc ms) (h1 : k ≤ mc) (h2 : n ≤ ms) (hw : W1 ws) (d : decode cc pc = .ok (.return_, 1)) : At (X.cs k n) nL ws pc lv [] := by
  intro H locs ls hP hD hS hl
  obtain ⟨hr, w0, sz, hQ, hAe⟩ := hE
  show W X.p X.l X.e X.R X.s X.m X.args X.below X.meth X.c H locs k n X.Q (F0 X.m pc ls [])
  rw [hQ]
  have hD' : va_D (va_A w0 sz) ws := by rw [← hAe]; exact hD
  have hS' : va_S (va_A w0 sz) X.s.heap H locs := by rw [← hAe]; exact hS
  refine W.widen h1 h2 ?_
  exact W.vret C.1.1 C.1.2.1 hr (fun t ht hW => ⟨rfl, ws, hw, by rw [ht]; exact hP, hD', hS'.F ht⟩) (fun q hq => hS'.2.2 q hq) d C.2.2.2.2.2
theorem va_D.join {A B : Nat → Prop} {w1 w2 : va_W} (h1 : va_D A w1) (h2 : va_D B w2) (hBA : ∀ q, B q → A q) (hno : ∀ (k : Nat) (z : Nat × va_E), w1[k]? = some z → ¬ B z.1) : va_D A (w1 ++ w2) := by
  have key : ∀ (i : Nat) (p : Nat × va_E), (w1 ++ w2)[i]? = some p → (i < w1.length ∧ w1[i]? = some p) ∨ (w1.length ≤ i ∧ w2[i - w1.length]? = some p) := by
    intro i p hi
    by_cases hl : i < w1.length
    · rw [List.getElem?_append_left hl] at hi; exact Or.inl ⟨hl, hi⟩
    · rw [List.getElem?_append_right (by omega)] at hi; exact Or.inr ⟨by omega, hi⟩
  refine ⟨fun i j p q hi hj e => ?_, fun i p hi => ?_⟩
  · rcases key i p hi with ⟨a1, a2⟩ | ⟨a1, a2⟩ <;> rcases key j q hj with ⟨b1, b2⟩ | ⟨b1, b2⟩
    · exact h1.1 i j p q a2 b2 e
    · exact absurd (by rw [e]; exact h2.2 _ _ b2) (hno i p a2)
    · exact absurd (by rw [← e]; exact h2.2 _ _ a2) (hno j q b2)
    · have := h2.1 _ _ p q a2 b2 e
      omega
  · rcases key i p hi with ⟨a1, a2⟩ | ⟨a1, a2⟩
    · exact h1.2 i p a2
    · exact hBA _ (h2.2 _ p a2)
/-- a constructor's call, once it runs -/
theorem at_runX {w0 wl : va_W} {W1 : va_W → Prop} {mc ms : Nat} {stk rest : List Value} {arr : Array Value} (C : Cx X cc nL own Ts fr lo) (hA : AL X)
    (hr : ∀ (H : Heap) (locs : List Loc) (ls : Array Slot), va_P X.D vwCl w0 H → va_D (fun _ => True) w0 → NS X.a1 X.a2 (va_A w0 H.size) X.s H → lv_has ls nL lv → va_Run X.p X.l X.e X.R X.s X.m X.args X.below X.meth X.c H locs k n mc ms (F0 X.m pc ls stk) rest (QX X.D w0 H.size W1 arr) (va_A w0 H.size))
    (kk : ∀ w1, W1 w1 → At (X.cs (k + mc) (n + ms)) nL (wl ++ w1) (pc + 3) lv rest) : At (X.cs k n) nL (wl ++ w0) pc lv stk := by
  intro H locs ls hP hD hS hl T hT XX
  have hsub : ∀ q, va_A w0 H.size q → X.A q := by
    rintro q (⟨i, e, h⟩ | h)
    · exact hD.appR.2 i (q, e) h
    · exact hA q (Nat.le_trans hS.1 h)
  have hN : NS X.a1 X.a2 X.A X.s H := C.2.2.1.kept (fun a h1 h2 => hS.2.1 a h1 h2)
  obtain ⟨v, st₀, t, T', L, h0, X', hL, e1, e2, ⟨hv, w1, hw1, hP1, hD1, hz, hk⟩, stp⟩ := hr H locs ls hP.appR ⟨hD.appR.1, fun _ _ _ => trivial⟩ (hN.narrow hsub) hl T hT XX
  cases hv
  rw [h0] at hz hk
  have hnoW : ∀ (i : Nat) (z : Nat × va_E), wl[i]? = some z → ¬ va_A w0 H.size z.1 := by
    rintro i z hi (⟨j, e, h⟩ | h)
    · exact hD.apartL hi ⟨j, e, h⟩
    · exact absurd (hP.appL i z hi).lt (Nat.not_lt.mpr h)
  have hPl : va_P X.D vwCl wl t.heap := va_P.kept hP.appL (fun i q hq => hk q.1 (hP.appL i q hq).lt (hnoW i q hq))
  have hDn : va_D X.A (wl ++ w1) := va_D.join hD.appL hD1 hsub hnoW
  have hS' : va_S X.A X.s.heap t.heap (locs ++ L) := ⟨Nat.le_trans hS.1 hz, fun q h1 h2 => by rw [hk q (Nat.lt_of_lt_of_le h1 hS.1) (fun z => h2 (hsub q z))]; exact hS.2.1 q h1 h2, fun q hq => by
      rcases List.mem_append.mp hq with h | h
      · exact hS.2.2 q h
      · exact hsub _ (hL q h)⟩
  obtain ⟨t2, b1, b2⟩ := kk w1 hw1 t.heap (locs ++ L) ls (hPl.app hP1) hDn hS' hl T' e1 X'
  exact ⟨t2, stp t2 b1, b2⟩
theorem at_callI (C : Cx X cc nL own Ts fr lo) (hA : AL X) (hao : aoS X.s) {y : MethodName} {wsy ws'' : List Cond} {fr' lo' mc ms b : Nat} {As : List Value} {w0 : va_W} (wl : va_W) {W1 : va_W → Prop} {rest stk : List Value} {bytes : ByteArray} {maxL index : Nat} (np : Nat)
    (f : Fx X.l X.D X.E X.a1 X.a2 y wsy fr' lo' mc ms (.ref b :: As) w0 W1) (hG : GoodIn Ts wsy) (hw : wsy = Cond.code y bytes maxL none :: ws'') (hini : Cond.initialized y.cls ∈ Ts) (hlk : Cond.methodLink own index y ∈ Ts) (hinst : Cond.instanceMethod y ∈ Ts) (hy1 : y.name = "<init>")
    (hd : y.cls ≠ "java/lang/invoke/MethodHandle" ∧ y.cls ≠ "java/lang/invoke/VarHandle" ∧ (parseMethodDescriptor y.desc).map (fun d => d.parameters.length) = some np) (hR : Nat.ble (fr' + 1) fr = true ∧ Nat.ble (8 + (maxL + 11) + lo') lo = true) (hn : As.length = np) (hst : stk = As.reverse ++ .ref b :: rest) (hrm : (rest.map fun v => v.category).sum ≤ 8)
    (h1 : k + mc ≤ X.R.cells) (h2 : n + ms ≤ X.R.slots) (hws : ws = wl ++ w0) (d : decode cc pc = .ok (.invokespecial index, 3)) (kk : ∀ w1, W1 w1 → At (X.cs (k + mc) (n + ms)) nL (wl ++ w1) (pc + 3) lv rest) : At (X.cs k n) nL ws pc lv stk := by
  subst hws
  refine at_runX (arr := (Value.ref b :: As).toArray) C hA (fun H locs ls hP hD hN hl => ?_) kk
  exact va_runI C.1 (f H.size) (cwI np C.1.2.2.2.2 hG hw rfl rfl (C.1.2.2.2.2 _ hini) (C.1.2.2.2.2 _ hlk) (C.1.2.2.2.2 _ hinst) hy1 hd ⟨Nat.le_trans (Nat.le_of_ble_eq_true hR.1) C.2.2.2.1.1, Nat.le_trans (Nat.le_of_ble_eq_true hR.2) C.2.2.2.1.2⟩)
    ⟨PX.blind, fun U hU hW => ⟨rfl, by rw [hU], by rw [hU]; exact hP, va_K.moved hW.alike C.2.1, hD, by rw [hU]; exact hN.warm hW, va_AO.moved hW.alike hao⟩⟩ rfl hn hl.1 hst (lv_room hrm) d ⟨h1, h2⟩
theorem at_callIN (C : Cx X cc nL own Ts fr lo) (hA : AL X) (hao : aoS X.s) {y : MethodName} {wsy ws'' : List Cond} {fr' lo' mc ms b : Nat} {As : List Value} {w0 : va_W} (wl : va_W) {W1 : va_W → Prop} {rest stk : List Value} {bytes : ByteArray} {maxL index : Nat} {host : String} (np : Nat)
    (f : Fx X.l X.D X.E X.a1 X.a2 y wsy fr' lo' mc ms (.ref b :: As) w0 W1) (hG : GoodIn Ts wsy) (hw : wsy = Cond.code y bytes maxL none :: ws'') (hini : Cond.initialized y.cls ∈ Ts) (hlk : Cond.methodLinkNest own index y host ∈ nestW) (hinst : Cond.instanceMethod y ∈ Ts) (hy1 : y.name = "<init>")
    (hd : y.cls ≠ "java/lang/invoke/MethodHandle" ∧ y.cls ≠ "java/lang/invoke/VarHandle" ∧ (parseMethodDescriptor y.desc).map (fun d => d.parameters.length) = some np) (hR : Nat.ble (fr' + 1) fr = true ∧ Nat.ble (8 + (maxL + 11) + lo') lo = true) (hn : As.length = np) (hst : stk = As.reverse ++ .ref b :: rest) (hrm : (rest.map fun v => v.category).sum ≤ 8)
    (h1 : k + mc ≤ X.R.cells) (h2 : n + ms ≤ X.R.slots) (hws : ws = wl ++ w0) (d : decode cc pc = .ok (.invokespecial index, 3)) (kk : ∀ w1, W1 w1 → At (X.cs (k + mc) (n + ms)) nL (wl ++ w1) (pc + 3) lv rest) : At (X.cs k n) nL ws pc lv stk := by
  subst hws
  refine at_runX (arr := (Value.ref b :: As).toArray) C hA (fun H locs ls hP hD hN hl => ?_) kk
  exact va_runIN C.1 (f H.size) ⟨va_cnB np C.1.2.2.2.2 hG hw rfl rfl (C.2.2.1.1 _ hlk) (C.1.2.2.2.2 _ hini) hd ⟨Nat.le_trans (Nat.le_of_ble_eq_true hR.1) C.2.2.2.1.1, Nat.le_trans (Nat.le_of_ble_eq_true hR.2) C.2.2.2.1.2⟩, hy1, C.1.2.2.2.2 _ hinst⟩
    ⟨PX.blind, fun U hU hW => ⟨rfl, by rw [hU], by rw [hU]; exact hP, va_K.moved hW.alike C.2.1, hD, by rw [hU]; exact hN.warm hW, va_AO.moved hW.alike hao⟩⟩ rfl hn hl.1 hst (lv_room hrm) d ⟨h1, h2⟩
end AtNew2
end
