/-! ===== surroundings of a body as one value; At: the machine at a pc with a world, locals and a stack comes to its end ===== -/
def Bn : Type := (Program × Launch × Env × Room × State) × (MethodId × Array Value × List Frame × Method × Code) × (Nat × Nat × (State → Prop) × (Nat → Prop)) × (va_G × (Nat → ClassId) × Nat × Nat)
def Bn.p (X : Bn) : Program := X.1.1
def Bn.l (X : Bn) : Launch := X.1.2.1
def Bn.e (X : Bn) : Env := X.1.2.2.1
def Bn.R (X : Bn) : Room := X.1.2.2.2.1
def Bn.s (X : Bn) : State := X.1.2.2.2.2
def Bn.m (X : Bn) : MethodId := X.2.1.1
def Bn.args (X : Bn) : Array Value := X.2.1.2.1
def Bn.below (X : Bn) : List Frame := X.2.1.2.2.1
def Bn.meth (X : Bn) : Method := X.2.1.2.2.2.1
def Bn.c (X : Bn) : Code := X.2.1.2.2.2.2
def Bn.cells (X : Bn) : Nat := X.2.2.1.1
def Bn.slots (X : Bn) : Nat := X.2.2.1.2.1
def Bn.Q (X : Bn) : State → Prop := X.2.2.1.2.2.1
def Bn.A (X : Bn) : Nat → Prop := X.2.2.1.2.2.2
def Bn.D (X : Bn) : va_G := X.2.2.2.1
def Bn.E (X : Bn) : Nat → ClassId := X.2.2.2.2.1
def Bn.a1 (X : Bn) : Nat := X.2.2.2.2.2.1
def Bn.a2 (X : Bn) : Nat := X.2.2.2.2.2.2
/-- the array classes -/
def tyE (E : Nat → ClassId) : List (ClassId × FieldType) := [(E 0, .int), (E 1, .long), (E 2, .boolean), (E 3, .object "OnlySideways$Sheet")]
/-- the links between nest mates -/
def nestW : List Cond := [.methodLinkNest RX0 23 yX7_within RX7, .methodLinkNest RX1 43 yX7_within RX7, .methodLinkNest RX4 35 yX7_within RX7, .methodLinkNest RX6 40 yX7_within RX7, .methodLinkNest RX7 23 yX3_init RX7, .methodLinkNest RX7 30 yX1_init RX7, .methodLinkNest RX7 37 yX6_init RX7, .methodLinkNest RX7 44 yX0_init RX7, .methodLinkNest RX7 55 yX4_init RX7]
def rowSt (j : Nat) : Int32 := if j = 0 then -1 else if j = 2 then 1 else 0
def colSt (j : Nat) : Int32 := if j = 1 then 1 else if j = 3 then -1 else 0
/-- the links between nest mates, and the two static arrays -/
def NS (a1 a2 : Nat) (A : Nat → Prop) (U : State) (H : Heap) : Prop :=
  (∀ w ∈ nestW, va_Nw w U) ∧ va_Z RX1 "ROW_STEPS" "[I" (.ref a1) A U H ∧ va_Z RX1 "COLUMN_STEPS" "[I" (.ref a2) A U H ∧ va_T .int a1 4 (fun j => .int (rowSt j)) A U H ∧ va_T .int a2 4 (fun j => .int (colSt j)) A U H
theorem nestW_form : ∀ w ∈ nestW, ∃ a i x h, w = Cond.methodLinkNest a i x h := by
  intro w hw
  simp only [nestW, List.mem_cons, List.not_mem_nil, or_false] at hw
  rcases hw with h | h | h | h | h | h | h | h | h <;> exact ⟨_, _, _, _, h⟩
theorem NS.warm {a1 a2 : Nat} {A : Nat → Prop} {s U : State} {H : Heap} (hW : s.WarmedH U.vm) (h : NS a1 a2 A s H) : NS a1 a2 A U H := by
  obtain ⟨h1, h2, h3, h4, h5⟩ := h
  refine ⟨fun w hw => ?_, h2.moved hW.alike, h3.moved hW.alike, h4.moved hW.alike, h5.moved hW.alike⟩
  obtain ⟨a, i, x, hh, rfl⟩ := nestW_form w hw
  exact va_Nw.warmM hW (h1 _ hw)
theorem NS.same {a1 a2 : Nat} {A : Nat → Prop} {s U : State} {H : Heap} (hv : s.vm = U.vm) (h : NS a1 a2 A s H) : NS a1 a2 A U H := by
  obtain ⟨h1, h2, h3, h4, h5⟩ := h
  have hA : s.vm.Alike U.vm := by rw [hv]; exact Vm.Alike.refl U.vm
  refine ⟨fun w hw => ?_, h2.moved hA, h3.moved hA, h4.moved hA, h5.moved hA⟩
  obtain ⟨a, i, x, hh, rfl⟩ := nestW_form w hw
  exact va_Nw.same rfl hv (h1 _ hw)
theorem NS.kept {a1 a2 : Nat} {A : Nat → Prop} {U : State} {H H1 : Heap} (h : NS a1 a2 A U H) (hq : ∀ a : Nat, a < H.size → ¬ A a → H1[a]? = H[a]?) : NS a1 a2 A U H1 :=
  ⟨h.1, h.2.1.kept hq, h.2.2.1.kept hq, h.2.2.2.1.kept hq, h.2.2.2.2.kept hq⟩
theorem NS.narrow {a1 a2 : Nat} {A B : Nat → Prop} {U : State} {H : Heap} (h : NS a1 a2 A U H) (hAB : ∀ q, B q → A q) : NS a1 a2 B U H :=
  ⟨h.1, h.2.1.narrow hAB, h.2.2.1.narrow hAB, h.2.2.2.1.narrow hAB, h.2.2.2.2.narrow hAB⟩
/-- what the surroundings know: the machine, the code, the words, the classes, the statics, the room for calls -/
def Cx (X : Bn) (cc : ByteArray) (nL : Nat) (own : String) (Ts : List Cond) (fr lo : Nat) : Prop :=
  (X.p.tables.exec = Jvm.exec ∧ X.c.code = cc ∧ X.c.maxLocals = nL ∧ X.s.vm.findClass own = some X.m.cls ∧ ∀ w ∈ Ts, w.before X.args X.s = true) ∧ va_K X.D vwCl (tyE X.E) X.s ∧ NS X.a1 X.a2 X.A X.s X.s.heap ∧ (fr ≤ X.R.frames ∧ lo ≤ X.R.locals) ∧ (X.cells ≤ X.R.cells ∧ X.slots ≤ X.R.slots) ∧ X.meth.locks = false
def At (X : Bn) (nL : Nat) (ws : va_W) (pc : Nat) (lv : List (Nat × Value)) (st : List Value) : Prop :=
  ∀ (H : Heap) (locs : List Loc) (ls : Array Slot), va_P X.D vwCl ws H → va_D X.A ws → va_S X.A X.s.heap H locs → lv_has ls nL lv → W X.p X.l X.e X.R X.s X.m X.args X.below X.meth X.c H locs X.cells X.slots X.Q (F0 X.m pc ls st)
/-- the addresses of a world -/
def inA (w : va_W) : Nat → Prop := fun q => ∃ (k : Nat) (e : va_E), w[k]? = some (q, e)
def sameAd (w0 w1 : va_W) : Prop := w1.map Prod.fst = w0.map Prod.fst
theorem sameAd.at {w0 w1 : va_W} (h : sameAd w0 w1) {k q : Nat} {e : va_E} (hk : w1[k]? = some (q, e)) : ∃ e', w0[k]? = some (q, e') := by
  have h1 : (w1.map Prod.fst)[k]? = some q := by rw [List.getElem?_map, hk]; rfl
  rw [h, List.getElem?_map] at h1
  cases h2 : w0[k]? with
  | none => rw [h2] at h1; cases h1
  | some z =>
    rw [h2] at h1
    obtain ⟨z1, z2⟩ := z
    cases h1
    exact ⟨z2, rfl⟩
theorem va_D.same {A : Nat → Prop} {w0 w1 : va_W} (hD : va_D A w0) (h : sameAd w0 w1) : va_D A w1 := by
  refine ⟨fun i j p q hi hj e => ?_, fun k q hk => ?_⟩
  · obtain ⟨p1, p2⟩ := p
    obtain ⟨q1, q2⟩ := q
    obtain ⟨e1, h1⟩ := h.at hi
    obtain ⟨e2, h2⟩ := h.at hj
    exact hD.1 i j _ _ h1 h2 e
  · obtain ⟨q1, q2⟩ := q
    obtain ⟨e1, h1⟩ := h.at hk
    exact hD.2 k (q1, e1) h1
/-- a contract's end: it returns v, the world is w1, outside of w0 nothing has changed -/
def QW (D : va_G) (w0 w1 : va_W) (v : Option Value) : Array Value → State → Outcome → State → Prop := fun _ st oc t => oc = .returned v ∧ va_P D vwCl w1 t.heap ∧ va_F (inA w0) st t
def PW (D : va_G) (E : Nat → ClassId) (a1 a2 : Nat) (w0 : va_W) : State → Prop := fun U => va_P D vwCl w0 U.heap ∧ va_K D vwCl (tyE E) U ∧ va_D (fun _ => True) w0 ∧ NS a1 a2 (inA w0) U U.heap
/-- A CONTRACT: called with As over the world w0 (which holds all that it touches), y returns v and leaves the world w1 -/
def Fn (l : Launch) (D : va_G) (E : Nat → ClassId) (a1 a2 : Nat) (y : MethodName) (ws : List Cond) (fr lo : Nat) (As : List Value) (w0 : va_W) (v : Option Value) (w1 : va_W) : Prop :=
  sameAd w0 w1 ∧ Met l y ws { frames := fr, cells := 0, slots := 0, locals := lo } (va_Pc As (PW D E a1 a2 w0)) (QW D w0 w1 v) 0 0 (inA w0)
theorem PW.blind {D : va_G} {E : Nat → ClassId} {a1 a2 : Nat} {w0 : va_W} {As : List Value} : FrameBlind (va_Pc As (PW D E a1 a2 w0)) := by
  intro a U g mk q
  obtain ⟨q0, qP, qK, qD, qN⟩ := q
  exact ⟨q0, qP, va_K.moved (u := U) (U := U.calling g mk a) (Vm.Alike.refl U.vm) qK, qD, NS.same (s := U) (U := U.calling g mk a) rfl qN⟩
/-- how a body ends -/
def Ends (X : Bn) (ret : Option FieldType) (v : Option Value) (w : va_W) : Prop :=
  X.meth.sig.returnType = ret ∧ ∃ w0 : va_W, X.Q = MQ X.below (QW X.D w0 w v) X.args X.s X.cells X.slots (inA w0) ∧ X.A = inA w0
theorem Fn.of {l : Launch} {D : va_G} {E : Nat → ClassId} {a1 a2 : Nat} {y : MethodName} {ws ws' : List Cond} {fr lo : Nat} {As : List Value} {w0 w1 : va_W} {v : Option Value} {cc : ByteArray} {maxL : Nat} {ret : Option FieldType} {own : String}
    (hy : plainName y.cls = true) (hw : ws = Cond.code y cc maxL ret :: ws') (hcls : y.cls = own) (hsame : sameAd w0 w1) (hlen : (lg_sl As).length ≤ maxL)
    (body : ∀ X : Bn, X.l = l → X.D = D → X.E = E → X.a1 = a1 → X.a2 = a2 → Cx X cc maxL own ws fr lo → Ends X ret v w1 → At X maxL w0 0 (lv_args 0 As) []) : Fn l D E a1 a2 y ws fr lo As w0 v w1 := by
  refine ⟨hsame, Met.ofW (cc := cc) (maxL := maxL) (ret := ret) hy hw ?_⟩
  intro p e s m args below meth c s₁ B hml hv
  obtain ⟨rfl, hP, hK, hD, hN⟩ := hv
  have hts := atoms_spec (ws := ws) B.pre
  have hown : s.vm.findClass own = some m.cls := by rw [← hcls]; exact findClass_of_methodNamed B.named
  have hl := lv_entry As (n := maxL) hlen
  rw [lg_entry_eq]
  have hD2 : va_D (inA w0) w0 := ⟨hD.1, fun k q hk => ⟨k, q.2, hk⟩⟩
  exact body ((p, l, e, (headSpec ws { frames := fr, cells := 0, slots := 0, locals := lo }).room, s), (m, As.toArray, below, meth, c), (0, 0, MQ below (QW D w0 w1 v) As.toArray s 0 0 (inA w0), inA w0), (D, E, a1, a2)) rfl rfl rfl rfl rfl ⟨⟨B.exec, B.bytes, hml, hown, hts⟩, hK, hN, ⟨Nat.le_refl _, Nat.le_refl _⟩, ⟨Nat.zero_le _, Nat.zero_le _⟩, B.notSynchronized⟩ ⟨B.returns, w0, rfl, rfl⟩ s.heap [] _ hP hD2 va_S.rf hl
