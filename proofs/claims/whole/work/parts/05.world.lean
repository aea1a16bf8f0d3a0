section AtWorld
variable {X : Bn} {cc : ByteArray} {nL : Nat} {own : String} {Ts : List Cond} {fr lo : Nat} {ws ws' : va_W} {pc : Nat} {lv : List (Nat × Value)} {st : List Value}
theorem at_if_ne (C : Cx X cc nL own Ts fr lo) {x : Int32} {off : Int} {tgt : Nat} (d : decode cc pc = .ok (.ifCond .ne off, 3)) (ht : (pc : Int) + off = (tgt : Int)) (kt : ¬ x = 0 → At X nL ws tgt lv st) (kf : x = 0 → At X nL ws (pc + 3) lv st) : At X nL ws pc lv (.int x :: st) := fun H locs ls hP hD hS hl => lv_if_ne C.1.1 C.1.2.1 d ht (fun h => kt h H locs ls hP hD hS hl) (fun h => kf h H locs ls hP hD hS hl)
theorem at_icmp_ne (C : Cx X cc nL own Ts fr lo) {x y : Int32} {off : Int} {tgt : Nat} (d : decode cc pc = .ok (.if_icmp .ne off, 3)) (ht : (pc : Int) + off = (tgt : Int)) (kt : ¬ x = y → At X nL ws tgt lv st) (kf : x = y → At X nL ws (pc + 3) lv st) : At X nL ws pc lv (.int y :: .int x :: st) := fun H locs ls hP hD hS hl => lv_icmp_ne C.1.1 C.1.2.1 d ht (fun h => kt h H locs ls hP hD hS hl) (fun h => kf h H locs ls hP hD hS hl)
theorem at_get (C : Cx X cc nL own Ts fr lo) {K : String} {T : u_T} {N ci index a : Nat} {fs : List Value} {v : Value} (hin : ∀ w ∈ u_ws K T N, w ∈ Ts) (q0 : Nat) (he : ws[q0]? = some (a, .inr (ci, fs))) (hc : vwCl[ci]? = some (K, T, N)) (k : Nat) (hk : k < N) (hlink : Cond.fieldLink own index (T k).1 (T k).2.1 (T k).2.2.1 ∈ Ts) (hv : fs[k]? = some v) (d : decode cc pc = .ok (.getfield index, 3)) (h : At X nL ws (pc + 3) lv (v :: st)) : At X nL ws pc lv (.ref a :: st) :=
  fun H locs ls hP hD hS hl => va_get C.1.1 C.1.2.1 C.1.2.2.2.2 hin C.1.2.2.2.1 C.2.1 hP q0 he hc k hk (C.1.2.2.2.2 _ hlink) (fun _ h9 => h9) hv d (h H locs ls hP hD hS hl)
theorem at_put (C : Cx X cc nL own Ts fr lo) {K : String} {T : u_T} {N ci index a : Nat} {fs : List Value} {v : Value} {ty : FieldType} (hin : ∀ w ∈ u_ws K T N, w ∈ Ts) (ty0 : Nat → FieldType) (hty : ∀ k, k < N → parseFieldDescriptor (T k).2.2.1 = some (ty0 k)) (hnm : ∀ a, a < N → ∀ b, b < N → a ≠ b → (T a).2.1 ≠ (T b).2.1) (q0 : Nat) (he : ws[q0]? = some (a, .inr (ci, fs))) (hc : vwCl[ci]? = some (K, T, N)) (k : Nat) (hk : k < N) (hlink : Cond.fieldLink own index (T k).1 (T k).2.1 (T k).2.2.1 ∈ Ts) (hfin : (T k).2.2.2 = false) (hd : ty0 k = ty) (hn : narrow ty v = v) (hfit : fits ty v = true) (hl' : k < fs.length) (hw : ws.set q0 (a, .inr (ci, fs.set k v)) = ws') (d : decode cc pc = .ok (.putfield index, 3)) (h : At X nL ws' (pc + 3) lv st) : At X nL ws pc lv (v :: .ref a :: st) := by
  subst hw
  exact fun H locs ls hP hD hS hl => va_put C.1.1 C.1.2.1 C.1.2.2.2.2 hin ty0 hty hnm C.1.2.2.2.1 C.2.1 hP hD hS q0 he hc k hk (C.1.2.2.2.2 _ hlink) (fun _ h9 => h9) hfin (by rw [hty k hk, hd]) hn hfit hl' d (fun H1 locs1 hP1 hD1 hS1 => h H1 locs1 ls hP1 hD1 hS1 hl)
theorem at_iald (C : Cx X cc nL own Ts fr lo) (q0 : Nat) {a n : Nat} {f : Nat → Int32} (ha : ws[q0]? = some (a, .inl (X.E 0, n, .inl f))) {i : Int32} (hin : vp_in i n) (d : decode cc pc = .ok (.iaload, 1)) (h : At X nL ws (pc + 1) lv (.int (f i.toNatClampNeg) :: st)) : At X nL ws pc lv (.int i :: .ref a :: st) :=
  fun H locs ls hP hD hS hl => va_iald C.1.1 C.1.2.1 C.2.1 hP q0 0 ha rfl hin d (h H locs ls hP hD hS hl)
theorem at_zald (C : Cx X cc nL own Ts fr lo) (q0 : Nat) {a n : Nat} {f : Nat → Int32} (ha : ws[q0]? = some (a, .inl (X.E 2, n, .inl f))) {i : Int32} (hin : vp_in i n) (d : decode cc pc = .ok (.baload, 1)) (h : At X nL ws (pc + 1) lv (.int (f i.toNatClampNeg) :: st)) : At X nL ws pc lv (.int i :: .ref a :: st) :=
  fun H locs ls hP hD hS hl => va_zald C.1.1 C.1.2.1 C.2.1 hP q0 2 ha rfl hin d (h H locs ls hP hD hS hl)
theorem at_lald (C : Cx X cc nL own Ts fr lo) (q0 : Nat) {a n : Nat} {f : Nat → Int64} (ha : ws[q0]? = some (a, .inl (X.E 1, n, .inr (.inl f)))) {i : Int32} (hin : vp_in i n) (d : decode cc pc = .ok (.laload, 1)) (h : At X nL ws (pc + 1) lv (.long (f i.toNatClampNeg) :: st)) : At X nL ws pc lv (.int i :: .ref a :: st) :=
  fun H locs ls hP hD hS hl => va_lald C.1.1 C.1.2.1 C.2.1 hP q0 1 ha rfl hin d (h H locs ls hP hD hS hl)
theorem at_aald (C : Cx X cc nL own Ts fr lo) (q0 : Nat) {a n : Nat} {f : Nat → Option Nat} (ha : ws[q0]? = some (a, .inl (X.E 3, n, .inr (.inr (.inr (.inr f)))))) {i : Int32} (hin : vp_in i n) (d : decode cc pc = .ok (.aaload, 1)) (h : At X nL ws (pc + 1) lv (va_rf (f i.toNatClampNeg) :: st)) : At X nL ws pc lv (.int i :: .ref a :: st) :=
  fun H locs ls hP hD hS hl => va_aldq C.1.1 C.1.2.1 C.2.1 hP q0 3 ha rfl hin d (h H locs ls hP hD hS hl)
theorem at_iast (C : Cx X cc nL own Ts fr lo) (q0 : Nat) {a n : Nat} {f : Nat → Int32} (ha : ws[q0]? = some (a, .inl (X.E 0, n, .inl f))) {i x : Int32} (hin : vp_in i n) (hw : ws.set q0 (a, .inl (X.E 0, n, .inl (upd f i.toNatClampNeg x))) = ws') (d : decode cc pc = .ok (.iastore, 1)) (h : At X nL ws' (pc + 1) lv st) : At X nL ws pc lv (.int x :: .int i :: .ref a :: st) := by
  subst hw
  exact fun H locs ls hP hD hS hl => va_iast C.1.1 C.1.2.1 C.2.1 hP hD hS q0 0 ha rfl hin d (fun H1 locs1 hP1 hD1 hS1 => h H1 locs1 ls hP1 hD1 hS1 hl)
theorem at_zast (C : Cx X cc nL own Ts fr lo) (q0 : Nat) {a n : Nat} {f : Nat → Int32} (ha : ws[q0]? = some (a, .inl (X.E 2, n, .inl f))) {i x : Int32} (hin : vp_in i n) (hx : vp_nar .boolean x = x) (hw : ws.set q0 (a, .inl (X.E 2, n, .inl (upd f i.toNatClampNeg x))) = ws') (d : decode cc pc = .ok (.bastore, 1)) (h : At X nL ws' (pc + 1) lv st) : At X nL ws pc lv (.int x :: .int i :: .ref a :: st) := by
  subst hw
  exact fun H locs ls hP hD hS hl => va_zast C.1.1 C.1.2.1 C.2.1 hP hD hS q0 2 ha rfl hin d (fun H1 locs1 hP1 hD1 hS1 => by rw [hx] at hP1 hD1; exact h H1 locs1 ls hP1 hD1 hS1 hl)
theorem at_last (C : Cx X cc nL own Ts fr lo) (q0 : Nat) {a n : Nat} {f : Nat → Int64} (ha : ws[q0]? = some (a, .inl (X.E 1, n, .inr (.inl f)))) {i : Int32} {x : Int64} (hin : vp_in i n) (hw : ws.set q0 (a, .inl (X.E 1, n, .inr (.inl (vp_updL f i.toNatClampNeg x)))) = ws') (d : decode cc pc = .ok (.lastore, 1)) (h : At X nL ws' (pc + 1) lv st) : At X nL ws pc lv (.long x :: .int i :: .ref a :: st) := by
  subst hw
  exact fun H locs ls hP hD hS hl => va_last C.1.1 C.1.2.1 C.2.1 hP hD hS q0 1 ha rfl hin d (fun H1 locs1 hP1 hD1 hS1 => h H1 locs1 ls hP1 hD1 hS1 hl)
theorem at_alen (C : Cx X cc nL own Ts fr lo) (q0 t0 : Nat) {a : Nat} {cA : ClassId} {x : vp_A} {ty : FieldType} (ha : ws[q0]? = some (a, .inl (cA, x))) (ht : (tyE X.E)[t0]? = some (cA, ty)) {v : Int32} (hv : Int32.ofNat x.1 = v) (d : decode cc pc = .ok (.arraylength, 1)) (h : At X nL ws (pc + 1) lv (.int v :: st)) : At X nL ws pc lv (.ref a :: st) :=
  fun H locs ls hP hD hS hl => va_alen C.1.1 C.1.2.1 C.2.1 hP q0 t0 ha ht hv d (h H locs ls hP hD hS hl)
theorem at_getsR (C : Cx X cc nL own Ts fr lo) {index : Nat} (hlink : Cond.fieldLink own index RX1 "ROW_STEPS" "[I" ∈ Ts) (d : decode cc pc = .ok (.getstatic index, 3)) (h : At X nL ws (pc + 3) lv (.ref X.a1 :: st)) : At X nL ws pc lv st :=
  fun H locs ls hP hD hS hl => va_gets C.1.1 C.1.2.1 C.2.2.1.2.1 hS C.1.2.2.2.1 (C.1.2.2.2.2 _ hlink) (fun _ h9 => h9) d (h H locs ls hP hD hS hl)
theorem at_getsC (C : Cx X cc nL own Ts fr lo) {index : Nat} (hlink : Cond.fieldLink own index RX1 "COLUMN_STEPS" "[I" ∈ Ts) (d : decode cc pc = .ok (.getstatic index, 3)) (h : At X nL ws (pc + 3) lv (.ref X.a2 :: st)) : At X nL ws pc lv st :=
  fun H locs ls hP hD hS hl => va_gets C.1.1 C.1.2.1 C.2.2.1.2.2.1 hS C.1.2.2.2.1 (C.1.2.2.2.2 _ hlink) (fun _ h9 => h9) d (h H locs ls hP hD hS hl)
theorem at_sldR (C : Cx X cc nL own Ts fr lo) {i : Int32} (hin : vp_in i 4) (d : decode cc pc = .ok (.iaload, 1)) (h : At X nL ws (pc + 1) lv (.int (rowSt i.toNatClampNeg) :: st)) : At X nL ws pc lv (.int i :: .ref X.a1 :: st) :=
  fun H locs ls hP hD hS hl => va_ti C.1.1 C.1.2.1 C.2.2.1.2.2.2.1 hS hin rfl d (h H locs ls hP hD hS hl)
theorem at_sldC (C : Cx X cc nL own Ts fr lo) {i : Int32} (hin : vp_in i 4) (d : decode cc pc = .ok (.iaload, 1)) (h : At X nL ws (pc + 1) lv (.int (colSt i.toNatClampNeg) :: st)) : At X nL ws pc lv (.int i :: .ref X.a2 :: st) :=
  fun H locs ls hP hD hS hl => va_ti C.1.1 C.1.2.1 C.2.2.1.2.2.2.2 hS hin rfl d (h H locs ls hP hD hS hl)
theorem Ends.q {ret : Option FieldType} {v : Option Value} {w : va_W} (hE : Ends X ret v w) {H : Heap} {locs : List Loc} (hP : va_P X.D vwCl w H) (hS : va_S X.A X.s.heap H locs) : ∃ w0 : va_W, X.Q = MQ X.below (QW X.D w0 w v) X.args X.s X.cells X.slots (inA w0) ∧ (∀ t : State, t.heap = H → X.s.WarmedH t.vm → QW X.D w0 w v X.args X.s (.returned v) t) ∧ ∀ q ∈ locs, inA w0 q.base := by
  obtain ⟨_, w0, hQ, hA⟩ := hE
  refine ⟨w0, hQ, fun t ht hW => ⟨rfl, by rw [ht]; exact hP, ?_⟩, fun q hq => by rw [← hA]; exact hS.2.2 q hq⟩
  rw [← hA]
  exact hS.F ht
theorem at_iret (C : Cx X cc nL own Ts fr lo) {v : Int32} (d : decode cc pc = .ok (.ireturn, 1)) (hE : Ends X (some .int) (some (.int v)) ws) : At X nL ws pc lv [.int v] := by
  intro H locs ls hP hD hS hl
  obtain ⟨w0, hQ, h1, h2⟩ := hE.q hP hS
  rw [hQ]
  exact W.iret C.1.1 C.1.2.1 hE.1 h1 h2 d C.2.2.2.2.2
theorem at_zret (C : Cx X cc nL own Ts fr lo) {v : Int32} (d : decode cc pc = .ok (.ireturn, 1)) (hn : narrow .boolean (.int v) = .int v) (hE : Ends X (some .boolean) (some (.int v)) ws) : At X nL ws pc lv [.int v] := by
  intro H locs ls hP hD hS hl
  obtain ⟨w0, hQ, h1, h2⟩ := hE.q hP hS
  rw [hQ]
  exact W.zret C.1.1 C.1.2.1 hE.1 hn h1 h2 d C.2.2.2.2.2
theorem at_lret (C : Cx X cc nL own Ts fr lo) {v : Int64} (d : decode cc pc = .ok (.lreturn, 1)) (hE : Ends X (some .long) (some (.long v)) ws) : At X nL ws pc lv [.long v] := by
  intro H locs ls hP hD hS hl
  obtain ⟨w0, hQ, h1, h2⟩ := hE.q hP hS
  rw [hQ]
  exact W.lret C.1.1 C.1.2.1 hE.1 h1 h2 d C.2.2.2.2.2
theorem at_aret (C : Cx X cc nL own Ts fr lo) {v : Value} {K : String} (d : decode cc pc = .ok (.areturn, 1)) (hv : v = .null ∨ ∃ a, v = .ref a) (hE : Ends X (some (.object K)) (some v) ws) : At X nL ws pc lv [v] := by
  intro H locs ls hP hD hS hl
  obtain ⟨w0, hQ, h1, h2⟩ := hE.q hP hS
  rw [hQ]
  exact W.aret C.1.1 C.1.2.1 hE.1 (Or.inl ⟨_, rfl⟩) hv h1 h2 d C.2.2.2.2.2
theorem at_vret (C : Cx X cc nL own Ts fr lo) (d : decode cc pc = .ok (.return_, 1)) (hE : Ends X none none ws) : At X nL ws pc lv [] := by
  intro H locs ls hP hD hS hl
  obtain ⟨w0, hQ, h1, h2⟩ := hE.q hP hS
  rw [hQ]
  exact W.vret C.1.1 C.1.2.1 hE.1 h1 h2 d C.2.2.2.2.2
/-! calls -/
theorem inA_app_r {w0 w1 : va_W} {q : Nat} (h : inA w1 q) : inA (w0 ++ w1) q := by
  obtain ⟨k, e, hk⟩ := h
  exact ⟨w0.length + k, e, by rw [List.getElem?_append_right (by omega)]; simpa using hk⟩
theorem inA_app_l {w0 w1 : va_W} {q : Nat} (h : inA w0 q) : inA (w0 ++ w1) q := by
  obtain ⟨k, e, hk⟩ := h
  exact ⟨k, e, by rw [List.getElem?_append_left (List.getElem?_eq_some_iff.mp hk).1]; exact hk⟩
theorem va_D.addrIn {A : Nat → Prop} {w : va_W} (hD : va_D A w) {q : Nat} (h : inA w q) : A q := by
  obtain ⟨k, e, hk⟩ := h
  exact hD.2 k _ hk
theorem va_D.apartL {A : Nat → Prop} {wl w0 : va_W} (hD : va_D A (wl ++ w0)) {k : Nat} {z : Nat × va_E} (hk : wl[k]? = some z) : ¬ inA w0 z.1 := by
  rintro ⟨j, e, hj⟩
  have h1 : k < wl.length := (List.getElem?_eq_some_iff.mp hk).1
  have h2 := hD.1 k (wl.length + j) z (z.1, e) (by rw [List.getElem?_append_left h1]; exact hk) (by rw [List.getElem?_append_right (by omega)]; simpa using hj) rfl
  omega
theorem va_D.apartR {A : Nat → Prop} {w0 wr : va_W} (hD : va_D A (w0 ++ wr)) {k : Nat} {z : Nat × va_E} (hk : wr[k]? = some z) : ¬ inA w0 z.1 := by
  rintro ⟨j, e, hj⟩
  have h1 : j < w0.length := (List.getElem?_eq_some_iff.mp hj).1
  have h2 := hD.1 (w0.length + k) j z (z.1, e) (by rw [List.getElem?_append_right (by omega)]; simpa using hk) (by rw [List.getElem?_append_left h1]; exact hj) rfl
  omega
theorem va_P.appL {D : va_G} {cl : List vw_C} {w1 w2 : va_W} {H : Heap} (h : va_P D cl (w1 ++ w2) H) : va_P D cl w1 H := fun k q hk => h k q (by rw [List.getElem?_append_left (List.getElem?_eq_some_iff.mp hk).1]; exact hk)
theorem va_P.appR {D : va_G} {cl : List vw_C} {w1 w2 : va_W} {H : Heap} (h : va_P D cl (w1 ++ w2) H) : va_P D cl w2 H := fun k q hk => h (w1.length + k) q (by rw [List.getElem?_append_right (by omega)]; simpa using hk)
theorem va_D.appR {A : Nat → Prop} {w1 w2 : va_W} (h : va_D A (w1 ++ w2)) : va_D A w2 := by
  refine ⟨fun i j p q hi hj e => ?_, fun k q hk => h.2 (w1.length + k) q (by rw [List.getElem?_append_right (by omega)]; simpa using hk)⟩
  have := h.1 (w1.length + i) (w1.length + j) p q (by rw [List.getElem?_append_right (by omega)]; simpa using hi) (by rw [List.getElem?_append_right (by omega)]; simpa using hj) e
  omega
theorem va_D.appL {A : Nat → Prop} {w1 w2 : va_W} (h : va_D A (w1 ++ w2)) : va_D A w1 := by
  refine ⟨fun i j p q hi hj e => ?_, fun k q hk => h.2 k q (by rw [List.getElem?_append_left (List.getElem?_eq_some_iff.mp hk).1]; exact hk)⟩
  exact h.1 i j p q (by rw [List.getElem?_append_left (List.getElem?_eq_some_iff.mp hi).1]; exact hi) (by rw [List.getElem?_append_left (List.getElem?_eq_some_iff.mp hj).1]; exact hj) e
/-- a call, once it runs: the callee's part w0 of the world becomes w1, the rest stays -/
theorem at_run {w0 w1 wl wr : va_W} {v : Option Value} {stk rest : List Value} {arr : Array Value} (hsame : sameAd w0 w1)
    (hr : ∀ (H : Heap) (locs : List Loc) (ls : Array Slot), va_P X.D vwCl w0 H → va_D (inA w0) w0 → NS X.a1 X.a2 (inA w0) X.s H → lv_has ls nL lv → va_Run X.p X.l X.e X.R X.s X.m X.args X.below X.meth X.c H locs X.cells X.slots 0 0 (F0 X.m pc ls stk) rest (QW X.D w0 w1 v arr) (inA w0))
    (C : Cx X cc nL own Ts fr lo) (k : At X nL (wl ++ (w1 ++ wr)) (pc + 3) lv (v.toList ++ rest)) : At X nL (wl ++ (w0 ++ wr)) pc lv stk := by
  intro H locs ls hP hD hS hl T hT XX
  have hD0 : va_D X.A w0 := hD.appR.appL
  have hP0 : va_P X.D vwCl w0 H := hP.appR.appL
  have hsub : ∀ q, inA w0 q → X.A q := fun q hq => hD0.addrIn hq
  have hN : NS X.a1 X.a2 X.A X.s H := C.2.2.1.kept (fun a h1 h2 => hS.2.1 a h1 h2)
  obtain ⟨v', st₀, t, T', L, h0, X', hL, e1, e2, ⟨hv, hP1, hz, hk⟩, stp⟩ := hr H locs ls hP0 ⟨hD0.1, fun k q hk => ⟨k, q.2, hk⟩⟩ (hN.narrow hsub) hl T hT XX
  cases hv
  rw [h0] at hz hk
  have hold : ∀ q : Nat, q < H.size → ¬ inA w0 q → t.heap[q]? = H[q]? := fun q h1 h2 => hk q h1 h2
  have hPl : va_P X.D vwCl wl t.heap := va_P.kept hP.appL (fun k q hq => hold q.1 (hP.appL k q hq).lt (fun z => hD.apartL hq (inA_app_l z)))
  have hPr : va_P X.D vwCl wr t.heap := va_P.kept hP.appR.appR (fun k q hq => hold q.1 (hP.appR.appR k q hq).lt (hD.appR.apartR hq))
  have hDn : va_D X.A (wl ++ (w1 ++ wr)) := hD.same (by unfold sameAd at *; simp [hsame])
  have hS' : va_S X.A X.s.heap t.heap (locs ++ L) := ⟨Nat.le_trans hS.1 hz, fun q h1 h2 => by rw [hold q (Nat.lt_of_lt_of_le h1 hS.1) (fun z => h2 (hsub q z))]; exact hS.2.1 q h1 h2, fun q hq => by
      rcases List.mem_append.mp hq with h | h
      · exact hS.2.2 q h
      · exact hsub _ (hL q h)⟩
  obtain ⟨t2, a1, b1⟩ := k t.heap (locs ++ L) ls (hPl.app (hP1.app hPr)) hDn hS' hl T' e1 X'
  exact ⟨t2, stp t2 a1, b1⟩
theorem at_callS (C : Cx X cc nL own Ts fr lo) {y : MethodName} {wsy ws'' : List Cond} {fr' lo' : Nat} {As : List Value} {w0 w1 : va_W} (wl wr : va_W) {v : Option Value} {rest stk : List Value} {bytes : ByteArray} {maxL index : Nat} {ret : Option FieldType} (n : Nat)
    (f : Fn X.l X.D X.E X.a1 X.a2 y wsy fr' lo' As w0 v w1) (hG : GoodIn Ts (va_wsS own index y wsy)) (hw : wsy = Cond.code y bytes maxL ret :: ws'')
    (hd : y.cls ≠ "java/lang/invoke/MethodHandle" ∧ y.cls ≠ "java/lang/invoke/VarHandle" ∧ (parseMethodDescriptor y.desc).map (fun d => d.parameters.length) = some n) (hR : Nat.ble (fr' + 1) fr = true ∧ Nat.ble (8 + (maxL + 11) + lo') lo = true) (hn : As.length = n) (hst : stk = As.reverse ++ rest) (hrm : (rest.map fun v => v.category).sum ≤ 8)
    (d : decode cc pc = .ok (.invokestatic index, 3)) (k : At X nL (wl ++ (w1 ++ wr)) (pc + 3) lv (v.toList ++ rest)) : At X nL (wl ++ (w0 ++ wr)) pc lv stk := by
  refine at_run (arr := As.toArray) f.1 (fun H locs ls hP hD hN hl => ?_) C k
  exact va_runS C.1 f.2 (va_cwS n C.1.2.2.2.2 hG hw rfl rfl hd ⟨Nat.le_trans (Nat.le_of_ble_eq_true hR.1) C.2.2.2.1.1, Nat.le_trans (Nat.le_of_ble_eq_true hR.2) C.2.2.2.1.2⟩)
    ⟨PW.blind, fun U hU hW => ⟨rfl, by rw [hU]; exact hP, va_K.moved hW.alike C.2.1, ⟨hD.1, fun _ _ _ => trivial⟩, by rw [hU]; exact hN.warm hW⟩⟩ rfl hn hl.1 hst (lv_room hrm) d C.2.2.2.2.1
theorem at_callV (C : Cx X cc nL own Ts fr lo) {y : MethodName} {wsy ws'' : List Cond} {fr' lo' : Nat} {As : List Value} {b : Nat} {w0 w1 : va_W} (wl wr : va_W) {v : Option Value} {rest stk : List Value} {bytes : ByteArray} {maxL index : Nat} {ret : Option FieldType} {K : String} (n : Nat)
    (f : Fn X.l X.D X.E X.a1 X.a2 y wsy fr' lo' (.ref b :: As) w0 v w1) (hG : GoodIn Ts (wsV own index K y wsy)) (hw : wsy = Cond.code y bytes maxL ret :: ws'')
    (hd : y.cls = K ∧ y.cls ≠ "java/lang/invoke/MethodHandle" ∧ y.cls ≠ "java/lang/invoke/VarHandle" ∧ (parseMethodDescriptor y.desc).map (fun d => d.parameters.length) = some n) (hR : Nat.ble (fr' + 1) fr = true ∧ Nat.ble (8 + (maxL + 11) + lo') lo = true) (hn : As.length = n) (hst : stk = As.reverse ++ .ref b :: rest) (hrm : (rest.map fun v => v.category).sum ≤ 8)
    (q0 : Nat) {ci : Nat} {T : u_T} {N : Nat} {fs : List Value} (he : w0[q0]? = some (b, .inr (ci, fs))) (hc : vwCl[ci]? = some (K, T, N))
    (d : decode cc pc = .ok (.invokevirtual index, 3)) (k : At X nL (wl ++ (w1 ++ wr)) (pc + 3) lv (v.toList ++ rest)) : At X nL (wl ++ (w0 ++ wr)) pc lv stk := by
  refine at_run (arr := (Value.ref b :: As).toArray) f.1 (fun H locs ls hP hD hN hl => ?_) C k
  exact va_runV C.1 f.2 (cwV n C.1.2.2.2.2 hG hw rfl rfl hd ⟨Nat.le_trans (Nat.le_of_ble_eq_true hR.1) C.2.2.2.1.1, Nat.le_trans (Nat.le_of_ble_eq_true hR.2) C.2.2.2.1.2⟩)
    ⟨PW.blind, va_recv C.2.1 hP hc he, fun U hU hW => ⟨rfl, by rw [hU]; exact hP, va_K.moved hW.alike C.2.1, ⟨hD.1, fun _ _ _ => trivial⟩, by rw [hU]; exact hN.warm hW⟩⟩ rfl hn hl.1 hst (lv_room hrm) d C.2.2.2.2.1
theorem at_callN (C : Cx X cc nL own Ts fr lo) {y : MethodName} {wsy ws'' : List Cond} {fr' lo' : Nat} {As : List Value} {w0 w1 : va_W} (wl wr : va_W) {v : Option Value} {rest stk : List Value} {bytes : ByteArray} {maxL index : Nat} {ret : Option FieldType} {host : String} (n : Nat)
    (f : Fn X.l X.D X.E X.a1 X.a2 y wsy fr' lo' As w0 v w1) (hG : GoodIn Ts wsy) (hw : wsy = Cond.code y bytes maxL ret :: ws'') (hl' : Cond.methodLinkNest own index y host ∈ nestW) (hini : Cond.initialized y.cls ∈ Ts) (hstat : Cond.static y ∈ Ts)
    (hd : y.cls ≠ "java/lang/invoke/MethodHandle" ∧ y.cls ≠ "java/lang/invoke/VarHandle" ∧ (parseMethodDescriptor y.desc).map (fun d => d.parameters.length) = some n) (hR : Nat.ble (fr' + 1) fr = true ∧ Nat.ble (8 + (maxL + 11) + lo') lo = true) (hn : As.length = n) (hst : stk = As.reverse ++ rest) (hrm : (rest.map fun v => v.category).sum ≤ 8)
    (d : decode cc pc = .ok (.invokestatic index, 3)) (k : At X nL (wl ++ (w1 ++ wr)) (pc + 3) lv (v.toList ++ rest)) : At X nL (wl ++ (w0 ++ wr)) pc lv stk := by
  refine at_run (arr := As.toArray) f.1 (fun H locs ls hP hD hN hl => ?_) C k
  exact va_runSN C.1 f.2 ⟨va_cnB n C.1.2.2.2.2 hG hw rfl rfl (C.2.2.1.1 _ hl') (C.1.2.2.2.2 _ hini) hd ⟨Nat.le_trans (Nat.le_of_ble_eq_true hR.1) C.2.2.2.1.1, Nat.le_trans (Nat.le_of_ble_eq_true hR.2) C.2.2.2.1.2⟩, C.1.2.2.2.2 _ hstat, trivial⟩
    ⟨PW.blind, fun U hU hW => ⟨rfl, by rw [hU]; exact hP, va_K.moved hW.alike C.2.1, ⟨hD.1, fun _ _ _ => trivial⟩, by rw [hU]; exact hN.warm hW⟩⟩ rfl hn hl.1 hst (lv_room hrm) d C.2.2.2.2.1
end AtWorld
