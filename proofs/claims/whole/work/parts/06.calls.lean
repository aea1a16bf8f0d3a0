/-! calls in their short forms -/
section AtCalls
variable {X : Bn} {cc : ByteArray} {nL : Nat} {own : String} {Ts : List Cond} {fr lo : Nat} {ws : va_W} {pc : Nat} {lv : List (Nat × Value)}
theorem at_look (C : Cx X cc nL own Ts fr lo) {st : List Value} {dflt : Int} {ps : Array (Int × Int)} {len : Nat} {x : Int32} {off : Int} {tgt : Nat} (d : decode cc pc = .ok (.lookupswitch dflt ps, len)) (hp : (ps.toList.zip (ps.toList.drop 1)).all (fun (a, next) => a.1 < next.1) = true) (ho : Op.lookupswitch.offset ps.toList dflt x.toInt = off) (ht : (pc : Int) + off = (tgt : Int)) (k : At X nL ws tgt lv st) : At X nL ws pc lv (.int x :: st) := fun H locs ls hP hD hS hl => lv_lookup C.1.1 C.1.2.1 d hp ho ht (k H locs ls hP hD hS hl)
theorem at_cS0 (C : Cx X cc nL own Ts fr lo) {y : MethodName} {wsy ws'' : List Cond} {fr' lo' : Nat} {As : List Value} {v : Value} {rest stk : List Value} {bytes : ByteArray} {maxL index : Nat} {ret : Option FieldType} (n : Nat)
    (f : Fn X.l X.D X.E X.a1 X.a2 y wsy fr' lo' As [] (some v) []) (hG : GoodIn Ts (va_wsS own index y wsy)) (hw : wsy = Cond.code y bytes maxL ret :: ws'')
    (hd : y.cls ≠ "java/lang/invoke/MethodHandle" ∧ y.cls ≠ "java/lang/invoke/VarHandle" ∧ (parseMethodDescriptor y.desc).map (fun d => d.parameters.length) = some n) (hR : Nat.ble (fr' + 1) fr = true ∧ Nat.ble (8 + (maxL + 11) + lo') lo = true) (hn : As.length = n) (hst : stk = As.reverse ++ rest) (hrm : Nat.ble (rest.map fun v => v.category).sum 8 = true)
    (d : decode cc pc = .ok (.invokestatic index, 3)) (k : At X nL ws (pc + 3) lv (v :: rest)) : At X nL ws pc lv stk :=
  at_callS C [] ws n f hG hw hd hR hn hst (Nat.le_of_ble_eq_true hrm) d k
theorem at_cS1 (C : Cx X cc nL own Ts fr lo) {y : MethodName} {wsy ws'' : List Cond} {fr' lo' : Nat} {As : List Value} {w1 : va_W} {v : Value} {rest stk : List Value} {bytes : ByteArray} {maxL index : Nat} {ret : Option FieldType} (n : Nat)
    (f : Fn X.l X.D X.E X.a1 X.a2 y wsy fr' lo' As ws (some v) w1) (hG : GoodIn Ts (va_wsS own index y wsy)) (hw : wsy = Cond.code y bytes maxL ret :: ws'')
    (hd : y.cls ≠ "java/lang/invoke/MethodHandle" ∧ y.cls ≠ "java/lang/invoke/VarHandle" ∧ (parseMethodDescriptor y.desc).map (fun d => d.parameters.length) = some n) (hR : Nat.ble (fr' + 1) fr = true ∧ Nat.ble (8 + (maxL + 11) + lo') lo = true) (hn : As.length = n) (hst : stk = As.reverse ++ rest) (hrm : Nat.ble (rest.map fun v => v.category).sum 8 = true)
    (d : decode cc pc = .ok (.invokestatic index, 3)) (k : At X nL w1 (pc + 3) lv (v :: rest)) : At X nL ws pc lv stk := by
  have := at_callS (lv := lv) C [] [] n f hG hw hd hR hn hst (Nat.le_of_ble_eq_true hrm) d (by simpa using k)
  simpa using this
theorem at_cV1 (C : Cx X cc nL own Ts fr lo) {y : MethodName} {wsy ws'' : List Cond} {fr' lo' : Nat} {As : List Value} {b : Nat} {w1 : va_W} {v : Value} {rest stk : List Value} {bytes : ByteArray} {maxL index : Nat} {ret : Option FieldType} {K : String} (n : Nat)
    (f : Fn X.l X.D X.E X.a1 X.a2 y wsy fr' lo' (.ref b :: As) ws (some v) w1) (hG : GoodIn Ts (wsV own index K y wsy)) (hw : wsy = Cond.code y bytes maxL ret :: ws'')
    (hd : y.cls = K ∧ y.cls ≠ "java/lang/invoke/MethodHandle" ∧ y.cls ≠ "java/lang/invoke/VarHandle" ∧ (parseMethodDescriptor y.desc).map (fun d => d.parameters.length) = some n) (hR : Nat.ble (fr' + 1) fr = true ∧ Nat.ble (8 + (maxL + 11) + lo') lo = true) (hn : As.length = n) (hst : stk = As.reverse ++ .ref b :: rest) (hrm : Nat.ble (rest.map fun v => v.category).sum 8 = true)
    (q0 : Nat) {ci : Nat} {T : u_T} {N : Nat} {fs : List Value} (he : ws[q0]? = some (b, .inr (ci, fs))) (hc : vwCl[ci]? = some (K, T, N))
    (d : decode cc pc = .ok (.invokevirtual index, 3)) (k : At X nL w1 (pc + 3) lv (v :: rest)) : At X nL ws pc lv stk := by
  have := at_callV (lv := lv) C [] [] n f hG hw hd hR hn hst (Nat.le_of_ble_eq_true hrm) q0 he hc d (by simpa using k)
  simpa using this
theorem at_cV1v (C : Cx X cc nL own Ts fr lo) {y : MethodName} {wsy ws'' : List Cond} {fr' lo' : Nat} {As : List Value} {b : Nat} {w1 : va_W} {rest stk : List Value} {bytes : ByteArray} {maxL index : Nat} {ret : Option FieldType} {K : String} (n : Nat)
    (f : Fn X.l X.D X.E X.a1 X.a2 y wsy fr' lo' (.ref b :: As) ws none w1) (hG : GoodIn Ts (wsV own index K y wsy)) (hw : wsy = Cond.code y bytes maxL ret :: ws'')
    (hd : y.cls = K ∧ y.cls ≠ "java/lang/invoke/MethodHandle" ∧ y.cls ≠ "java/lang/invoke/VarHandle" ∧ (parseMethodDescriptor y.desc).map (fun d => d.parameters.length) = some n) (hR : Nat.ble (fr' + 1) fr = true ∧ Nat.ble (8 + (maxL + 11) + lo') lo = true) (hn : As.length = n) (hst : stk = As.reverse ++ .ref b :: rest) (hrm : Nat.ble (rest.map fun v => v.category).sum 8 = true)
    (q0 : Nat) {ci : Nat} {T : u_T} {N : Nat} {fs : List Value} (he : ws[q0]? = some (b, .inr (ci, fs))) (hc : vwCl[ci]? = some (K, T, N))
    (d : decode cc pc = .ok (.invokevirtual index, 3)) (k : At X nL w1 (pc + 3) lv rest) : At X nL ws pc lv stk := by
  have := at_callV (lv := lv) C [] [] n f hG hw hd hR hn hst (Nat.le_of_ble_eq_true hrm) q0 he hc d (by simpa using k)
  simpa using this
theorem at_cN0 (C : Cx X cc nL own Ts fr lo) {y : MethodName} {wsy ws'' : List Cond} {fr' lo' : Nat} {As : List Value} {v : Value} {rest stk : List Value} {bytes : ByteArray} {maxL index : Nat} {ret : Option FieldType} {host : String} (n : Nat)
    (f : Fn X.l X.D X.E X.a1 X.a2 y wsy fr' lo' As [] (some v) []) (hG : GoodIn Ts wsy) (hw : wsy = Cond.code y bytes maxL ret :: ws'') (hl' : Cond.methodLinkNest own index y host ∈ nestW) (hini : Cond.initialized y.cls ∈ Ts) (hstat : Cond.static y ∈ Ts)
    (hd : y.cls ≠ "java/lang/invoke/MethodHandle" ∧ y.cls ≠ "java/lang/invoke/VarHandle" ∧ (parseMethodDescriptor y.desc).map (fun d => d.parameters.length) = some n) (hR : Nat.ble (fr' + 1) fr = true ∧ Nat.ble (8 + (maxL + 11) + lo') lo = true) (hn : As.length = n) (hst : stk = As.reverse ++ rest) (hrm : Nat.ble (rest.map fun v => v.category).sum 8 = true)
    (d : decode cc pc = .ok (.invokestatic index, 3)) (k : At X nL ws (pc + 3) lv (v :: rest)) : At X nL ws pc lv stk :=
  at_callN C [] ws n f hG hw hl' hini hstat hd hR hn hst (Nat.le_of_ble_eq_true hrm) d k
end AtCalls
/-! the worlds: a state is what the int cells and the long cells hold, by number -/
abbrev MS : Type := (Nat → Nat → Int32) × (Nat → Nat → Int64)
def up (g : Nat → Nat → Int32) (k i : Nat) (x : Int32) : Nat → Nat → Int32 := fun k' => if k' = k then upd (g k') i x else g k'
def upL (v : Nat → Nat → Int64) (k i : Nat) (x : Int64) : Nat → Nat → Int64 := fun k' => if k' = k then vp_updL (v k') i x else v k'
def pg (S : MS) (k i : Nat) (x : Int32) : MS := (up S.1 k i x, S.2)
def pv (S : MS) (k i : Nat) (x : Int64) : MS := (S.1, upL S.2 k i x)
theorem vnb_b2i (b : Bool) : vp_nar .boolean (b2i b) = b2i b := by cases b <;> rfl
theorem at_lvK {X : Bn} {nL pc : Nat} {w w' : va_W} {lv lv' : List (Nat × Value)} {st st' : List Value} (K : At X nL w pc lv st) (h : At X nL w' pc lv' st' = At X nL w pc lv st) : At X nL w' pc lv' st' := h ▸ K
theorem at_topI {X : Bn} {nL pc : Nat} {w : va_W} {lv : List (Nat × Value)} {st : List Value} {x y : Int32} (e : x = y) (k : At X nL w pc lv (.int y :: st)) : At X nL w pc lv (.int x :: st) := e ▸ k
theorem at_topL {X : Bn} {nL pc : Nat} {w : va_W} {lv : List (Nat × Value)} {st : List Value} {x y : Int64} (e : x = y) (k : At X nL w pc lv (.long y :: st)) : At X nL w pc lv (.long x :: st) := e ▸ k
theorem pg_s {S : MS} {k i : Nat} {x : Int32} : (pg S k i x).1 k i = x := by simp [pg, up, upd]
theorem pg_n {S : MS} {k i j : Nat} {x : Int32} (h : j ≠ i) : (pg S k i x).1 k j = S.1 k j := by simp [pg, up, upd, h]
theorem pg_o {S : MS} {k k2 i j : Nat} {x : Int32} (h : k2 ≠ k) : (pg S k i x).1 k2 j = S.1 k2 j := by simp [pg, up, h]
theorem pg_r {S : MS} {k k2 i : Nat} {x : Int32} (h : k2 ≠ k) : (pg S k i x).1 k2 = S.1 k2 := by simp [pg, up, h]
theorem pg_2 {S : MS} {k i : Nat} {x : Int32} : (pg S k i x).2 = S.2 := rfl
theorem pv_1 {S : MS} {k i : Nat} {x : Int64} : (pv S k i x).1 = S.1 := rfl
theorem pv_s {S : MS} {k i : Nat} {x : Int64} : (pv S k i x).2 k i = x := by simp [pv, upL, vp_updL]
theorem pv_n {S : MS} {k i j : Nat} {x : Int64} (h : j ≠ i) : (pv S k i x).2 k j = S.2 k j := by simp [pv, upL, vp_updL, h]
theorem pv_o {S : MS} {k k2 i j : Nat} {x : Int64} (h : k2 ≠ k) : (pv S k i x).2 k2 j = S.2 k2 j := by simp [pv, upL, h]
theorem pv_r {S : MS} {k k2 i : Nat} {x : Int64} (h : k2 ≠ k) : (pv S k i x).2 k2 = S.2 k2 := by simp [pv, upL, h]
theorem pv_g {S : MS} {k k2 i j : Nat} {x : Int64} : (pv S k i x).1 k2 j = S.1 k2 j := rfl
theorem pg_v {S : MS} {k k2 i j : Nat} {x : Int32} : (pg S k i x).2 k2 j = S.2 k2 j := rfl
