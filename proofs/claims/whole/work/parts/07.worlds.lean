def txN (k : Nat) : Nat := if k = 0 then 40 else 71
def shF (ad : Nat → Nat) (j : Nat) : Option Nat := if j < 4 then some (ad (20 + 2 * j)) else none
def mW (E : Nat → ClassId) (ad : Nat → Nat) (S : MS) : va_W :=
  [(ad 0, .inr (7, [.ref (ad 1), .ref (ad 2), .ref (ad 3), .ref (ad 4), .int (S.1 4 0), .ref (ad 5), .ref (ad 6), .int (S.1 7 0), .int (S.1 8 0), .ref (ad 7), .ref (ad 8), .ref (ad 9), .ref (ad 10), .int (S.1 13 0), .int (S.1 14 0), .ref (ad 11), .ref (ad 12), .ref (ad 13)])),
   (ad 1, .inl (E 0, 4, .inl (S.1 0))),
   (ad 2, .inl (E 0, 4, .inl (S.1 1))),
   (ad 3, .inl (E 0, 256, .inl (S.1 2))),
   (ad 4, .inl (E 0, 64, .inl (S.1 3))),
   (ad 5, .inl (E 0, 112, .inl (S.1 5))),
   (ad 6, .inl (E 0, 2, .inl (S.1 6))),
   (ad 7, .inl (E 0, 8, .inl (S.1 9))),
   (ad 8, .inl (E 2, 64, .inl (S.1 10))),
   (ad 9, .inl (E 0, 256, .inl (S.1 11))),
   (ad 10, .inl (E 0, 256, .inl (S.1 12))),
   (ad 11, .inl (E 0, 16, .inl (S.1 15))),
   (ad 12, .inl (E 0, 625, .inl (S.1 16))),
   (ad 13, .inl (E 1, 64, .inr (.inl (S.2 0))))]
theorem sameM (E : Nat → ClassId) (ad : Nat → Nat) (S S' : MS) : sameAd (mW E ad S) (mW E ad S') := rfl
theorem mW_c0 {E : Nat → ClassId} {ad : Nat → Nat} {S : MS} : (mW E ad S)[0]? = some (ad 0, .inr (7, [.ref (ad 1), .ref (ad 2), .ref (ad 3), .ref (ad 4), .int (S.1 4 0), .ref (ad 5), .ref (ad 6), .int (S.1 7 0), .int (S.1 8 0), .ref (ad 7), .ref (ad 8), .ref (ad 9), .ref (ad 10), .int (S.1 13 0), .int (S.1 14 0), .ref (ad 11), .ref (ad 12), .ref (ad 13)])) := rfl
theorem mW_f0_4 {E : Nat → ClassId} {ad : Nat → Nat} {S : MS} {x : Int32} : (mW E ad S).set 0 (ad 0, .inr (7, [.ref (ad 1), .ref (ad 2), .ref (ad 3), .ref (ad 4), .int (S.1 4 0), .ref (ad 5), .ref (ad 6), .int (S.1 7 0), .int (S.1 8 0), .ref (ad 7), .ref (ad 8), .ref (ad 9), .ref (ad 10), .int (S.1 13 0), .int (S.1 14 0), .ref (ad 11), .ref (ad 12), .ref (ad 13)].set 4 (.int x))) = mW E ad (pg S 4 0 x) := rfl
theorem mW_f0_7 {E : Nat → ClassId} {ad : Nat → Nat} {S : MS} {x : Int32} : (mW E ad S).set 0 (ad 0, .inr (7, [.ref (ad 1), .ref (ad 2), .ref (ad 3), .ref (ad 4), .int (S.1 4 0), .ref (ad 5), .ref (ad 6), .int (S.1 7 0), .int (S.1 8 0), .ref (ad 7), .ref (ad 8), .ref (ad 9), .ref (ad 10), .int (S.1 13 0), .int (S.1 14 0), .ref (ad 11), .ref (ad 12), .ref (ad 13)].set 7 (.int x))) = mW E ad (pg S 7 0 x) := rfl
theorem mW_f0_8 {E : Nat → ClassId} {ad : Nat → Nat} {S : MS} {x : Int32} : (mW E ad S).set 0 (ad 0, .inr (7, [.ref (ad 1), .ref (ad 2), .ref (ad 3), .ref (ad 4), .int (S.1 4 0), .ref (ad 5), .ref (ad 6), .int (S.1 7 0), .int (S.1 8 0), .ref (ad 7), .ref (ad 8), .ref (ad 9), .ref (ad 10), .int (S.1 13 0), .int (S.1 14 0), .ref (ad 11), .ref (ad 12), .ref (ad 13)].set 8 (.int x))) = mW E ad (pg S 8 0 x) := rfl
theorem mW_f0_13 {E : Nat → ClassId} {ad : Nat → Nat} {S : MS} {x : Int32} : (mW E ad S).set 0 (ad 0, .inr (7, [.ref (ad 1), .ref (ad 2), .ref (ad 3), .ref (ad 4), .int (S.1 4 0), .ref (ad 5), .ref (ad 6), .int (S.1 7 0), .int (S.1 8 0), .ref (ad 7), .ref (ad 8), .ref (ad 9), .ref (ad 10), .int (S.1 13 0), .int (S.1 14 0), .ref (ad 11), .ref (ad 12), .ref (ad 13)].set 13 (.int x))) = mW E ad (pg S 13 0 x) := rfl
theorem mW_f0_14 {E : Nat → ClassId} {ad : Nat → Nat} {S : MS} {x : Int32} : (mW E ad S).set 0 (ad 0, .inr (7, [.ref (ad 1), .ref (ad 2), .ref (ad 3), .ref (ad 4), .int (S.1 4 0), .ref (ad 5), .ref (ad 6), .int (S.1 7 0), .int (S.1 8 0), .ref (ad 7), .ref (ad 8), .ref (ad 9), .ref (ad 10), .int (S.1 13 0), .int (S.1 14 0), .ref (ad 11), .ref (ad 12), .ref (ad 13)].set 14 (.int x))) = mW E ad (pg S 14 0 x) := rfl
theorem mW_c1 {E : Nat → ClassId} {ad : Nat → Nat} {S : MS} : (mW E ad S)[1]? = some (ad 1, .inl (E 0, 4, .inl (S.1 0))) := rfl
theorem mW_s1 {E : Nat → ClassId} {ad : Nat → Nat} {S : MS} {i : Nat} {x : Int32} : (mW E ad S).set 1 (ad 1, .inl (E 0, 4, .inl (upd (S.1 0) i x))) = mW E ad (pg S 0 i x) := rfl
theorem mW_c2 {E : Nat → ClassId} {ad : Nat → Nat} {S : MS} : (mW E ad S)[2]? = some (ad 2, .inl (E 0, 4, .inl (S.1 1))) := rfl
theorem mW_s2 {E : Nat → ClassId} {ad : Nat → Nat} {S : MS} {i : Nat} {x : Int32} : (mW E ad S).set 2 (ad 2, .inl (E 0, 4, .inl (upd (S.1 1) i x))) = mW E ad (pg S 1 i x) := rfl
theorem mW_c3 {E : Nat → ClassId} {ad : Nat → Nat} {S : MS} : (mW E ad S)[3]? = some (ad 3, .inl (E 0, 256, .inl (S.1 2))) := rfl
theorem mW_s3 {E : Nat → ClassId} {ad : Nat → Nat} {S : MS} {i : Nat} {x : Int32} : (mW E ad S).set 3 (ad 3, .inl (E 0, 256, .inl (upd (S.1 2) i x))) = mW E ad (pg S 2 i x) := rfl
theorem mW_c4 {E : Nat → ClassId} {ad : Nat → Nat} {S : MS} : (mW E ad S)[4]? = some (ad 4, .inl (E 0, 64, .inl (S.1 3))) := rfl
theorem mW_s4 {E : Nat → ClassId} {ad : Nat → Nat} {S : MS} {i : Nat} {x : Int32} : (mW E ad S).set 4 (ad 4, .inl (E 0, 64, .inl (upd (S.1 3) i x))) = mW E ad (pg S 3 i x) := rfl
theorem mW_c5 {E : Nat → ClassId} {ad : Nat → Nat} {S : MS} : (mW E ad S)[5]? = some (ad 5, .inl (E 0, 112, .inl (S.1 5))) := rfl
theorem mW_s5 {E : Nat → ClassId} {ad : Nat → Nat} {S : MS} {i : Nat} {x : Int32} : (mW E ad S).set 5 (ad 5, .inl (E 0, 112, .inl (upd (S.1 5) i x))) = mW E ad (pg S 5 i x) := rfl
theorem mW_c6 {E : Nat → ClassId} {ad : Nat → Nat} {S : MS} : (mW E ad S)[6]? = some (ad 6, .inl (E 0, 2, .inl (S.1 6))) := rfl
theorem mW_s6 {E : Nat → ClassId} {ad : Nat → Nat} {S : MS} {i : Nat} {x : Int32} : (mW E ad S).set 6 (ad 6, .inl (E 0, 2, .inl (upd (S.1 6) i x))) = mW E ad (pg S 6 i x) := rfl
theorem mW_c7 {E : Nat → ClassId} {ad : Nat → Nat} {S : MS} : (mW E ad S)[7]? = some (ad 7, .inl (E 0, 8, .inl (S.1 9))) := rfl
theorem mW_s7 {E : Nat → ClassId} {ad : Nat → Nat} {S : MS} {i : Nat} {x : Int32} : (mW E ad S).set 7 (ad 7, .inl (E 0, 8, .inl (upd (S.1 9) i x))) = mW E ad (pg S 9 i x) := rfl
theorem mW_c8 {E : Nat → ClassId} {ad : Nat → Nat} {S : MS} : (mW E ad S)[8]? = some (ad 8, .inl (E 2, 64, .inl (S.1 10))) := rfl
theorem mW_s8 {E : Nat → ClassId} {ad : Nat → Nat} {S : MS} {i : Nat} {x : Int32} : (mW E ad S).set 8 (ad 8, .inl (E 2, 64, .inl (upd (S.1 10) i x))) = mW E ad (pg S 10 i x) := rfl
theorem mW_c9 {E : Nat → ClassId} {ad : Nat → Nat} {S : MS} : (mW E ad S)[9]? = some (ad 9, .inl (E 0, 256, .inl (S.1 11))) := rfl
theorem mW_s9 {E : Nat → ClassId} {ad : Nat → Nat} {S : MS} {i : Nat} {x : Int32} : (mW E ad S).set 9 (ad 9, .inl (E 0, 256, .inl (upd (S.1 11) i x))) = mW E ad (pg S 11 i x) := rfl
theorem mW_c10 {E : Nat → ClassId} {ad : Nat → Nat} {S : MS} : (mW E ad S)[10]? = some (ad 10, .inl (E 0, 256, .inl (S.1 12))) := rfl
theorem mW_s10 {E : Nat → ClassId} {ad : Nat → Nat} {S : MS} {i : Nat} {x : Int32} : (mW E ad S).set 10 (ad 10, .inl (E 0, 256, .inl (upd (S.1 12) i x))) = mW E ad (pg S 12 i x) := rfl
theorem mW_c11 {E : Nat → ClassId} {ad : Nat → Nat} {S : MS} : (mW E ad S)[11]? = some (ad 11, .inl (E 0, 16, .inl (S.1 15))) := rfl
theorem mW_s11 {E : Nat → ClassId} {ad : Nat → Nat} {S : MS} {i : Nat} {x : Int32} : (mW E ad S).set 11 (ad 11, .inl (E 0, 16, .inl (upd (S.1 15) i x))) = mW E ad (pg S 15 i x) := rfl
theorem mW_c12 {E : Nat → ClassId} {ad : Nat → Nat} {S : MS} : (mW E ad S)[12]? = some (ad 12, .inl (E 0, 625, .inl (S.1 16))) := rfl
theorem mW_s12 {E : Nat → ClassId} {ad : Nat → Nat} {S : MS} {i : Nat} {x : Int32} : (mW E ad S).set 12 (ad 12, .inl (E 0, 625, .inl (upd (S.1 16) i x))) = mW E ad (pg S 16 i x) := rfl
theorem mW_c13 {E : Nat → ClassId} {ad : Nat → Nat} {S : MS} : (mW E ad S)[13]? = some (ad 13, .inl (E 1, 64, .inr (.inl (S.2 0)))) := rfl
theorem mW_s13 {E : Nat → ClassId} {ad : Nat → Nat} {S : MS} {i : Nat} {x : Int64} : (mW E ad S).set 13 (ad 13, .inl (E 1, 64, .inr (.inl (vp_updL (S.2 0) i x)))) = mW E ad (pv S 0 i x) := rfl
def cW (E : Nat → ClassId) (ad : Nat → Nat) (S : MS) : va_W :=
  [(ad 0, .inr (6, [.ref (ad 1), .ref (ad 3), .ref (ad 5), .ref (ad 8), .ref (ad 10), .ref (ad 15), .ref (ad 19), .int (S.1 16 0)])),
   (ad 1, .inr (4, [.ref (ad 2), .int (S.1 2 0)])),
   (ad 2, .inl (E 0, 40, .inl (S.1 0))),
   (ad 3, .inr (4, [.ref (ad 4), .int (S.1 3 0)])),
   (ad 4, .inl (E 0, 71, .inl (S.1 1))),
   (ad 5, .inr (2, [.ref (ad 6), .ref (ad 7), .int (S.1 6 0), .int (S.1 7 0)])),
   (ad 6, .inl (E 0, 32, .inl (S.1 4))),
   (ad 7, .inl (E 0, 128, .inl (S.1 5))),
   (ad 8, .inr (1, [.ref (ad 9), .long (S.2 1 0), .int (S.1 8 0), .int (S.1 9 0), .int (S.1 10 0), .int (S.1 11 0)])),
   (ad 9, .inl (E 1, 64, .inr (.inl (S.2 0)))),
   (ad 10, .inr (5, [.ref (ad 11), .ref (ad 12), .ref (ad 13), .ref (ad 14)])),
   (ad 11, .inl (E 1, 4, .inr (.inl (S.2 2)))),
   (ad 12, .inl (E 1, 4, .inr (.inl (S.2 3)))),
   (ad 13, .inl (E 1, 4, .inr (.inl (S.2 4)))),
   (ad 14, .inl (E 1, 4, .inr (.inl (S.2 5)))),
   (ad 15, .inr (0, [.ref (ad 16), .ref (ad 17), .ref (ad 18), .int (S.1 15 0)])),
   (ad 16, .inl (E 0, 8, .inl (S.1 12))),
   (ad 17, .inl (E 0, 8, .inl (S.1 13))),
   (ad 18, .inl (E 0, 32, .inl (S.1 14))),
   (ad 19, .inl (E 3, 4, .inr (.inr (.inr (.inr (shF ad)))))),
   (ad 20, .inr (3, [.ref (ad 21), .int (S.1 24 0), .int (S.1 28 0), .int (S.1 32 0)])),
   (ad 21, .inl (E 0, 64, .inl (S.1 20))),
   (ad 22, .inr (3, [.ref (ad 23), .int (S.1 25 0), .int (S.1 29 0), .int (S.1 33 0)])),
   (ad 23, .inl (E 0, 64, .inl (S.1 21))),
   (ad 24, .inr (3, [.ref (ad 25), .int (S.1 26 0), .int (S.1 30 0), .int (S.1 34 0)])),
   (ad 25, .inl (E 0, 64, .inl (S.1 22))),
   (ad 26, .inr (3, [.ref (ad 27), .int (S.1 27 0), .int (S.1 31 0), .int (S.1 35 0)])),
   (ad 27, .inl (E 0, 64, .inl (S.1 23)))]
theorem sameC (E : Nat → ClassId) (ad : Nat → Nat) (S S' : MS) : sameAd (cW E ad S) (cW E ad S') := rfl
theorem cW_c0 {E : Nat → ClassId} {ad : Nat → Nat} {S : MS} : (cW E ad S)[0]? = some (ad 0, .inr (6, [.ref (ad 1), .ref (ad 3), .ref (ad 5), .ref (ad 8), .ref (ad 10), .ref (ad 15), .ref (ad 19), .int (S.1 16 0)])) := rfl
theorem cW_f0_7 {E : Nat → ClassId} {ad : Nat → Nat} {S : MS} {x : Int32} : (cW E ad S).set 0 (ad 0, .inr (6, [.ref (ad 1), .ref (ad 3), .ref (ad 5), .ref (ad 8), .ref (ad 10), .ref (ad 15), .ref (ad 19), .int (S.1 16 0)].set 7 (.int x))) = cW E ad (pg S 16 0 x) := rfl
theorem cW_c1 {E : Nat → ClassId} {ad : Nat → Nat} {S : MS} : (cW E ad S)[1]? = some (ad 1, .inr (4, [.ref (ad 2), .int (S.1 2 0)])) := rfl
theorem cW_f1_1 {E : Nat → ClassId} {ad : Nat → Nat} {S : MS} {x : Int32} : (cW E ad S).set 1 (ad 1, .inr (4, [.ref (ad 2), .int (S.1 2 0)].set 1 (.int x))) = cW E ad (pg S 2 0 x) := rfl
theorem cW_c2 {E : Nat → ClassId} {ad : Nat → Nat} {S : MS} : (cW E ad S)[2]? = some (ad 2, .inl (E 0, 40, .inl (S.1 0))) := rfl
theorem cW_s2 {E : Nat → ClassId} {ad : Nat → Nat} {S : MS} {i : Nat} {x : Int32} : (cW E ad S).set 2 (ad 2, .inl (E 0, 40, .inl (upd (S.1 0) i x))) = cW E ad (pg S 0 i x) := rfl
theorem cW_c3 {E : Nat → ClassId} {ad : Nat → Nat} {S : MS} : (cW E ad S)[3]? = some (ad 3, .inr (4, [.ref (ad 4), .int (S.1 3 0)])) := rfl
theorem cW_f3_1 {E : Nat → ClassId} {ad : Nat → Nat} {S : MS} {x : Int32} : (cW E ad S).set 3 (ad 3, .inr (4, [.ref (ad 4), .int (S.1 3 0)].set 1 (.int x))) = cW E ad (pg S 3 0 x) := rfl
theorem cW_c4 {E : Nat → ClassId} {ad : Nat → Nat} {S : MS} : (cW E ad S)[4]? = some (ad 4, .inl (E 0, 71, .inl (S.1 1))) := rfl
theorem cW_s4 {E : Nat → ClassId} {ad : Nat → Nat} {S : MS} {i : Nat} {x : Int32} : (cW E ad S).set 4 (ad 4, .inl (E 0, 71, .inl (upd (S.1 1) i x))) = cW E ad (pg S 1 i x) := rfl
theorem cW_c5 {E : Nat → ClassId} {ad : Nat → Nat} {S : MS} : (cW E ad S)[5]? = some (ad 5, .inr (2, [.ref (ad 6), .ref (ad 7), .int (S.1 6 0), .int (S.1 7 0)])) := rfl
theorem cW_f5_2 {E : Nat → ClassId} {ad : Nat → Nat} {S : MS} {x : Int32} : (cW E ad S).set 5 (ad 5, .inr (2, [.ref (ad 6), .ref (ad 7), .int (S.1 6 0), .int (S.1 7 0)].set 2 (.int x))) = cW E ad (pg S 6 0 x) := rfl
theorem cW_f5_3 {E : Nat → ClassId} {ad : Nat → Nat} {S : MS} {x : Int32} : (cW E ad S).set 5 (ad 5, .inr (2, [.ref (ad 6), .ref (ad 7), .int (S.1 6 0), .int (S.1 7 0)].set 3 (.int x))) = cW E ad (pg S 7 0 x) := rfl
theorem cW_c6 {E : Nat → ClassId} {ad : Nat → Nat} {S : MS} : (cW E ad S)[6]? = some (ad 6, .inl (E 0, 32, .inl (S.1 4))) := rfl
theorem cW_s6 {E : Nat → ClassId} {ad : Nat → Nat} {S : MS} {i : Nat} {x : Int32} : (cW E ad S).set 6 (ad 6, .inl (E 0, 32, .inl (upd (S.1 4) i x))) = cW E ad (pg S 4 i x) := rfl
theorem cW_c7 {E : Nat → ClassId} {ad : Nat → Nat} {S : MS} : (cW E ad S)[7]? = some (ad 7, .inl (E 0, 128, .inl (S.1 5))) := rfl
theorem cW_s7 {E : Nat → ClassId} {ad : Nat → Nat} {S : MS} {i : Nat} {x : Int32} : (cW E ad S).set 7 (ad 7, .inl (E 0, 128, .inl (upd (S.1 5) i x))) = cW E ad (pg S 5 i x) := rfl
theorem cW_c8 {E : Nat → ClassId} {ad : Nat → Nat} {S : MS} : (cW E ad S)[8]? = some (ad 8, .inr (1, [.ref (ad 9), .long (S.2 1 0), .int (S.1 8 0), .int (S.1 9 0), .int (S.1 10 0), .int (S.1 11 0)])) := rfl
theorem cW_f8_1 {E : Nat → ClassId} {ad : Nat → Nat} {S : MS} {x : Int64} : (cW E ad S).set 8 (ad 8, .inr (1, [.ref (ad 9), .long (S.2 1 0), .int (S.1 8 0), .int (S.1 9 0), .int (S.1 10 0), .int (S.1 11 0)].set 1 (.long x))) = cW E ad (pv S 1 0 x) := rfl
theorem cW_f8_2 {E : Nat → ClassId} {ad : Nat → Nat} {S : MS} {x : Int32} : (cW E ad S).set 8 (ad 8, .inr (1, [.ref (ad 9), .long (S.2 1 0), .int (S.1 8 0), .int (S.1 9 0), .int (S.1 10 0), .int (S.1 11 0)].set 2 (.int x))) = cW E ad (pg S 8 0 x) := rfl
theorem cW_f8_3 {E : Nat → ClassId} {ad : Nat → Nat} {S : MS} {x : Int32} : (cW E ad S).set 8 (ad 8, .inr (1, [.ref (ad 9), .long (S.2 1 0), .int (S.1 8 0), .int (S.1 9 0), .int (S.1 10 0), .int (S.1 11 0)].set 3 (.int x))) = cW E ad (pg S 9 0 x) := rfl
theorem cW_f8_4 {E : Nat → ClassId} {ad : Nat → Nat} {S : MS} {x : Int32} : (cW E ad S).set 8 (ad 8, .inr (1, [.ref (ad 9), .long (S.2 1 0), .int (S.1 8 0), .int (S.1 9 0), .int (S.1 10 0), .int (S.1 11 0)].set 4 (.int x))) = cW E ad (pg S 10 0 x) := rfl
theorem cW_f8_5 {E : Nat → ClassId} {ad : Nat → Nat} {S : MS} {x : Int32} : (cW E ad S).set 8 (ad 8, .inr (1, [.ref (ad 9), .long (S.2 1 0), .int (S.1 8 0), .int (S.1 9 0), .int (S.1 10 0), .int (S.1 11 0)].set 5 (.int x))) = cW E ad (pg S 11 0 x) := rfl
theorem cW_c9 {E : Nat → ClassId} {ad : Nat → Nat} {S : MS} : (cW E ad S)[9]? = some (ad 9, .inl (E 1, 64, .inr (.inl (S.2 0)))) := rfl
theorem cW_s9 {E : Nat → ClassId} {ad : Nat → Nat} {S : MS} {i : Nat} {x : Int64} : (cW E ad S).set 9 (ad 9, .inl (E 1, 64, .inr (.inl (vp_updL (S.2 0) i x)))) = cW E ad (pv S 0 i x) := rfl
theorem cW_c10 {E : Nat → ClassId} {ad : Nat → Nat} {S : MS} : (cW E ad S)[10]? = some (ad 10, .inr (5, [.ref (ad 11), .ref (ad 12), .ref (ad 13), .ref (ad 14)])) := rfl
theorem cW_c11 {E : Nat → ClassId} {ad : Nat → Nat} {S : MS} : (cW E ad S)[11]? = some (ad 11, .inl (E 1, 4, .inr (.inl (S.2 2)))) := rfl
theorem cW_s11 {E : Nat → ClassId} {ad : Nat → Nat} {S : MS} {i : Nat} {x : Int64} : (cW E ad S).set 11 (ad 11, .inl (E 1, 4, .inr (.inl (vp_updL (S.2 2) i x)))) = cW E ad (pv S 2 i x) := rfl
theorem cW_c12 {E : Nat → ClassId} {ad : Nat → Nat} {S : MS} : (cW E ad S)[12]? = some (ad 12, .inl (E 1, 4, .inr (.inl (S.2 3)))) := rfl
theorem cW_s12 {E : Nat → ClassId} {ad : Nat → Nat} {S : MS} {i : Nat} {x : Int64} : (cW E ad S).set 12 (ad 12, .inl (E 1, 4, .inr (.inl (vp_updL (S.2 3) i x)))) = cW E ad (pv S 3 i x) := rfl
theorem cW_c13 {E : Nat → ClassId} {ad : Nat → Nat} {S : MS} : (cW E ad S)[13]? = some (ad 13, .inl (E 1, 4, .inr (.inl (S.2 4)))) := rfl
theorem cW_s13 {E : Nat → ClassId} {ad : Nat → Nat} {S : MS} {i : Nat} {x : Int64} : (cW E ad S).set 13 (ad 13, .inl (E 1, 4, .inr (.inl (vp_updL (S.2 4) i x)))) = cW E ad (pv S 4 i x) := rfl
theorem cW_c14 {E : Nat → ClassId} {ad : Nat → Nat} {S : MS} : (cW E ad S)[14]? = some (ad 14, .inl (E 1, 4, .inr (.inl (S.2 5)))) := rfl
theorem cW_s14 {E : Nat → ClassId} {ad : Nat → Nat} {S : MS} {i : Nat} {x : Int64} : (cW E ad S).set 14 (ad 14, .inl (E 1, 4, .inr (.inl (vp_updL (S.2 5) i x)))) = cW E ad (pv S 5 i x) := rfl
theorem cW_c15 {E : Nat → ClassId} {ad : Nat → Nat} {S : MS} : (cW E ad S)[15]? = some (ad 15, .inr (0, [.ref (ad 16), .ref (ad 17), .ref (ad 18), .int (S.1 15 0)])) := rfl
theorem cW_f15_3 {E : Nat → ClassId} {ad : Nat → Nat} {S : MS} {x : Int32} : (cW E ad S).set 15 (ad 15, .inr (0, [.ref (ad 16), .ref (ad 17), .ref (ad 18), .int (S.1 15 0)].set 3 (.int x))) = cW E ad (pg S 15 0 x) := rfl
theorem cW_c16 {E : Nat → ClassId} {ad : Nat → Nat} {S : MS} : (cW E ad S)[16]? = some (ad 16, .inl (E 0, 8, .inl (S.1 12))) := rfl
theorem cW_s16 {E : Nat → ClassId} {ad : Nat → Nat} {S : MS} {i : Nat} {x : Int32} : (cW E ad S).set 16 (ad 16, .inl (E 0, 8, .inl (upd (S.1 12) i x))) = cW E ad (pg S 12 i x) := rfl
theorem cW_c17 {E : Nat → ClassId} {ad : Nat → Nat} {S : MS} : (cW E ad S)[17]? = some (ad 17, .inl (E 0, 8, .inl (S.1 13))) := rfl
theorem cW_s17 {E : Nat → ClassId} {ad : Nat → Nat} {S : MS} {i : Nat} {x : Int32} : (cW E ad S).set 17 (ad 17, .inl (E 0, 8, .inl (upd (S.1 13) i x))) = cW E ad (pg S 13 i x) := rfl
theorem cW_c18 {E : Nat → ClassId} {ad : Nat → Nat} {S : MS} : (cW E ad S)[18]? = some (ad 18, .inl (E 0, 32, .inl (S.1 14))) := rfl
theorem cW_s18 {E : Nat → ClassId} {ad : Nat → Nat} {S : MS} {i : Nat} {x : Int32} : (cW E ad S).set 18 (ad 18, .inl (E 0, 32, .inl (upd (S.1 14) i x))) = cW E ad (pg S 14 i x) := rfl
theorem cW_c19 {E : Nat → ClassId} {ad : Nat → Nat} {S : MS} : (cW E ad S)[19]? = some (ad 19, .inl (E 3, 4, .inr (.inr (.inr (.inr (shF ad)))))) := rfl
theorem cW_c20 {E : Nat → ClassId} {ad : Nat → Nat} {S : MS} : (cW E ad S)[20]? = some (ad 20, .inr (3, [.ref (ad 21), .int (S.1 24 0), .int (S.1 28 0), .int (S.1 32 0)])) := rfl
theorem cW_f20_1 {E : Nat → ClassId} {ad : Nat → Nat} {S : MS} {x : Int32} : (cW E ad S).set 20 (ad 20, .inr (3, [.ref (ad 21), .int (S.1 24 0), .int (S.1 28 0), .int (S.1 32 0)].set 1 (.int x))) = cW E ad (pg S 24 0 x) := rfl
theorem cW_f20_2 {E : Nat → ClassId} {ad : Nat → Nat} {S : MS} {x : Int32} : (cW E ad S).set 20 (ad 20, .inr (3, [.ref (ad 21), .int (S.1 24 0), .int (S.1 28 0), .int (S.1 32 0)].set 2 (.int x))) = cW E ad (pg S 28 0 x) := rfl
theorem cW_f20_3 {E : Nat → ClassId} {ad : Nat → Nat} {S : MS} {x : Int32} : (cW E ad S).set 20 (ad 20, .inr (3, [.ref (ad 21), .int (S.1 24 0), .int (S.1 28 0), .int (S.1 32 0)].set 3 (.int x))) = cW E ad (pg S 32 0 x) := rfl
theorem cW_c21 {E : Nat → ClassId} {ad : Nat → Nat} {S : MS} : (cW E ad S)[21]? = some (ad 21, .inl (E 0, 64, .inl (S.1 20))) := rfl
theorem cW_s21 {E : Nat → ClassId} {ad : Nat → Nat} {S : MS} {i : Nat} {x : Int32} : (cW E ad S).set 21 (ad 21, .inl (E 0, 64, .inl (upd (S.1 20) i x))) = cW E ad (pg S 20 i x) := rfl
theorem cW_c22 {E : Nat → ClassId} {ad : Nat → Nat} {S : MS} : (cW E ad S)[22]? = some (ad 22, .inr (3, [.ref (ad 23), .int (S.1 25 0), .int (S.1 29 0), .int (S.1 33 0)])) := rfl
theorem cW_f22_1 {E : Nat → ClassId} {ad : Nat → Nat} {S : MS} {x : Int32} : (cW E ad S).set 22 (ad 22, .inr (3, [.ref (ad 23), .int (S.1 25 0), .int (S.1 29 0), .int (S.1 33 0)].set 1 (.int x))) = cW E ad (pg S 25 0 x) := rfl
theorem cW_f22_2 {E : Nat → ClassId} {ad : Nat → Nat} {S : MS} {x : Int32} : (cW E ad S).set 22 (ad 22, .inr (3, [.ref (ad 23), .int (S.1 25 0), .int (S.1 29 0), .int (S.1 33 0)].set 2 (.int x))) = cW E ad (pg S 29 0 x) := rfl
theorem cW_f22_3 {E : Nat → ClassId} {ad : Nat → Nat} {S : MS} {x : Int32} : (cW E ad S).set 22 (ad 22, .inr (3, [.ref (ad 23), .int (S.1 25 0), .int (S.1 29 0), .int (S.1 33 0)].set 3 (.int x))) = cW E ad (pg S 33 0 x) := rfl
theorem cW_c23 {E : Nat → ClassId} {ad : Nat → Nat} {S : MS} : (cW E ad S)[23]? = some (ad 23, .inl (E 0, 64, .inl (S.1 21))) := rfl
theorem cW_s23 {E : Nat → ClassId} {ad : Nat → Nat} {S : MS} {i : Nat} {x : Int32} : (cW E ad S).set 23 (ad 23, .inl (E 0, 64, .inl (upd (S.1 21) i x))) = cW E ad (pg S 21 i x) := rfl
theorem cW_c24 {E : Nat → ClassId} {ad : Nat → Nat} {S : MS} : (cW E ad S)[24]? = some (ad 24, .inr (3, [.ref (ad 25), .int (S.1 26 0), .int (S.1 30 0), .int (S.1 34 0)])) := rfl
theorem cW_f24_1 {E : Nat → ClassId} {ad : Nat → Nat} {S : MS} {x : Int32} : (cW E ad S).set 24 (ad 24, .inr (3, [.ref (ad 25), .int (S.1 26 0), .int (S.1 30 0), .int (S.1 34 0)].set 1 (.int x))) = cW E ad (pg S 26 0 x) := rfl
theorem cW_f24_2 {E : Nat → ClassId} {ad : Nat → Nat} {S : MS} {x : Int32} : (cW E ad S).set 24 (ad 24, .inr (3, [.ref (ad 25), .int (S.1 26 0), .int (S.1 30 0), .int (S.1 34 0)].set 2 (.int x))) = cW E ad (pg S 30 0 x) := rfl
theorem cW_f24_3 {E : Nat → ClassId} {ad : Nat → Nat} {S : MS} {x : Int32} : (cW E ad S).set 24 (ad 24, .inr (3, [.ref (ad 25), .int (S.1 26 0), .int (S.1 30 0), .int (S.1 34 0)].set 3 (.int x))) = cW E ad (pg S 34 0 x) := rfl
theorem cW_c25 {E : Nat → ClassId} {ad : Nat → Nat} {S : MS} : (cW E ad S)[25]? = some (ad 25, .inl (E 0, 64, .inl (S.1 22))) := rfl
theorem cW_s25 {E : Nat → ClassId} {ad : Nat → Nat} {S : MS} {i : Nat} {x : Int32} : (cW E ad S).set 25 (ad 25, .inl (E 0, 64, .inl (upd (S.1 22) i x))) = cW E ad (pg S 22 i x) := rfl
theorem cW_c26 {E : Nat → ClassId} {ad : Nat → Nat} {S : MS} : (cW E ad S)[26]? = some (ad 26, .inr (3, [.ref (ad 27), .int (S.1 27 0), .int (S.1 31 0), .int (S.1 35 0)])) := rfl
theorem cW_f26_1 {E : Nat → ClassId} {ad : Nat → Nat} {S : MS} {x : Int32} : (cW E ad S).set 26 (ad 26, .inr (3, [.ref (ad 27), .int (S.1 27 0), .int (S.1 31 0), .int (S.1 35 0)].set 1 (.int x))) = cW E ad (pg S 27 0 x) := rfl
theorem cW_f26_2 {E : Nat → ClassId} {ad : Nat → Nat} {S : MS} {x : Int32} : (cW E ad S).set 26 (ad 26, .inr (3, [.ref (ad 27), .int (S.1 27 0), .int (S.1 31 0), .int (S.1 35 0)].set 2 (.int x))) = cW E ad (pg S 31 0 x) := rfl
theorem cW_f26_3 {E : Nat → ClassId} {ad : Nat → Nat} {S : MS} {x : Int32} : (cW E ad S).set 26 (ad 26, .inr (3, [.ref (ad 27), .int (S.1 27 0), .int (S.1 31 0), .int (S.1 35 0)].set 3 (.int x))) = cW E ad (pg S 35 0 x) := rfl
theorem cW_c27 {E : Nat → ClassId} {ad : Nat → Nat} {S : MS} : (cW E ad S)[27]? = some (ad 27, .inl (E 0, 64, .inl (S.1 23))) := rfl
theorem cW_s27 {E : Nat → ClassId} {ad : Nat → Nat} {S : MS} {i : Nat} {x : Int32} : (cW E ad S).set 27 (ad 27, .inl (E 0, 64, .inl (upd (S.1 23) i x))) = cW E ad (pg S 23 i x) := rfl
theorem cW_text {E : Nat → ClassId} {ad : Nat → Nat} {S : MS} {k : Nat} (hk : k < 2) : (cW E ad S)[1 + 2 * k]? = some (ad (1 + 2 * k), .inr (4, [.ref (ad (2 + 2 * k)), .int (S.1 (2 + k) 0)])) := by
  rcases (show k = 0 ∨ k = 1 by omega) with rfl | rfl <;> rfl
theorem cW_set_text1 {E : Nat → ClassId} {ad : Nat → Nat} {S : MS} {k : Nat} {x : Int32} (hk : k < 2) : (cW E ad S).set (1 + 2 * k) (ad (1 + 2 * k), .inr (4, [.ref (ad (2 + 2 * k)), .int (S.1 (2 + k) 0)].set 1 (.int x))) = cW E ad (pg S (2 + k) 0 x) := by
  rcases (show k = 0 ∨ k = 1 by omega) with rfl | rfl <;> rfl
theorem cW_bytes {E : Nat → ClassId} {ad : Nat → Nat} {S : MS} {k : Nat} (hk : k < 2) : (cW E ad S)[2 + 2 * k]? = some (ad (2 + 2 * k), .inl (E 0, (txN k), .inl (S.1 k))) := by
  rcases (show k = 0 ∨ k = 1 by omega) with rfl | rfl <;> rfl
theorem cW_set_bytes {E : Nat → ClassId} {ad : Nat → Nat} {S : MS} {k i : Nat} {x : Int32} (hk : k < 2) : (cW E ad S).set (2 + 2 * k) (ad (2 + 2 * k), .inl (E 0, (txN k), .inl (upd (S.1 k) i x))) = cW E ad (pg S k i x) := by
  rcases (show k = 0 ∨ k = 1 by omega) with rfl | rfl <;> rfl
theorem cW_sheet {E : Nat → ClassId} {ad : Nat → Nat} {S : MS} {k : Nat} (hk : k < 4) : (cW E ad S)[20 + 2 * k]? = some (ad (20 + 2 * k), .inr (3, [.ref (ad (21 + 2 * k)), .int (S.1 (24 + k) 0), .int (S.1 (28 + k) 0), .int (S.1 (32 + k) 0)])) := by
  rcases (show k = 0 ∨ k = 1 ∨ k = 2 ∨ k = 3 by omega) with rfl | rfl | rfl | rfl <;> rfl
theorem cW_set_sheet1 {E : Nat → ClassId} {ad : Nat → Nat} {S : MS} {k : Nat} {x : Int32} (hk : k < 4) : (cW E ad S).set (20 + 2 * k) (ad (20 + 2 * k), .inr (3, [.ref (ad (21 + 2 * k)), .int (S.1 (24 + k) 0), .int (S.1 (28 + k) 0), .int (S.1 (32 + k) 0)].set 1 (.int x))) = cW E ad (pg S (24 + k) 0 x) := by
  rcases (show k = 0 ∨ k = 1 ∨ k = 2 ∨ k = 3 by omega) with rfl | rfl | rfl | rfl <;> rfl
theorem cW_set_sheet2 {E : Nat → ClassId} {ad : Nat → Nat} {S : MS} {k : Nat} {x : Int32} (hk : k < 4) : (cW E ad S).set (20 + 2 * k) (ad (20 + 2 * k), .inr (3, [.ref (ad (21 + 2 * k)), .int (S.1 (24 + k) 0), .int (S.1 (28 + k) 0), .int (S.1 (32 + k) 0)].set 2 (.int x))) = cW E ad (pg S (28 + k) 0 x) := by
  rcases (show k = 0 ∨ k = 1 ∨ k = 2 ∨ k = 3 by omega) with rfl | rfl | rfl | rfl <;> rfl
theorem cW_set_sheet3 {E : Nat → ClassId} {ad : Nat → Nat} {S : MS} {k : Nat} {x : Int32} (hk : k < 4) : (cW E ad S).set (20 + 2 * k) (ad (20 + 2 * k), .inr (3, [.ref (ad (21 + 2 * k)), .int (S.1 (24 + k) 0), .int (S.1 (28 + k) 0), .int (S.1 (32 + k) 0)].set 3 (.int x))) = cW E ad (pg S (32 + k) 0 x) := by
  rcases (show k = 0 ∨ k = 1 ∨ k = 2 ∨ k = 3 by omega) with rfl | rfl | rfl | rfl <;> rfl
theorem cW_items {E : Nat → ClassId} {ad : Nat → Nat} {S : MS} {k : Nat} (hk : k < 4) : (cW E ad S)[21 + 2 * k]? = some (ad (21 + 2 * k), .inl (E 0, 64, .inl (S.1 (20 + k)))) := by
  rcases (show k = 0 ∨ k = 1 ∨ k = 2 ∨ k = 3 by omega) with rfl | rfl | rfl | rfl <;> rfl
theorem cW_set_items {E : Nat → ClassId} {ad : Nat → Nat} {S : MS} {k i : Nat} {x : Int32} (hk : k < 4) : (cW E ad S).set (21 + 2 * k) (ad (21 + 2 * k), .inl (E 0, 64, .inl (upd (S.1 (20 + k)) i x))) = cW E ad (pg S (20 + k) i x) := by
  rcases (show k = 0 ∨ k = 1 ∨ k = 2 ∨ k = 3 by omega) with rfl | rfl | rfl | rfl <;> rfl
theorem vrf_or (r : Option Nat) : va_rf r = .null ∨ ∃ a, va_rf r = .ref a := by
  cases r with
  | none => exact Or.inl rfl
  | some a => exact Or.inr ⟨a, rfl⟩
section AtNull
variable {X : Bn} {cc : ByteArray} {nL : Nat} {own : String} {Ts : List Cond} {fr lo : Nat} {ws : va_W} {pc : Nat} {lv : List (Nat × Value)} {st : List Value}
theorem at_aload_nN (C : Cx X cc nL own Ts fr lo) {k : Fin 4} {i j : Nat} (d : decode cc pc = .ok (.aload_n k, 1)) (hi : (k : Nat) = i) (hk : lv[j]? = some (i, .null)) (h : At X nL ws (pc + 1) lv (.null :: st)) : At X nL ws pc lv st := fun H locs ls hP hD hS hl => lv_aload_nN C.1.1 C.1.2.1 d hi (lv_at hl j hk) (h H locs ls hP hD hS hl)
theorem at_aloadN (C : Cx X cc nL own Ts fr lo) {i j : Nat} (d : decode cc pc = .ok (.aload i, 2)) (hk : lv[j]? = some (i, .null)) (h : At X nL ws (pc + 2) lv (.null :: st)) : At X nL ws pc lv st := fun H locs ls hP hD hS hl => lv_aloadN C.1.1 C.1.2.1 d (lv_at hl j hk) (h H locs ls hP hD hS hl)
theorem at_astore_nN (C : Cx X cc nL own Ts fr lo) {k : Fin 4} {i : Nat} {lv' : List (Nat × Value)} (d : decode cc pc = .ok (.astore_n k, 1)) (hi : (k : Nat) = i) (hn : i < nL) (hl' : (i, Value.null) :: lv.filter (fun q => !(q.1 == i) && !(q.1 + 1 == i && q.2.category == 2)) = lv') (h : At X nL ws (pc + 1) lv' st) : At X nL ws pc lv (.null :: st) := fun H locs ls hP hD hS hl => lv_astore_nN C.1.1 C.1.2.1 d hi hl hn hl' (fun ls' h' => h H locs ls' hP hD hS h')
theorem at_astoreN (C : Cx X cc nL own Ts fr lo) {i : Nat} {lv' : List (Nat × Value)} (d : decode cc pc = .ok (.astore i, 2)) (hn : i < nL) (hl' : (i, Value.null) :: lv.filter (fun q => !(q.1 == i) && !(q.1 + 1 == i && q.2.category == 2)) = lv') (h : At X nL ws (pc + 2) lv' st) : At X nL ws pc lv (.null :: st) := fun H locs ls hP hD hS hl => lv_astoreN C.1.1 C.1.2.1 d hl hn hl' (fun ls' h' => h H locs ls' hP hD hS h')
end AtNull
