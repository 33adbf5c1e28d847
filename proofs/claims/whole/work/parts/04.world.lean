def cw (V : gV) (σ : St) : va_W := [(V.1 0, .inr (8, [.ref (V.1 1), .ref (V.1 2), .ref (V.1 3), .ref (V.1 4), .ref (V.1 5), .ref (V.1 6), .ref (V.1 7)])), (V.1 1, .inr (0, [.ref (V.1 10), .ref (V.1 11), .ref (V.1 12), .ref (V.1 13), .int (σ.2.1 0)])), (V.1 2, .inr (4, [.ref (V.1 14), .ref (V.1 15), .ref (V.1 16), .ref (V.1 17), .ref (V.1 18), .int (σ.2.1 1)])), (V.1 3, .inr (1, [.ref (V.1 19), .ref (V.1 8)])), (V.1 4, .inr (6, [.ref (V.1 21), .int (σ.2.1 2)])), (V.1 5, .inr (5, [.ref (V.1 22), .ref (V.1 23), .ref (V.1 24), .int (σ.2.1 3)])), (V.1 6, .inr (3, [.ref (V.1 1), .ref (V.1 2), .ref (V.1 5), .ref (V.1 9), .ref (V.1 25)])), (V.1 7, .inr (2, [.ref (V.1 1), .ref (V.1 2), .ref (V.1 27), .ref (V.1 28), .ref (V.1 29), .ref (V.1 30), .ref (V.1 31), .ref (V.1 32), .ref (V.1 33)])), (V.1 8, .inr (7, [.ref (V.1 20), .int (σ.2.1 4), .int (σ.2.1 5)])), (V.1 9, .inr (7, [.ref (V.1 26), .int (σ.2.1 6), .int (σ.2.1 7)])), (V.1 10, .inl (V.2.1, 6, .inl (σ.1 10))), (V.1 11, .inl (V.2.1, 6, .inl (σ.1 11))), (V.1 12, .inl (V.2.1, 6, .inl (σ.1 12))), (V.1 13, .inl (V.2.1, 36, .inl (σ.1 13))), (V.1 14, .inl (V.2.1, 6, .inl (σ.1 14))), (V.1 15, .inl (V.2.1, 6, .inl (σ.1 15))), (V.1 16, .inl (V.2.1, 6, .inl (σ.1 16))), (V.1 17, .inl (V.2.1, 6, .inl (σ.1 17))), (V.1 18, .inl (V.2.1, 36, .inl (σ.1 18))), (V.1 19, .inl (V.2.1, 36, .inl (σ.1 19))), (V.1 20, .inl (V.2.1, 6, .inl (σ.1 20))), (V.1 21, .inl (V.2.1, 40, .inl (σ.1 21))), (V.1 22, .inl (V.2.1, 10, .inl (σ.1 22))), (V.1 23, .inl (V.2.1, 10, .inl (σ.1 23))), (V.1 24, .inl (V.2.1, 10, .inl (σ.1 24))), (V.1 25, .inl (V.2.1, 36, .inl (σ.1 25))), (V.1 26, .inl (V.2.1, 6, .inl (σ.1 26))), (V.1 27, .inl (V.2.1, 6, .inl (σ.1 27))), (V.1 28, .inl (V.2.1, 6, .inl (σ.1 28))), (V.1 29, .inl (V.2.1, 6, .inl (σ.1 29))), (V.1 30, .inl (V.2.2, 6, .inr (.inl (σ.2.2 30)))), (V.1 31, .inl (V.2.2, 6, .inr (.inl (σ.2.2 31)))), (V.1 32, .inl (V.2.1, 6, .inl (σ.1 32))), (V.1 33, .inl (V.2.1, 6, .inl (σ.1 33)))]
theorem cwG0 (V : gV) (σ : St) : (cw V σ)[0]? = some (V.1 0, .inr (8, [.ref (V.1 1), .ref (V.1 2), .ref (V.1 3), .ref (V.1 4), .ref (V.1 5), .ref (V.1 6), .ref (V.1 7)])) := rfl
theorem cwG1 (V : gV) (σ : St) : (cw V σ)[1]? = some (V.1 1, .inr (0, [.ref (V.1 10), .ref (V.1 11), .ref (V.1 12), .ref (V.1 13), .int (σ.2.1 0)])) := rfl
theorem cwI0 (V : gV) (σ : St) (x : Int32) : (cw V σ).set 1 (V.1 1, .inr (0, ([.ref (V.1 10), .ref (V.1 11), .ref (V.1 12), .ref (V.1 13), .int (σ.2.1 0)] : List Value).set 4 (.int x))) = cw V (uI σ 0 x) := rfl
theorem cwG2 (V : gV) (σ : St) : (cw V σ)[2]? = some (V.1 2, .inr (4, [.ref (V.1 14), .ref (V.1 15), .ref (V.1 16), .ref (V.1 17), .ref (V.1 18), .int (σ.2.1 1)])) := rfl
theorem cwI1 (V : gV) (σ : St) (x : Int32) : (cw V σ).set 2 (V.1 2, .inr (4, ([.ref (V.1 14), .ref (V.1 15), .ref (V.1 16), .ref (V.1 17), .ref (V.1 18), .int (σ.2.1 1)] : List Value).set 5 (.int x))) = cw V (uI σ 1 x) := rfl
theorem cwG3 (V : gV) (σ : St) : (cw V σ)[3]? = some (V.1 3, .inr (1, [.ref (V.1 19), .ref (V.1 8)])) := rfl
theorem cwG4 (V : gV) (σ : St) : (cw V σ)[4]? = some (V.1 4, .inr (6, [.ref (V.1 21), .int (σ.2.1 2)])) := rfl
theorem cwI2 (V : gV) (σ : St) (x : Int32) : (cw V σ).set 4 (V.1 4, .inr (6, ([.ref (V.1 21), .int (σ.2.1 2)] : List Value).set 1 (.int x))) = cw V (uI σ 2 x) := rfl
theorem cwG5 (V : gV) (σ : St) : (cw V σ)[5]? = some (V.1 5, .inr (5, [.ref (V.1 22), .ref (V.1 23), .ref (V.1 24), .int (σ.2.1 3)])) := rfl
theorem cwI3 (V : gV) (σ : St) (x : Int32) : (cw V σ).set 5 (V.1 5, .inr (5, ([.ref (V.1 22), .ref (V.1 23), .ref (V.1 24), .int (σ.2.1 3)] : List Value).set 3 (.int x))) = cw V (uI σ 3 x) := rfl
theorem cwG6 (V : gV) (σ : St) : (cw V σ)[6]? = some (V.1 6, .inr (3, [.ref (V.1 1), .ref (V.1 2), .ref (V.1 5), .ref (V.1 9), .ref (V.1 25)])) := rfl
theorem cwG7 (V : gV) (σ : St) : (cw V σ)[7]? = some (V.1 7, .inr (2, [.ref (V.1 1), .ref (V.1 2), .ref (V.1 27), .ref (V.1 28), .ref (V.1 29), .ref (V.1 30), .ref (V.1 31), .ref (V.1 32), .ref (V.1 33)])) := rfl
theorem cwG8 (V : gV) (σ : St) : (cw V σ)[8]? = some (V.1 8, .inr (7, [.ref (V.1 20), .int (σ.2.1 4), .int (σ.2.1 5)])) := rfl
theorem cwI4 (V : gV) (σ : St) (x : Int32) : (cw V σ).set 8 (V.1 8, .inr (7, ([.ref (V.1 20), .int (σ.2.1 4), .int (σ.2.1 5)] : List Value).set 1 (.int x))) = cw V (uI σ 4 x) := rfl
theorem cwI5 (V : gV) (σ : St) (x : Int32) : (cw V σ).set 8 (V.1 8, .inr (7, ([.ref (V.1 20), .int (σ.2.1 4), .int (σ.2.1 5)] : List Value).set 2 (.int x))) = cw V (uI σ 5 x) := rfl
theorem cwG9 (V : gV) (σ : St) : (cw V σ)[9]? = some (V.1 9, .inr (7, [.ref (V.1 26), .int (σ.2.1 6), .int (σ.2.1 7)])) := rfl
theorem cwI6 (V : gV) (σ : St) (x : Int32) : (cw V σ).set 9 (V.1 9, .inr (7, ([.ref (V.1 26), .int (σ.2.1 6), .int (σ.2.1 7)] : List Value).set 1 (.int x))) = cw V (uI σ 6 x) := rfl
theorem cwI7 (V : gV) (σ : St) (x : Int32) : (cw V σ).set 9 (V.1 9, .inr (7, ([.ref (V.1 26), .int (σ.2.1 6), .int (σ.2.1 7)] : List Value).set 2 (.int x))) = cw V (uI σ 7 x) := rfl
theorem cwG10 (V : gV) (σ : St) : (cw V σ)[10]? = some (V.1 10, .inl (V.2.1, 6, .inl (σ.1 10))) := rfl
theorem cwA10 (V : gV) (σ : St) (i : Nat) (x : Int32) : (cw V σ).set 10 (V.1 10, .inl (V.2.1, 6, .inl (upd (σ.1 10) i x))) = cw V (uA σ 10 i x) := rfl
theorem cwG11 (V : gV) (σ : St) : (cw V σ)[11]? = some (V.1 11, .inl (V.2.1, 6, .inl (σ.1 11))) := rfl
theorem cwA11 (V : gV) (σ : St) (i : Nat) (x : Int32) : (cw V σ).set 11 (V.1 11, .inl (V.2.1, 6, .inl (upd (σ.1 11) i x))) = cw V (uA σ 11 i x) := rfl
theorem cwG12 (V : gV) (σ : St) : (cw V σ)[12]? = some (V.1 12, .inl (V.2.1, 6, .inl (σ.1 12))) := rfl
theorem cwA12 (V : gV) (σ : St) (i : Nat) (x : Int32) : (cw V σ).set 12 (V.1 12, .inl (V.2.1, 6, .inl (upd (σ.1 12) i x))) = cw V (uA σ 12 i x) := rfl
theorem cwG13 (V : gV) (σ : St) : (cw V σ)[13]? = some (V.1 13, .inl (V.2.1, 36, .inl (σ.1 13))) := rfl
theorem cwA13 (V : gV) (σ : St) (i : Nat) (x : Int32) : (cw V σ).set 13 (V.1 13, .inl (V.2.1, 36, .inl (upd (σ.1 13) i x))) = cw V (uA σ 13 i x) := rfl
theorem cwG14 (V : gV) (σ : St) : (cw V σ)[14]? = some (V.1 14, .inl (V.2.1, 6, .inl (σ.1 14))) := rfl
theorem cwA14 (V : gV) (σ : St) (i : Nat) (x : Int32) : (cw V σ).set 14 (V.1 14, .inl (V.2.1, 6, .inl (upd (σ.1 14) i x))) = cw V (uA σ 14 i x) := rfl
theorem cwG15 (V : gV) (σ : St) : (cw V σ)[15]? = some (V.1 15, .inl (V.2.1, 6, .inl (σ.1 15))) := rfl
theorem cwA15 (V : gV) (σ : St) (i : Nat) (x : Int32) : (cw V σ).set 15 (V.1 15, .inl (V.2.1, 6, .inl (upd (σ.1 15) i x))) = cw V (uA σ 15 i x) := rfl
theorem cwG16 (V : gV) (σ : St) : (cw V σ)[16]? = some (V.1 16, .inl (V.2.1, 6, .inl (σ.1 16))) := rfl
theorem cwA16 (V : gV) (σ : St) (i : Nat) (x : Int32) : (cw V σ).set 16 (V.1 16, .inl (V.2.1, 6, .inl (upd (σ.1 16) i x))) = cw V (uA σ 16 i x) := rfl
theorem cwG17 (V : gV) (σ : St) : (cw V σ)[17]? = some (V.1 17, .inl (V.2.1, 6, .inl (σ.1 17))) := rfl
theorem cwA17 (V : gV) (σ : St) (i : Nat) (x : Int32) : (cw V σ).set 17 (V.1 17, .inl (V.2.1, 6, .inl (upd (σ.1 17) i x))) = cw V (uA σ 17 i x) := rfl
theorem cwG18 (V : gV) (σ : St) : (cw V σ)[18]? = some (V.1 18, .inl (V.2.1, 36, .inl (σ.1 18))) := rfl
theorem cwA18 (V : gV) (σ : St) (i : Nat) (x : Int32) : (cw V σ).set 18 (V.1 18, .inl (V.2.1, 36, .inl (upd (σ.1 18) i x))) = cw V (uA σ 18 i x) := rfl
theorem cwG19 (V : gV) (σ : St) : (cw V σ)[19]? = some (V.1 19, .inl (V.2.1, 36, .inl (σ.1 19))) := rfl
theorem cwA19 (V : gV) (σ : St) (i : Nat) (x : Int32) : (cw V σ).set 19 (V.1 19, .inl (V.2.1, 36, .inl (upd (σ.1 19) i x))) = cw V (uA σ 19 i x) := rfl
theorem cwG20 (V : gV) (σ : St) : (cw V σ)[20]? = some (V.1 20, .inl (V.2.1, 6, .inl (σ.1 20))) := rfl
theorem cwA20 (V : gV) (σ : St) (i : Nat) (x : Int32) : (cw V σ).set 20 (V.1 20, .inl (V.2.1, 6, .inl (upd (σ.1 20) i x))) = cw V (uA σ 20 i x) := rfl
theorem cwG21 (V : gV) (σ : St) : (cw V σ)[21]? = some (V.1 21, .inl (V.2.1, 40, .inl (σ.1 21))) := rfl
theorem cwA21 (V : gV) (σ : St) (i : Nat) (x : Int32) : (cw V σ).set 21 (V.1 21, .inl (V.2.1, 40, .inl (upd (σ.1 21) i x))) = cw V (uA σ 21 i x) := rfl
theorem cwG22 (V : gV) (σ : St) : (cw V σ)[22]? = some (V.1 22, .inl (V.2.1, 10, .inl (σ.1 22))) := rfl
theorem cwA22 (V : gV) (σ : St) (i : Nat) (x : Int32) : (cw V σ).set 22 (V.1 22, .inl (V.2.1, 10, .inl (upd (σ.1 22) i x))) = cw V (uA σ 22 i x) := rfl
theorem cwG23 (V : gV) (σ : St) : (cw V σ)[23]? = some (V.1 23, .inl (V.2.1, 10, .inl (σ.1 23))) := rfl
theorem cwA23 (V : gV) (σ : St) (i : Nat) (x : Int32) : (cw V σ).set 23 (V.1 23, .inl (V.2.1, 10, .inl (upd (σ.1 23) i x))) = cw V (uA σ 23 i x) := rfl
theorem cwG24 (V : gV) (σ : St) : (cw V σ)[24]? = some (V.1 24, .inl (V.2.1, 10, .inl (σ.1 24))) := rfl
theorem cwA24 (V : gV) (σ : St) (i : Nat) (x : Int32) : (cw V σ).set 24 (V.1 24, .inl (V.2.1, 10, .inl (upd (σ.1 24) i x))) = cw V (uA σ 24 i x) := rfl
theorem cwG25 (V : gV) (σ : St) : (cw V σ)[25]? = some (V.1 25, .inl (V.2.1, 36, .inl (σ.1 25))) := rfl
theorem cwA25 (V : gV) (σ : St) (i : Nat) (x : Int32) : (cw V σ).set 25 (V.1 25, .inl (V.2.1, 36, .inl (upd (σ.1 25) i x))) = cw V (uA σ 25 i x) := rfl
theorem cwG26 (V : gV) (σ : St) : (cw V σ)[26]? = some (V.1 26, .inl (V.2.1, 6, .inl (σ.1 26))) := rfl
theorem cwA26 (V : gV) (σ : St) (i : Nat) (x : Int32) : (cw V σ).set 26 (V.1 26, .inl (V.2.1, 6, .inl (upd (σ.1 26) i x))) = cw V (uA σ 26 i x) := rfl
theorem cwG27 (V : gV) (σ : St) : (cw V σ)[27]? = some (V.1 27, .inl (V.2.1, 6, .inl (σ.1 27))) := rfl
theorem cwA27 (V : gV) (σ : St) (i : Nat) (x : Int32) : (cw V σ).set 27 (V.1 27, .inl (V.2.1, 6, .inl (upd (σ.1 27) i x))) = cw V (uA σ 27 i x) := rfl
theorem cwG28 (V : gV) (σ : St) : (cw V σ)[28]? = some (V.1 28, .inl (V.2.1, 6, .inl (σ.1 28))) := rfl
theorem cwA28 (V : gV) (σ : St) (i : Nat) (x : Int32) : (cw V σ).set 28 (V.1 28, .inl (V.2.1, 6, .inl (upd (σ.1 28) i x))) = cw V (uA σ 28 i x) := rfl
theorem cwG29 (V : gV) (σ : St) : (cw V σ)[29]? = some (V.1 29, .inl (V.2.1, 6, .inl (σ.1 29))) := rfl
theorem cwA29 (V : gV) (σ : St) (i : Nat) (x : Int32) : (cw V σ).set 29 (V.1 29, .inl (V.2.1, 6, .inl (upd (σ.1 29) i x))) = cw V (uA σ 29 i x) := rfl
theorem cwG30 (V : gV) (σ : St) : (cw V σ)[30]? = some (V.1 30, .inl (V.2.2, 6, .inr (.inl (σ.2.2 30)))) := rfl
theorem cwL30 (V : gV) (σ : St) (i : Nat) (x : Int64) : (cw V σ).set 30 (V.1 30, .inl (V.2.2, 6, .inr (.inl (vp_updL (σ.2.2 30) i x)))) = cw V (uL σ 30 i x) := rfl
theorem cwG31 (V : gV) (σ : St) : (cw V σ)[31]? = some (V.1 31, .inl (V.2.2, 6, .inr (.inl (σ.2.2 31)))) := rfl
theorem cwL31 (V : gV) (σ : St) (i : Nat) (x : Int64) : (cw V σ).set 31 (V.1 31, .inl (V.2.2, 6, .inr (.inl (vp_updL (σ.2.2 31) i x)))) = cw V (uL σ 31 i x) := rfl
theorem cwG32 (V : gV) (σ : St) : (cw V σ)[32]? = some (V.1 32, .inl (V.2.1, 6, .inl (σ.1 32))) := rfl
theorem cwA32 (V : gV) (σ : St) (i : Nat) (x : Int32) : (cw V σ).set 32 (V.1 32, .inl (V.2.1, 6, .inl (upd (σ.1 32) i x))) = cw V (uA σ 32 i x) := rfl
theorem cwG33 (V : gV) (σ : St) : (cw V σ)[33]? = some (V.1 33, .inl (V.2.1, 6, .inl (σ.1 33))) := rfl
theorem cwA33 (V : gV) (σ : St) (i : Nat) (x : Int32) : (cw V σ).set 33 (V.1 33, .inl (V.2.1, 6, .inl (upd (σ.1 33) i x))) = cw V (uA σ 33 i x) := rfl
def mw (V : gV) (σ : St) : va_W := [(V.1 0, .inr (9, [.ref (V.1 1), .ref (V.1 2), .ref (V.1 3), .int (σ.2.1 0), .ref (V.1 4), .ref (V.1 5), .ref (V.1 6), .ref (V.1 7), .ref (V.1 8), .int (σ.2.1 1), .ref (V.1 9), .ref (V.1 10), .ref (V.1 11), .int (σ.2.1 2), .ref (V.1 12), .ref (V.1 13), .ref (V.1 14), .int (σ.2.1 3), .ref (V.1 15), .ref (V.1 16)])), (V.1 1, .inl (V.2.1, 6, .inl (σ.1 1))), (V.1 2, .inl (V.2.1, 6, .inl (σ.1 2))), (V.1 3, .inl (V.2.1, 6, .inl (σ.1 3))), (V.1 4, .inl (V.2.1, 36, .inl (σ.1 4))), (V.1 5, .inl (V.2.1, 6, .inl (σ.1 5))), (V.1 6, .inl (V.2.1, 6, .inl (σ.1 6))), (V.1 7, .inl (V.2.1, 6, .inl (σ.1 7))), (V.1 8, .inl (V.2.1, 6, .inl (σ.1 8))), (V.1 9, .inl (V.2.1, 36, .inl (σ.1 9))), (V.1 10, .inl (V.2.1, 36, .inl (σ.1 10))), (V.1 11, .inl (V.2.1, 40, .inl (σ.1 11))), (V.1 12, .inl (V.2.1, 12, .inl (σ.1 12))), (V.1 13, .inl (V.2.1, 12, .inl (σ.1 13))), (V.1 14, .inl (V.2.1, 12, .inl (σ.1 14))), (V.1 15, .inl (V.2.1, 6, .inl (σ.1 15))), (V.1 16, .inl (V.2.1, 109375, .inl (σ.1 16)))]
theorem mwG0 (V : gV) (σ : St) : (mw V σ)[0]? = some (V.1 0, .inr (9, [.ref (V.1 1), .ref (V.1 2), .ref (V.1 3), .int (σ.2.1 0), .ref (V.1 4), .ref (V.1 5), .ref (V.1 6), .ref (V.1 7), .ref (V.1 8), .int (σ.2.1 1), .ref (V.1 9), .ref (V.1 10), .ref (V.1 11), .int (σ.2.1 2), .ref (V.1 12), .ref (V.1 13), .ref (V.1 14), .int (σ.2.1 3), .ref (V.1 15), .ref (V.1 16)])) := rfl
theorem mwI0 (V : gV) (σ : St) (x : Int32) : (mw V σ).set 0 (V.1 0, .inr (9, ([.ref (V.1 1), .ref (V.1 2), .ref (V.1 3), .int (σ.2.1 0), .ref (V.1 4), .ref (V.1 5), .ref (V.1 6), .ref (V.1 7), .ref (V.1 8), .int (σ.2.1 1), .ref (V.1 9), .ref (V.1 10), .ref (V.1 11), .int (σ.2.1 2), .ref (V.1 12), .ref (V.1 13), .ref (V.1 14), .int (σ.2.1 3), .ref (V.1 15), .ref (V.1 16)] : List Value).set 3 (.int x))) = mw V (uI σ 0 x) := rfl
theorem mwI1 (V : gV) (σ : St) (x : Int32) : (mw V σ).set 0 (V.1 0, .inr (9, ([.ref (V.1 1), .ref (V.1 2), .ref (V.1 3), .int (σ.2.1 0), .ref (V.1 4), .ref (V.1 5), .ref (V.1 6), .ref (V.1 7), .ref (V.1 8), .int (σ.2.1 1), .ref (V.1 9), .ref (V.1 10), .ref (V.1 11), .int (σ.2.1 2), .ref (V.1 12), .ref (V.1 13), .ref (V.1 14), .int (σ.2.1 3), .ref (V.1 15), .ref (V.1 16)] : List Value).set 9 (.int x))) = mw V (uI σ 1 x) := rfl
theorem mwI2 (V : gV) (σ : St) (x : Int32) : (mw V σ).set 0 (V.1 0, .inr (9, ([.ref (V.1 1), .ref (V.1 2), .ref (V.1 3), .int (σ.2.1 0), .ref (V.1 4), .ref (V.1 5), .ref (V.1 6), .ref (V.1 7), .ref (V.1 8), .int (σ.2.1 1), .ref (V.1 9), .ref (V.1 10), .ref (V.1 11), .int (σ.2.1 2), .ref (V.1 12), .ref (V.1 13), .ref (V.1 14), .int (σ.2.1 3), .ref (V.1 15), .ref (V.1 16)] : List Value).set 13 (.int x))) = mw V (uI σ 2 x) := rfl
theorem mwI3 (V : gV) (σ : St) (x : Int32) : (mw V σ).set 0 (V.1 0, .inr (9, ([.ref (V.1 1), .ref (V.1 2), .ref (V.1 3), .int (σ.2.1 0), .ref (V.1 4), .ref (V.1 5), .ref (V.1 6), .ref (V.1 7), .ref (V.1 8), .int (σ.2.1 1), .ref (V.1 9), .ref (V.1 10), .ref (V.1 11), .int (σ.2.1 2), .ref (V.1 12), .ref (V.1 13), .ref (V.1 14), .int (σ.2.1 3), .ref (V.1 15), .ref (V.1 16)] : List Value).set 17 (.int x))) = mw V (uI σ 3 x) := rfl
theorem mwG1 (V : gV) (σ : St) : (mw V σ)[1]? = some (V.1 1, .inl (V.2.1, 6, .inl (σ.1 1))) := rfl
theorem mwA1 (V : gV) (σ : St) (i : Nat) (x : Int32) : (mw V σ).set 1 (V.1 1, .inl (V.2.1, 6, .inl (upd (σ.1 1) i x))) = mw V (uA σ 1 i x) := rfl
theorem mwG2 (V : gV) (σ : St) : (mw V σ)[2]? = some (V.1 2, .inl (V.2.1, 6, .inl (σ.1 2))) := rfl
theorem mwA2 (V : gV) (σ : St) (i : Nat) (x : Int32) : (mw V σ).set 2 (V.1 2, .inl (V.2.1, 6, .inl (upd (σ.1 2) i x))) = mw V (uA σ 2 i x) := rfl
theorem mwG3 (V : gV) (σ : St) : (mw V σ)[3]? = some (V.1 3, .inl (V.2.1, 6, .inl (σ.1 3))) := rfl
theorem mwA3 (V : gV) (σ : St) (i : Nat) (x : Int32) : (mw V σ).set 3 (V.1 3, .inl (V.2.1, 6, .inl (upd (σ.1 3) i x))) = mw V (uA σ 3 i x) := rfl
theorem mwG4 (V : gV) (σ : St) : (mw V σ)[4]? = some (V.1 4, .inl (V.2.1, 36, .inl (σ.1 4))) := rfl
theorem mwA4 (V : gV) (σ : St) (i : Nat) (x : Int32) : (mw V σ).set 4 (V.1 4, .inl (V.2.1, 36, .inl (upd (σ.1 4) i x))) = mw V (uA σ 4 i x) := rfl
theorem mwG5 (V : gV) (σ : St) : (mw V σ)[5]? = some (V.1 5, .inl (V.2.1, 6, .inl (σ.1 5))) := rfl
theorem mwA5 (V : gV) (σ : St) (i : Nat) (x : Int32) : (mw V σ).set 5 (V.1 5, .inl (V.2.1, 6, .inl (upd (σ.1 5) i x))) = mw V (uA σ 5 i x) := rfl
theorem mwG6 (V : gV) (σ : St) : (mw V σ)[6]? = some (V.1 6, .inl (V.2.1, 6, .inl (σ.1 6))) := rfl
theorem mwA6 (V : gV) (σ : St) (i : Nat) (x : Int32) : (mw V σ).set 6 (V.1 6, .inl (V.2.1, 6, .inl (upd (σ.1 6) i x))) = mw V (uA σ 6 i x) := rfl
theorem mwG7 (V : gV) (σ : St) : (mw V σ)[7]? = some (V.1 7, .inl (V.2.1, 6, .inl (σ.1 7))) := rfl
theorem mwA7 (V : gV) (σ : St) (i : Nat) (x : Int32) : (mw V σ).set 7 (V.1 7, .inl (V.2.1, 6, .inl (upd (σ.1 7) i x))) = mw V (uA σ 7 i x) := rfl
theorem mwG8 (V : gV) (σ : St) : (mw V σ)[8]? = some (V.1 8, .inl (V.2.1, 6, .inl (σ.1 8))) := rfl
theorem mwA8 (V : gV) (σ : St) (i : Nat) (x : Int32) : (mw V σ).set 8 (V.1 8, .inl (V.2.1, 6, .inl (upd (σ.1 8) i x))) = mw V (uA σ 8 i x) := rfl
theorem mwG9 (V : gV) (σ : St) : (mw V σ)[9]? = some (V.1 9, .inl (V.2.1, 36, .inl (σ.1 9))) := rfl
theorem mwA9 (V : gV) (σ : St) (i : Nat) (x : Int32) : (mw V σ).set 9 (V.1 9, .inl (V.2.1, 36, .inl (upd (σ.1 9) i x))) = mw V (uA σ 9 i x) := rfl
theorem mwG10 (V : gV) (σ : St) : (mw V σ)[10]? = some (V.1 10, .inl (V.2.1, 36, .inl (σ.1 10))) := rfl
theorem mwA10 (V : gV) (σ : St) (i : Nat) (x : Int32) : (mw V σ).set 10 (V.1 10, .inl (V.2.1, 36, .inl (upd (σ.1 10) i x))) = mw V (uA σ 10 i x) := rfl
theorem mwG11 (V : gV) (σ : St) : (mw V σ)[11]? = some (V.1 11, .inl (V.2.1, 40, .inl (σ.1 11))) := rfl
theorem mwA11 (V : gV) (σ : St) (i : Nat) (x : Int32) : (mw V σ).set 11 (V.1 11, .inl (V.2.1, 40, .inl (upd (σ.1 11) i x))) = mw V (uA σ 11 i x) := rfl
theorem mwG12 (V : gV) (σ : St) : (mw V σ)[12]? = some (V.1 12, .inl (V.2.1, 12, .inl (σ.1 12))) := rfl
theorem mwA12 (V : gV) (σ : St) (i : Nat) (x : Int32) : (mw V σ).set 12 (V.1 12, .inl (V.2.1, 12, .inl (upd (σ.1 12) i x))) = mw V (uA σ 12 i x) := rfl
theorem mwG13 (V : gV) (σ : St) : (mw V σ)[13]? = some (V.1 13, .inl (V.2.1, 12, .inl (σ.1 13))) := rfl
theorem mwA13 (V : gV) (σ : St) (i : Nat) (x : Int32) : (mw V σ).set 13 (V.1 13, .inl (V.2.1, 12, .inl (upd (σ.1 13) i x))) = mw V (uA σ 13 i x) := rfl
theorem mwG14 (V : gV) (σ : St) : (mw V σ)[14]? = some (V.1 14, .inl (V.2.1, 12, .inl (σ.1 14))) := rfl
theorem mwA14 (V : gV) (σ : St) (i : Nat) (x : Int32) : (mw V σ).set 14 (V.1 14, .inl (V.2.1, 12, .inl (upd (σ.1 14) i x))) = mw V (uA σ 14 i x) := rfl
theorem mwG15 (V : gV) (σ : St) : (mw V σ)[15]? = some (V.1 15, .inl (V.2.1, 6, .inl (σ.1 15))) := rfl
theorem mwA15 (V : gV) (σ : St) (i : Nat) (x : Int32) : (mw V σ).set 15 (V.1 15, .inl (V.2.1, 6, .inl (upd (σ.1 15) i x))) = mw V (uA σ 15 i x) := rfl
theorem mwG16 (V : gV) (σ : St) : (mw V σ)[16]? = some (V.1 16, .inl (V.2.1, 109375, .inl (σ.1 16))) := rfl
theorem mwA16 (V : gV) (σ : St) (i : Nat) (x : Int32) : (mw V σ).set 16 (V.1 16, .inl (V.2.1, 109375, .inl (upd (σ.1 16) i x))) = mw V (uA σ 16 i x) := rfl
