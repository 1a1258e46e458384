/-! The class's world. -/
def fsK (q : Nat → Nat) (b : Nat) (A : St) : List Value := [.ref (q 1), .ref (q 3), .ref (q 6), .ref (q 20), .ref (q 22), .ref (q 27), .ref (q 30), .ref (q 41), .ref (q 50), .ref (q (51 + 31 * (A 0 9).toNat)), .ref (q (51 + 31 * (A 0 10).toNat))]
def fsTP (q : Nat → Nat) (b : Nat) (A : St) : List Value := [.ref (q 2), .int (iI (A 1 1))]
def fsRD (q : Nat → Nat) (b : Nat) (A : St) : List Value := [.ref (q 5), .ref (q 4), .int (iI (A 3 2)), .int (iI (A 3 3)), .int (iI (A 3 4))]
def fsLX (q : Nat → Nat) (b : Nat) (A : St) : List Value := [.ref (q 1), .int (iI (A 5 1)), .int (iI (A 5 2)), .int (iI (A 5 3)), .int (iI (A 5 4)), .int (iI (A 5 5)), .int (iI (A 5 6))]
def fsAL (q : Nat → Nat) (b : Nat) (A : St) : List Value := [.ref (q 7), .ref (q 8), .ref (q 13), .ref (q 14), .ref (q 15), .ref (q 16), .ref (q 17), .ref (q (18 + (A 6 7).toNat)), .ref (q (18 + (A 6 8).toNat)), .int (iI (A 6 9)), .int (iI (A 6 10)), .int (iI (A 6 11)), .int (iI (A 6 12)), .int (iI (A 6 13)), .int (iI (A 6 14)), .int (iI (A 6 15)), .int (iI (A 6 16))]
def fsHR (q : Nat → Nat) (b : Nat) (A : St) : List Value := [.ref (q 21)]
def fsFD (q : Nat → Nat) (b : Nat) (A : St) : List Value := [.ref (q 23), .ref (q 24), .ref (q 25), .ref (q 26), .int (iI (A 22 4)), .int (iI (A 22 5)), .int (iI (A 22 6)), .int (iI (A 22 7))]
def fsWT (q : Nat → Nat) (b : Nat) (A : St) : List Value := [.ref (q 28), .ref (q 29)]
def fsPC (q : Nat → Nat) (b : Nat) (A : St) : List Value := [.ref (q 31), .ref (q 32), .int (iI (A 30 2))]
def fsS (q : Nat → Nat) (b : Nat) (A : St) : List Value := [.ref (q (b + 1)), .ref (q (b + 2)), .ref (q (b + 3)), .ref (q (b + 4))]
def fsE (q : Nat → Nat) (b : Nat) (A : St) : List Value := [.ref (q (b + 1)), .ref (q (b + 2)), .int (iI (A b 2))]
def fsT (q : Nat → Nat) (b : Nat) (A : St) : List Value := [.ref (q (b + 1)), .ref (q (b + 2)), .ref (q (b + 8)), .ref (q (b + 9)), .ref (q (b + 10)), .ref (q (b + 11)), .ref (q (b + 12)), .ref (q (b + 13)), .ref (q (b + 14)), .ref (q (b + 15)), .ref (q (b + 16)), .ref (q (b + 17)), .ref (q (b + 18)), .ref (q (b + 19)), .ref (q (b + 22)), .int (iI (A b 15))]
def WK (cB cI cJ cZ cQ : ClassId) (q : Nat → Nat) (A : St) : va_W := [(q 0, .inr (11, fsK q 0 A)), (q 1, .inr (7, fsTP q 0 A)), (q 2, .inl (cB, 1600, .inl (aI (A 2)))), (q 3, .inr (5, fsRD q 0 A)), (q 4, .inl (cI, 26, .inl (aI (A 4)))), (q 5, .inr (3, fsLX q 0 A)), (q 6, .inr (0, fsAL q 0 A)), (q 7, .inl (cJ, 1201, .inr (.inl (aJ (A 7))))), (q 8, .inl (cQ, 4, .inr (.inr (.inr (.inr (fun i => ([q 9, q 10, q 11, q 12] : List Nat)[i]?)))))), (q 9, .inl (cI, 7, .inl (aI (A 9)))), (q 10, .inl (cI, 7, .inl (aI (A 10)))), (q 11, .inl (cI, 7, .inl (aI (A 11)))), (q 12, .inl (cI, 7, .inl (aI (A 12)))), (q 13, .inl (cI, 4, .inl (aI (A 13)))), (q 14, .inl (cI, 4, .inl (aI (A 14)))), (q 15, .inl (cI, 8, .inl (aI (A 15)))), (q 16, .inl (cI, 88, .inl (aI (A 16)))), (q 17, .inl (cI, 2, .inl (aI (A 17)))), (q 18, .inl (cJ, 1201, .inr (.inl (aJ (A 18))))), (q 19, .inl (cJ, 1201, .inr (.inl (aJ (A 19))))), (q 20, .inr (2, fsHR q 0 A)), (q 21, .inl (cI, 6, .inl (aI (A 21)))), (q 22, .inr (1, fsFD q 0 A)), (q 23, .inl (cI, 20, .inl (aI (A 23)))), (q 24, .inl (cZ, 20, .inl (aI (A 24)))), (q 25, .inl (cI, 3, .inl (aI (A 25)))), (q 26, .inl (cI, 3, .inl (aI (A 26)))), (q 27, .inr (10, fsWT q 0 A)), (q 28, .inl (cI, 64, .inl (aI (A 28)))), (q 29, .inl (cI, 2048, .inl (aI (A 29)))), (q 30, .inr (4, fsPC q 0 A)), (q 31, .inl (cI, 36, .inl (aI (A 31)))), (q 32, .inr (6, fsS q 32 A)), (q 33, .inl (cI, 3, .inl (aI (A 33)))), (q 34, .inl (cI, 4, .inl (aI (A 34)))), (q 35, .inl (cI, 4, .inl (aI (A 35)))), (q 36, .inl (cQ, 4, .inr (.inr (.inr (.inr (fun i => ([q 37, q 38, q 39, q 40] : List Nat)[i]?)))))), (q 37, .inl (cI, 6, .inl (aI (A 37)))), (q 38, .inl (cI, 6, .inl (aI (A 38)))), (q 39, .inl (cI, 6, .inl (aI (A 39)))), (q 40, .inl (cI, 6, .inl (aI (A 40)))), (q 41, .inr (6, fsS q 41 A)), (q 42, .inl (cI, 3, .inl (aI (A 42)))), (q 43, .inl (cI, 4, .inl (aI (A 43)))), (q 44, .inl (cI, 4, .inl (aI (A 44)))), (q 45, .inl (cQ, 4, .inr (.inr (.inr (.inr (fun i => ([q 46, q 47, q 48, q 49] : List Nat)[i]?)))))), (q 46, .inl (cI, 6, .inl (aI (A 46)))), (q 47, .inl (cI, 6, .inl (aI (A 47)))), (q 48, .inl (cI, 6, .inl (aI (A 48)))), (q 49, .inl (cI, 6, .inl (aI (A 49)))), (q 50, .inl (cI, 6, .inl (aI (A 50)))), (q 51, .inr (9, fsT q 51 A)), (q 52, .inl (cI, 8, .inl (aI (A 52)))), (q 53, .inl (cQ, 5, .inr (.inr (.inr (.inr (fun i => ([q 54, q 55, q 56, q 57, q 58] : List Nat)[i]?)))))), (q 54, .inl (cI, 10, .inl (aI (A 54)))), (q 55, .inl (cI, 10, .inl (aI (A 55)))), (q 56, .inl (cI, 10, .inl (aI (A 56)))), (q 57, .inl (cI, 10, .inl (aI (A 57)))), (q 58, .inl (cI, 10, .inl (aI (A 58)))), (q 59, .inl (cI, 10, .inl (aI (A 59)))), (q 60, .inl (cI, 10, .inl (aI (A 60)))), (q 61, .inl (cI, 10, .inl (aI (A 61)))), (q 62, .inl (cI, 4, .inl (aI (A 62)))), (q 63, .inl (cI, 3, .inl (aI (A 63)))), (q 64, .inl (cI, 6, .inl (aI (A 64)))), (q 65, .inl (cI, 6, .inl (aI (A 65)))), (q 66, .inl (cI, 6, .inl (aI (A 66)))), (q 67, .inl (cI, 6, .inl (aI (A 67)))), (q 68, .inl (cI, 6, .inl (aI (A 68)))), (q 69, .inl (cI, 6, .inl (aI (A 69)))), (q 70, .inr (8, fsE q 70 A)), (q 71, .inl (cI, 1600, .inl (aI (A 71)))), (q 72, .inl (cI, 64, .inl (aI (A 72)))), (q 73, .inr (6, fsS q 73 A)), (q 74, .inl (cI, 3, .inl (aI (A 74)))), (q 75, .inl (cI, 4, .inl (aI (A 75)))), (q 76, .inl (cI, 4, .inl (aI (A 76)))), (q 77, .inl (cQ, 4, .inr (.inr (.inr (.inr (fun i => ([q 78, q 79, q 80, q 81] : List Nat)[i]?)))))), (q 78, .inl (cI, 6, .inl (aI (A 78)))), (q 79, .inl (cI, 6, .inl (aI (A 79)))), (q 80, .inl (cI, 6, .inl (aI (A 80)))), (q 81, .inl (cI, 6, .inl (aI (A 81)))), (q 82, .inr (9, fsT q 82 A)), (q 83, .inl (cI, 8, .inl (aI (A 83)))), (q 84, .inl (cQ, 5, .inr (.inr (.inr (.inr (fun i => ([q 85, q 86, q 87, q 88, q 89] : List Nat)[i]?)))))), (q 85, .inl (cI, 10, .inl (aI (A 85)))), (q 86, .inl (cI, 10, .inl (aI (A 86)))), (q 87, .inl (cI, 10, .inl (aI (A 87)))), (q 88, .inl (cI, 10, .inl (aI (A 88)))), (q 89, .inl (cI, 10, .inl (aI (A 89)))), (q 90, .inl (cI, 10, .inl (aI (A 90)))), (q 91, .inl (cI, 10, .inl (aI (A 91)))), (q 92, .inl (cI, 10, .inl (aI (A 92)))), (q 93, .inl (cI, 4, .inl (aI (A 93)))), (q 94, .inl (cI, 3, .inl (aI (A 94)))), (q 95, .inl (cI, 6, .inl (aI (A 95)))), (q 96, .inl (cI, 6, .inl (aI (A 96)))), (q 97, .inl (cI, 6, .inl (aI (A 97)))), (q 98, .inl (cI, 6, .inl (aI (A 98)))), (q 99, .inl (cI, 6, .inl (aI (A 99)))), (q 100, .inl (cI, 6, .inl (aI (A 100)))), (q 101, .inr (8, fsE q 101 A)), (q 102, .inl (cI, 1600, .inl (aI (A 102)))), (q 103, .inl (cI, 64, .inl (aI (A 103)))), (q 104, .inr (6, fsS q 104 A)), (q 105, .inl (cI, 3, .inl (aI (A 105)))), (q 106, .inl (cI, 4, .inl (aI (A 106)))), (q 107, .inl (cI, 4, .inl (aI (A 107)))), (q 108, .inl (cQ, 4, .inr (.inr (.inr (.inr (fun i => ([q 109, q 110, q 111, q 112] : List Nat)[i]?)))))), (q 109, .inl (cI, 6, .inl (aI (A 109)))), (q 110, .inl (cI, 6, .inl (aI (A 110)))), (q 111, .inl (cI, 6, .inl (aI (A 111)))), (q 112, .inl (cI, 6, .inl (aI (A 112))))]
def rlK : List (Nat → Int) := [fun k => (([-9223372036854775808, -9223372036854775808, -9223372036854775808, -9223372036854775808, -9223372036854775808, -9223372036854775808, -9223372036854775808, -9223372036854775808, -9223372036854775808, 0, 0] : List Int).getD k (-9223372036854775808)), fun k => (([-9223372036854775808, 0] : List Int).getD k (-9223372036854775808)), fun _ => (-128), fun k => (([-9223372036854775808, -9223372036854775808, 0, -1, 0] : List Int).getD k (-9223372036854775808)), fun _ => (-2147483648), fun k => (([-9223372036854775808, 0, 0, 0, -2147483648, -1, 0] : List Int).getD k (-9223372036854775808)), fun k => (([-9223372036854775808, -9223372036854775808, -9223372036854775808, -9223372036854775808, -9223372036854775808, -9223372036854775808, -9223372036854775808, 0, 0, 0, -2147483648, -2147483648, -2147483648, -2147483648, -2147483648, -2147483648, -2147483648] : List Int).getD k (-9223372036854775808)), fun _ => (-9223372036854775808), fun _ => (-9223372036854775808), fun _ => (-2147483648), fun _ => (-2147483648), fun _ => (-2147483648), fun _ => (-2147483648), fun _ => (-2147483648), fun _ => (-2147483648), fun _ => (-2147483648), fun _ => (-2147483648), fun _ => (-2147483648), fun _ => (-9223372036854775808), fun _ => (-9223372036854775808), fun k => (([-9223372036854775808] : List Int).getD k (-9223372036854775808)), fun _ => (-2147483648), fun k => (([-9223372036854775808, -9223372036854775808, -9223372036854775808, -9223372036854775808, 0, -2147483648, -2147483648, -2147483648] : List Int).getD k (-9223372036854775808)), fun _ => (-2147483648), fun _ => (0), fun _ => (-2147483648), fun _ => (-2147483648), fun k => (([-9223372036854775808, -9223372036854775808] : List Int).getD k (-9223372036854775808)), fun _ => (-2147483648), fun _ => (-2147483648), fun k => (([-9223372036854775808, -9223372036854775808, 0] : List Int).getD k (-9223372036854775808)), fun _ => (-2147483648), fun k => (([-9223372036854775808, -9223372036854775808, -9223372036854775808, -9223372036854775808] : List Int).getD k (-9223372036854775808)), fun _ => (-2147483648), fun _ => (-2147483648), fun _ => (0), fun _ => (-9223372036854775808), fun _ => (-2147483648), fun _ => (-2147483648), fun _ => (-2147483648), fun _ => (-2147483648), fun k => (([-9223372036854775808, -9223372036854775808, -9223372036854775808, -9223372036854775808] : List Int).getD k (-9223372036854775808)), fun _ => (-2147483648), fun _ => (-2147483648), fun _ => (0), fun _ => (-9223372036854775808), fun _ => (-2147483648), fun _ => (-2147483648), fun _ => (-2147483648), fun _ => (-2147483648), fun _ => (-2147483648), fun k => (([-9223372036854775808, -9223372036854775808, -9223372036854775808, -9223372036854775808, -9223372036854775808, -9223372036854775808, -9223372036854775808, -9223372036854775808, -9223372036854775808, -9223372036854775808, -9223372036854775808, -9223372036854775808, -9223372036854775808, -9223372036854775808, -9223372036854775808, -2147483648] : List Int).getD k (-9223372036854775808)), fun _ => 0, fun _ => (-9223372036854775808), fun _ => (-2147483648), fun _ => (-2147483648), fun _ => (-2147483648), fun _ => (-2147483648), fun _ => (-2147483648), fun _ => (-2147483648), fun _ => (-2147483648), fun _ => (-2147483648), fun _ => (-2147483648), fun _ => (-2147483648), fun _ => (-2147483648), fun _ => (-2147483648), fun _ => (-2147483648), fun _ => (-2147483648), fun _ => (-2147483648), fun _ => (-2147483648), fun k => (([-9223372036854775808, -9223372036854775808, 0] : List Int).getD k (-9223372036854775808)), fun _ => (-2147483648), fun _ => (-2147483648), fun k => (([-9223372036854775808, -9223372036854775808, -9223372036854775808, -9223372036854775808] : List Int).getD k (-9223372036854775808)), fun _ => (-2147483648), fun _ => (-2147483648), fun _ => (0), fun _ => (-9223372036854775808), fun _ => (-2147483648), fun _ => (-2147483648), fun _ => (-2147483648), fun _ => (-2147483648), fun k => (([-9223372036854775808, -9223372036854775808, -9223372036854775808, -9223372036854775808, -9223372036854775808, -9223372036854775808, -9223372036854775808, -9223372036854775808, -9223372036854775808, -9223372036854775808, -9223372036854775808, -9223372036854775808, -9223372036854775808, -9223372036854775808, -9223372036854775808, -2147483648] : List Int).getD k (-9223372036854775808)), fun _ => 0, fun _ => (-9223372036854775808), fun _ => (-2147483648), fun _ => (-2147483648), fun _ => (-2147483648), fun _ => (-2147483648), fun _ => (-2147483648), fun _ => (-2147483648), fun _ => (-2147483648), fun _ => (-2147483648), fun _ => (-2147483648), fun _ => (-2147483648), fun _ => (-2147483648), fun _ => (-2147483648), fun _ => (-2147483648), fun _ => (-2147483648), fun _ => (-2147483648), fun _ => (-2147483648), fun k => (([-9223372036854775808, -9223372036854775808, 0] : List Int).getD k (-9223372036854775808)), fun _ => (-2147483648), fun _ => (-2147483648), fun k => (([-9223372036854775808, -9223372036854775808, -9223372036854775808, -9223372036854775808] : List Int).getD k (-9223372036854775808)), fun _ => (-2147483648), fun _ => (-2147483648), fun _ => (0), fun _ => (-9223372036854775808), fun _ => (-2147483648), fun _ => (-2147483648), fun _ => (-2147483648), fun _ => (-2147483648)]
def rhK : List (Nat → Int) := [fun k => (([9223372036854775807, 9223372036854775807, 9223372036854775807, 9223372036854775807, 9223372036854775807, 9223372036854775807, 9223372036854775807, 9223372036854775807, 9223372036854775807, 1, 1] : List Int).getD k (9223372036854775807)), fun k => (([9223372036854775807, 1600] : List Int).getD k (9223372036854775807)), fun _ => (127), fun k => (([9223372036854775807, 9223372036854775807, 5, 1600, 8] : List Int).getD k (9223372036854775807)), fun _ => (2147483647), fun k => (([9223372036854775807, 1600, 4, 1600, 2147483647, 1600, 1] : List Int).getD k (9223372036854775807)), fun k => (([9223372036854775807, 9223372036854775807, 9223372036854775807, 9223372036854775807, 9223372036854775807, 9223372036854775807, 9223372036854775807, 1, 1, 2, 2147483647, 76832, 2147483647, 2147483647, 2147483647, 2147483647, 2147483647] : List Int).getD k (9223372036854775807)), fun _ => (9223372036854775807), fun _ => (9223372036854775807), fun _ => (2147483647), fun _ => (2147483647), fun _ => (2147483647), fun _ => (2147483647), fun _ => (2147483647), fun _ => (2147483647), fun _ => (2147483647), fun _ => (2147483647), fun _ => (2147483647), fun _ => (9223372036854775807), fun _ => (9223372036854775807), fun k => (([9223372036854775807] : List Int).getD k (9223372036854775807)), fun _ => (2147483647), fun k => (([9223372036854775807, 9223372036854775807, 9223372036854775807, 9223372036854775807, 20, 2147483647, 2147483647, 2147483647] : List Int).getD k (9223372036854775807)), fun _ => (2147483647), fun _ => (1), fun _ => (2147483647), fun _ => (2147483647), fun k => (([9223372036854775807, 9223372036854775807] : List Int).getD k (9223372036854775807)), fun _ => (2147483647), fun _ => (2147483647), fun k => (([9223372036854775807, 9223372036854775807, 36] : List Int).getD k (9223372036854775807)), fun _ => (2147483647), fun k => (([9223372036854775807, 9223372036854775807, 9223372036854775807, 9223372036854775807] : List Int).getD k (9223372036854775807)), fun _ => (2147483647), fun _ => (2147483647), fun _ => (6), fun _ => (9223372036854775807), fun _ => (2147483647), fun _ => (2147483647), fun _ => (2147483647), fun _ => (2147483647), fun k => (([9223372036854775807, 9223372036854775807, 9223372036854775807, 9223372036854775807] : List Int).getD k (9223372036854775807)), fun _ => (2147483647), fun _ => (2147483647), fun _ => (6), fun _ => (9223372036854775807), fun _ => (2147483647), fun _ => (2147483647), fun _ => (2147483647), fun _ => (2147483647), fun _ => (2147483647), fun k => (([9223372036854775807, 9223372036854775807, 9223372036854775807, 9223372036854775807, 9223372036854775807, 9223372036854775807, 9223372036854775807, 9223372036854775807, 9223372036854775807, 9223372036854775807, 9223372036854775807, 9223372036854775807, 9223372036854775807, 9223372036854775807, 9223372036854775807, 2147483647] : List Int).getD k (9223372036854775807)), fun k => limK k, fun _ => (9223372036854775807), fun _ => (2147483647), fun _ => (2147483647), fun _ => (2147483647), fun _ => (2147483647), fun _ => (2147483647), fun _ => (2147483647), fun _ => (2147483647), fun _ => (2147483647), fun _ => (2147483647), fun _ => (2147483647), fun _ => (2147483647), fun _ => (2147483647), fun _ => (2147483647), fun _ => (2147483647), fun _ => (2147483647), fun _ => (2147483647), fun k => (([9223372036854775807, 9223372036854775807, 1600] : List Int).getD k (9223372036854775807)), fun _ => (2147483647), fun _ => (2147483647), fun k => (([9223372036854775807, 9223372036854775807, 9223372036854775807, 9223372036854775807] : List Int).getD k (9223372036854775807)), fun _ => (2147483647), fun _ => (2147483647), fun _ => (6), fun _ => (9223372036854775807), fun _ => (2147483647), fun _ => (2147483647), fun _ => (2147483647), fun _ => (2147483647), fun k => (([9223372036854775807, 9223372036854775807, 9223372036854775807, 9223372036854775807, 9223372036854775807, 9223372036854775807, 9223372036854775807, 9223372036854775807, 9223372036854775807, 9223372036854775807, 9223372036854775807, 9223372036854775807, 9223372036854775807, 9223372036854775807, 9223372036854775807, 2147483647] : List Int).getD k (9223372036854775807)), fun k => limK k, fun _ => (9223372036854775807), fun _ => (2147483647), fun _ => (2147483647), fun _ => (2147483647), fun _ => (2147483647), fun _ => (2147483647), fun _ => (2147483647), fun _ => (2147483647), fun _ => (2147483647), fun _ => (2147483647), fun _ => (2147483647), fun _ => (2147483647), fun _ => (2147483647), fun _ => (2147483647), fun _ => (2147483647), fun _ => (2147483647), fun _ => (2147483647), fun k => (([9223372036854775807, 9223372036854775807, 1600] : List Int).getD k (9223372036854775807)), fun _ => (2147483647), fun _ => (2147483647), fun k => (([9223372036854775807, 9223372036854775807, 9223372036854775807, 9223372036854775807] : List Int).getD k (9223372036854775807)), fun _ => (2147483647), fun _ => (2147483647), fun _ => (6), fun _ => (9223372036854775807), fun _ => (2147483647), fun _ => (2147483647), fun _ => (2147483647), fun _ => (2147483647)]
def loK (j k : Nat) : Int := rlK.getD j (fun _ => -9223372036854775808) k
def hiK (j k : Nat) : Int := rhK.getD j (fun _ => 9223372036854775807) k
def IK (A : St) : Prop := IR loK hiK A
theorem limK_le : ∀ k, limK k ≤ 10
  | 0 => by decide
  | 1 => by decide
  | 2 => by decide
  | 3 => by decide
  | 4 => by decide
  | 5 => by decide
  | 6 => by decide
  | 7 => by decide
  | _ + 8 => by show (6 : Int) ≤ 10; decide
theorem limK_ge : ∀ k, 3 ≤ limK k
  | 0 => by decide
  | 1 => by decide
  | 2 => by decide
  | 3 => by decide
  | 4 => by decide
  | 5 => by decide
  | 6 => by decide
  | 7 => by decide
  | _ + 8 => by show (3 : Int) ≤ 6; decide
theorem kindK_r : ∀ k, -1 ≤ kindK k ∧ kindK k ≤ 7
  | 0 => by decide
  | 1 => by decide
  | 2 => by decide
  | 3 => by decide
  | 4 => by decide
  | 5 => by decide
  | 6 => by decide
  | 7 => by decide
  | 8 => by decide
  | 9 => by decide
  | 10 => by decide
  | 11 => by decide
  | _ + 12 => by show (-1 : Int) ≤ -1 ∧ (-1 : Int) ≤ 7; decide
theorem IK.d {A B : St} {j i : Nat} {v : Int} (hd : B = stA A j i v) (h : IK A) (hv : loK j i ≤ v ∧ v ≤ hiK j i) : IK B := hd ▸ IR.st h hv
section WKS
variable {cB cI cJ cZ cQ : ClassId} {q : Nat → Nat} {A : St}
theorem WK_adr : ∀ A A' : St, (WK cB cI cJ cZ cQ q A').map (fun q => q.1) = (WK cB cI cJ cZ cQ q A).map (fun q => q.1) := fun _ _ => rfl
theorem wkK : (WK cB cI cJ cZ cQ q A)[0]? = some (q 0, .inr (11, fsK q 0 A)) := by rfl
theorem irK_9 (hI : IK A) : (0 : Int) ≤ A 0 9 ∧ A 0 9 ≤ 1 := by exact hI _ 9
theorem isK_9 {v : Int} {B : St} (hd : B = stA A 0 9 v) (hI : IK A) (hv : (0 : Int) ≤ v ∧ v ≤ 1) : IK B := by exact IK.d hd hI hv
theorem wfK_9 {v : Int} : (WK cB cI cJ cZ cQ q A).set 0 (q 0, .inr (11, (fsK q 0 A).set 9 (.ref (q (51 + 31 * v.toNat))))) = WK cB cI cJ cZ cQ q (stA A 0 9 v) := by rfl
theorem irK_10 (hI : IK A) : (0 : Int) ≤ A 0 10 ∧ A 0 10 ≤ 1 := by exact hI _ 10
theorem isK_10 {v : Int} {B : St} (hd : B = stA A 0 10 v) (hI : IK A) (hv : (0 : Int) ≤ v ∧ v ≤ 1) : IK B := by exact IK.d hd hI hv
theorem wfK_10 {v : Int} : (WK cB cI cJ cZ cQ q A).set 0 (q 0, .inr (11, (fsK q 0 A).set 10 (.ref (q (51 + 31 * v.toNat))))) = WK cB cI cJ cZ cQ q (stA A 0 10 v) := by rfl
theorem wkTP : (WK cB cI cJ cZ cQ q A)[1]? = some (q 1, .inr (7, fsTP q 0 A)) := by rfl
theorem irTP_1 (hI : IK A) : (0 : Int) ≤ A 1 1 ∧ A 1 1 ≤ 1600 := by exact hI _ 1
theorem isTP_1 {v : Int} {B : St} (hd : B = stA A 1 1 v) (hI : IK A) (hv : (0 : Int) ≤ v ∧ v ≤ 1600) : IK B := by exact IK.d hd hI hv
theorem wfTP_1 {v : Int} : (WK cB cI cJ cZ cQ q A).set 1 (q 1, .inr (7, (fsTP q 0 A).set 1 (.int (iI v)))) = WK cB cI cJ cZ cQ q (stA A 1 1 v) := by rfl
theorem wkTPb : (WK cB cI cJ cZ cQ q A)[2]? = some (q 2, .inl (cB, 1600, .inl (aI (A 2)))) := by rfl
theorem wsTPb {v : Int} : ∀ i' : Nat, (WK cB cI cJ cZ cQ q A).set 2 (q 2, .inl (cB, 1600, .inl (aI (up (A 2) i' v)))) = WK cB cI cJ cZ cQ q (stA A 2 i' v) := by exact fun _ => rfl
theorem irTPb {k : Nat} (hI : IK A) : (-128 : Int) ≤ A 2 k ∧ A 2 k ≤ 127 := by exact hI _ k
theorem isTPb {k : Nat} {v : Int} {B : St} (hd : B = stA A 2 k v) (hI : IK A) (hv : (-128 : Int) ≤ v ∧ v ≤ 127) : IK B := by exact IK.d hd hI hv
theorem wkRD : (WK cB cI cJ cZ cQ q A)[3]? = some (q 3, .inr (5, fsRD q 0 A)) := by rfl
theorem irRD_2 (hI : IK A) : (0 : Int) ≤ A 3 2 ∧ A 3 2 ≤ 5 := by exact hI _ 2
theorem isRD_2 {v : Int} {B : St} (hd : B = stA A 3 2 v) (hI : IK A) (hv : (0 : Int) ≤ v ∧ v ≤ 5) : IK B := by exact IK.d hd hI hv
theorem wfRD_2 {v : Int} : (WK cB cI cJ cZ cQ q A).set 3 (q 3, .inr (5, (fsRD q 0 A).set 2 (.int (iI v)))) = WK cB cI cJ cZ cQ q (stA A 3 2 v) := by rfl
theorem irRD_3 (hI : IK A) : (-1 : Int) ≤ A 3 3 ∧ A 3 3 ≤ 1600 := by exact hI _ 3
theorem isRD_3 {v : Int} {B : St} (hd : B = stA A 3 3 v) (hI : IK A) (hv : (-1 : Int) ≤ v ∧ v ≤ 1600) : IK B := by exact IK.d hd hI hv
theorem wfRD_3 {v : Int} : (WK cB cI cJ cZ cQ q A).set 3 (q 3, .inr (5, (fsRD q 0 A).set 3 (.int (iI v)))) = WK cB cI cJ cZ cQ q (stA A 3 3 v) := by rfl
theorem irRD_4 (hI : IK A) : (0 : Int) ≤ A 3 4 ∧ A 3 4 ≤ 8 := by exact hI _ 4
theorem isRD_4 {v : Int} {B : St} (hd : B = stA A 3 4 v) (hI : IK A) (hv : (0 : Int) ≤ v ∧ v ≤ 8) : IK B := by exact IK.d hd hI hv
theorem wfRD_4 {v : Int} : (WK cB cI cJ cZ cQ q A).set 3 (q 3, .inr (5, (fsRD q 0 A).set 4 (.int (iI v)))) = WK cB cI cJ cZ cQ q (stA A 3 4 v) := by rfl
theorem wkRDo : (WK cB cI cJ cZ cQ q A)[4]? = some (q 4, .inl (cI, 26, .inl (aI (A 4)))) := by rfl
theorem irRDo {k : Nat} (hI : IK A) : (-2147483648 : Int) ≤ A 4 k ∧ A 4 k ≤ 2147483647 := by exact hI _ k
theorem wkLX : (WK cB cI cJ cZ cQ q A)[5]? = some (q 5, .inr (3, fsLX q 0 A)) := by rfl
theorem irLX_1 (hI : IK A) : (0 : Int) ≤ A 5 1 ∧ A 5 1 ≤ 1600 := by exact hI _ 1
theorem isLX_1 {v : Int} {B : St} (hd : B = stA A 5 1 v) (hI : IK A) (hv : (0 : Int) ≤ v ∧ v ≤ 1600) : IK B := by exact IK.d hd hI hv
theorem wfLX_1 {v : Int} : (WK cB cI cJ cZ cQ q A).set 5 (q 5, .inr (3, (fsLX q 0 A).set 1 (.int (iI v)))) = WK cB cI cJ cZ cQ q (stA A 5 1 v) := by rfl
theorem irLX_2 (hI : IK A) : (0 : Int) ≤ A 5 2 ∧ A 5 2 ≤ 4 := by exact hI _ 2
theorem isLX_2 {v : Int} {B : St} (hd : B = stA A 5 2 v) (hI : IK A) (hv : (0 : Int) ≤ v ∧ v ≤ 4) : IK B := by exact IK.d hd hI hv
theorem wfLX_2 {v : Int} : (WK cB cI cJ cZ cQ q A).set 5 (q 5, .inr (3, (fsLX q 0 A).set 2 (.int (iI v)))) = WK cB cI cJ cZ cQ q (stA A 5 2 v) := by rfl
theorem irLX_3 (hI : IK A) : (0 : Int) ≤ A 5 3 ∧ A 5 3 ≤ 1600 := by exact hI _ 3
theorem isLX_3 {v : Int} {B : St} (hd : B = stA A 5 3 v) (hI : IK A) (hv : (0 : Int) ≤ v ∧ v ≤ 1600) : IK B := by exact IK.d hd hI hv
theorem wfLX_3 {v : Int} : (WK cB cI cJ cZ cQ q A).set 5 (q 5, .inr (3, (fsLX q 0 A).set 3 (.int (iI v)))) = WK cB cI cJ cZ cQ q (stA A 5 3 v) := by rfl
theorem irLX_4 (hI : IK A) : (-2147483648 : Int) ≤ A 5 4 ∧ A 5 4 ≤ 2147483647 := by exact hI _ 4
theorem isLX_4 {v : Int} {B : St} (hd : B = stA A 5 4 v) (hI : IK A) (hv : (-2147483648 : Int) ≤ v ∧ v ≤ 2147483647) : IK B := by exact IK.d hd hI hv
theorem wfLX_4 {v : Int} : (WK cB cI cJ cZ cQ q A).set 5 (q 5, .inr (3, (fsLX q 0 A).set 4 (.int (iI v)))) = WK cB cI cJ cZ cQ q (stA A 5 4 v) := by rfl
theorem irLX_5 (hI : IK A) : (-1 : Int) ≤ A 5 5 ∧ A 5 5 ≤ 1600 := by exact hI _ 5
theorem isLX_5 {v : Int} {B : St} (hd : B = stA A 5 5 v) (hI : IK A) (hv : (-1 : Int) ≤ v ∧ v ≤ 1600) : IK B := by exact IK.d hd hI hv
theorem wfLX_5 {v : Int} : (WK cB cI cJ cZ cQ q A).set 5 (q 5, .inr (3, (fsLX q 0 A).set 5 (.int (iI v)))) = WK cB cI cJ cZ cQ q (stA A 5 5 v) := by rfl
theorem irLX_6 (hI : IK A) : (0 : Int) ≤ A 5 6 ∧ A 5 6 ≤ 1 := by exact hI _ 6
theorem isLX_6 {v : Int} {B : St} (hd : B = stA A 5 6 v) (hI : IK A) (hv : (0 : Int) ≤ v ∧ v ≤ 1) : IK B := by exact IK.d hd hI hv
theorem wfLX_6 {v : Int} : (WK cB cI cJ cZ cQ q A).set 5 (q 5, .inr (3, (fsLX q 0 A).set 6 (.int (iI v)))) = WK cB cI cJ cZ cQ q (stA A 5 6 v) := by rfl
theorem wkAL : (WK cB cI cJ cZ cQ q A)[6]? = some (q 6, .inr (0, fsAL q 0 A)) := by rfl
theorem irAL_7 (hI : IK A) : (0 : Int) ≤ A 6 7 ∧ A 6 7 ≤ 1 := by exact hI _ 7
theorem isAL_7 {v : Int} {B : St} (hd : B = stA A 6 7 v) (hI : IK A) (hv : (0 : Int) ≤ v ∧ v ≤ 1) : IK B := by exact IK.d hd hI hv
theorem wfAL_7 {v : Int} : (WK cB cI cJ cZ cQ q A).set 6 (q 6, .inr (0, (fsAL q 0 A).set 7 (.ref (q (18 + v.toNat))))) = WK cB cI cJ cZ cQ q (stA A 6 7 v) := by rfl
theorem irAL_8 (hI : IK A) : (0 : Int) ≤ A 6 8 ∧ A 6 8 ≤ 1 := by exact hI _ 8
theorem isAL_8 {v : Int} {B : St} (hd : B = stA A 6 8 v) (hI : IK A) (hv : (0 : Int) ≤ v ∧ v ≤ 1) : IK B := by exact IK.d hd hI hv
theorem wfAL_8 {v : Int} : (WK cB cI cJ cZ cQ q A).set 6 (q 6, .inr (0, (fsAL q 0 A).set 8 (.ref (q (18 + v.toNat))))) = WK cB cI cJ cZ cQ q (stA A 6 8 v) := by rfl
theorem irAL_9 (hI : IK A) : (0 : Int) ≤ A 6 9 ∧ A 6 9 ≤ 2 := by exact hI _ 9
theorem isAL_9 {v : Int} {B : St} (hd : B = stA A 6 9 v) (hI : IK A) (hv : (0 : Int) ≤ v ∧ v ≤ 2) : IK B := by exact IK.d hd hI hv
theorem wfAL_9 {v : Int} : (WK cB cI cJ cZ cQ q A).set 6 (q 6, .inr (0, (fsAL q 0 A).set 9 (.int (iI v)))) = WK cB cI cJ cZ cQ q (stA A 6 9 v) := by rfl
theorem irAL_10 (hI : IK A) : (-2147483648 : Int) ≤ A 6 10 ∧ A 6 10 ≤ 2147483647 := by exact hI _ 10
theorem isAL_10 {v : Int} {B : St} (hd : B = stA A 6 10 v) (hI : IK A) (hv : (-2147483648 : Int) ≤ v ∧ v ≤ 2147483647) : IK B := by exact IK.d hd hI hv
theorem wfAL_10 {v : Int} : (WK cB cI cJ cZ cQ q A).set 6 (q 6, .inr (0, (fsAL q 0 A).set 10 (.int (iI v)))) = WK cB cI cJ cZ cQ q (stA A 6 10 v) := by rfl
theorem irAL_11 (hI : IK A) : (-2147483648 : Int) ≤ A 6 11 ∧ A 6 11 ≤ 76832 := by exact hI _ 11
theorem isAL_11 {v : Int} {B : St} (hd : B = stA A 6 11 v) (hI : IK A) (hv : (-2147483648 : Int) ≤ v ∧ v ≤ 76832) : IK B := by exact IK.d hd hI hv
theorem wfAL_11 {v : Int} : (WK cB cI cJ cZ cQ q A).set 6 (q 6, .inr (0, (fsAL q 0 A).set 11 (.int (iI v)))) = WK cB cI cJ cZ cQ q (stA A 6 11 v) := by rfl
theorem irAL_12 (hI : IK A) : (-2147483648 : Int) ≤ A 6 12 ∧ A 6 12 ≤ 2147483647 := by exact hI _ 12
theorem isAL_12 {v : Int} {B : St} (hd : B = stA A 6 12 v) (hI : IK A) (hv : (-2147483648 : Int) ≤ v ∧ v ≤ 2147483647) : IK B := by exact IK.d hd hI hv
theorem wfAL_12 {v : Int} : (WK cB cI cJ cZ cQ q A).set 6 (q 6, .inr (0, (fsAL q 0 A).set 12 (.int (iI v)))) = WK cB cI cJ cZ cQ q (stA A 6 12 v) := by rfl
theorem irAL_13 (hI : IK A) : (-2147483648 : Int) ≤ A 6 13 ∧ A 6 13 ≤ 2147483647 := by exact hI _ 13
theorem isAL_13 {v : Int} {B : St} (hd : B = stA A 6 13 v) (hI : IK A) (hv : (-2147483648 : Int) ≤ v ∧ v ≤ 2147483647) : IK B := by exact IK.d hd hI hv
theorem wfAL_13 {v : Int} : (WK cB cI cJ cZ cQ q A).set 6 (q 6, .inr (0, (fsAL q 0 A).set 13 (.int (iI v)))) = WK cB cI cJ cZ cQ q (stA A 6 13 v) := by rfl
theorem irAL_14 (hI : IK A) : (-2147483648 : Int) ≤ A 6 14 ∧ A 6 14 ≤ 2147483647 := by exact hI _ 14
theorem isAL_14 {v : Int} {B : St} (hd : B = stA A 6 14 v) (hI : IK A) (hv : (-2147483648 : Int) ≤ v ∧ v ≤ 2147483647) : IK B := by exact IK.d hd hI hv
theorem wfAL_14 {v : Int} : (WK cB cI cJ cZ cQ q A).set 6 (q 6, .inr (0, (fsAL q 0 A).set 14 (.int (iI v)))) = WK cB cI cJ cZ cQ q (stA A 6 14 v) := by rfl
theorem irAL_15 (hI : IK A) : (-2147483648 : Int) ≤ A 6 15 ∧ A 6 15 ≤ 2147483647 := by exact hI _ 15
theorem isAL_15 {v : Int} {B : St} (hd : B = stA A 6 15 v) (hI : IK A) (hv : (-2147483648 : Int) ≤ v ∧ v ≤ 2147483647) : IK B := by exact IK.d hd hI hv
theorem wfAL_15 {v : Int} : (WK cB cI cJ cZ cQ q A).set 6 (q 6, .inr (0, (fsAL q 0 A).set 15 (.int (iI v)))) = WK cB cI cJ cZ cQ q (stA A 6 15 v) := by rfl
theorem irAL_16 (hI : IK A) : (-2147483648 : Int) ≤ A 6 16 ∧ A 6 16 ≤ 2147483647 := by exact hI _ 16
theorem isAL_16 {v : Int} {B : St} (hd : B = stA A 6 16 v) (hI : IK A) (hv : (-2147483648 : Int) ≤ v ∧ v ≤ 2147483647) : IK B := by exact IK.d hd hI hv
theorem wfAL_16 {v : Int} : (WK cB cI cJ cZ cQ q A).set 6 (q 6, .inr (0, (fsAL q 0 A).set 16 (.int (iI v)))) = WK cB cI cJ cZ cQ q (stA A 6 16 v) := by rfl
theorem wkALs : (WK cB cI cJ cZ cQ q A)[7]? = some (q 7, .inl (cJ, 1201, .inr (.inl (aJ (A 7))))) := by rfl
theorem wsALs {v : Int} : ∀ i' : Nat, (WK cB cI cJ cZ cQ q A).set 7 (q 7, .inl (cJ, 1201, .inr (.inl (aJ (up (A 7) i' v))))) = WK cB cI cJ cZ cQ q (stA A 7 i' v) := by exact fun _ => rfl
theorem irALs {k : Nat} (hI : IK A) : (-9223372036854775808 : Int) ≤ A 7 k ∧ A 7 k ≤ 9223372036854775807 := by exact hI _ k
theorem isALs {k : Nat} {v : Int} {B : St} (hd : B = stA A 7 k v) (hI : IK A) (hv : (-9223372036854775808 : Int) ≤ v ∧ v ≤ 9223372036854775807) : IK B := by exact IK.d hd hI hv
theorem wkALq : (WK cB cI cJ cZ cQ q A)[8]? = some (q 8, .inl (cQ, 4, .inr (.inr (.inr (.inr (fun i => ([q (9 + 0), q (9 + 1), q (9 + 2), q (9 + 3)] : List Nat)[i]?)))))) := by rfl
theorem wkALr {i : Int} (hi : 0 ≤ i ∧ i < 4) : (WK cB cI cJ cZ cQ q A)[(9 + i.toNat)]? = some (q (9 + i.toNat), .inl (cI, 7, .inl (aI (A (9 + i.toNat))))) := by rcases (show i = 0 ∨ i = 1 ∨ i = 2 ∨ i = 3 by omega) with rfl | rfl | rfl | rfl <;> rfl
theorem wsALr {i : Int} (hi : 0 ≤ i ∧ i < 4) {v : Int} : ∀ i' : Nat, (WK cB cI cJ cZ cQ q A).set (9 + i.toNat) (q (9 + i.toNat), .inl (cI, 7, .inl (aI (up (A (9 + i.toNat)) i' v)))) = WK cB cI cJ cZ cQ q (stA A (9 + i.toNat) i' v) := by rcases (show i = 0 ∨ i = 1 ∨ i = 2 ∨ i = 3 by omega) with rfl | rfl | rfl | rfl <;> exact fun _ => rfl
theorem irALr {i : Int} (hi : 0 ≤ i ∧ i < 4) {k : Nat} (hI : IK A) : (-2147483648 : Int) ≤ A (9 + i.toNat) k ∧ A (9 + i.toNat) k ≤ 2147483647 := by rcases (show i = 0 ∨ i = 1 ∨ i = 2 ∨ i = 3 by omega) with rfl | rfl | rfl | rfl <;> exact hI _ k
theorem isALr {i : Int} (hi : 0 ≤ i ∧ i < 4) {k : Nat} {v : Int} {B : St} (hd : B = stA A (9 + i.toNat) k v) (hI : IK A) (hv : (-2147483648 : Int) ≤ v ∧ v ≤ 2147483647) : IK B := by rcases (show i = 0 ∨ i = 1 ∨ i = 2 ∨ i = 3 by omega) with rfl | rfl | rfl | rfl <;> exact IK.d hd hI hv
theorem wkALu : (WK cB cI cJ cZ cQ q A)[13]? = some (q 13, .inl (cI, 4, .inl (aI (A 13)))) := by rfl
theorem wsALu {v : Int} : ∀ i' : Nat, (WK cB cI cJ cZ cQ q A).set 13 (q 13, .inl (cI, 4, .inl (aI (up (A 13) i' v)))) = WK cB cI cJ cZ cQ q (stA A 13 i' v) := by exact fun _ => rfl
theorem irALu {k : Nat} (hI : IK A) : (-2147483648 : Int) ≤ A 13 k ∧ A 13 k ≤ 2147483647 := by exact hI _ k
theorem isALu {k : Nat} {v : Int} {B : St} (hd : B = stA A 13 k v) (hI : IK A) (hv : (-2147483648 : Int) ≤ v ∧ v ≤ 2147483647) : IK B := by exact IK.d hd hI hv
theorem wkALl : (WK cB cI cJ cZ cQ q A)[14]? = some (q 14, .inl (cI, 4, .inl (aI (A 14)))) := by rfl
theorem wsALl {v : Int} : ∀ i' : Nat, (WK cB cI cJ cZ cQ q A).set 14 (q 14, .inl (cI, 4, .inl (aI (up (A 14) i' v)))) = WK cB cI cJ cZ cQ q (stA A 14 i' v) := by exact fun _ => rfl
theorem irALl {k : Nat} (hI : IK A) : (-2147483648 : Int) ≤ A 14 k ∧ A 14 k ≤ 2147483647 := by exact hI _ k
theorem isALl {k : Nat} {v : Int} {B : St} (hd : B = stA A 14 k v) (hI : IK A) (hv : (-2147483648 : Int) ≤ v ∧ v ≤ 2147483647) : IK B := by exact IK.d hd hI hv
theorem wkALd : (WK cB cI cJ cZ cQ q A)[15]? = some (q 15, .inl (cI, 8, .inl (aI (A 15)))) := by rfl
theorem wsALd {v : Int} : ∀ i' : Nat, (WK cB cI cJ cZ cQ q A).set 15 (q 15, .inl (cI, 8, .inl (aI (up (A 15) i' v)))) = WK cB cI cJ cZ cQ q (stA A 15 i' v) := by exact fun _ => rfl
theorem irALd {k : Nat} (hI : IK A) : (-2147483648 : Int) ≤ A 15 k ∧ A 15 k ≤ 2147483647 := by exact hI _ k
theorem isALd {k : Nat} {v : Int} {B : St} (hd : B = stA A 15 k v) (hI : IK A) (hv : (-2147483648 : Int) ≤ v ∧ v ≤ 2147483647) : IK B := by exact IK.d hd hI hv
theorem wkALb : (WK cB cI cJ cZ cQ q A)[16]? = some (q 16, .inl (cI, 88, .inl (aI (A 16)))) := by rfl
theorem wsALb {v : Int} : ∀ i' : Nat, (WK cB cI cJ cZ cQ q A).set 16 (q 16, .inl (cI, 88, .inl (aI (up (A 16) i' v)))) = WK cB cI cJ cZ cQ q (stA A 16 i' v) := by exact fun _ => rfl
theorem irALb {k : Nat} (hI : IK A) : (-2147483648 : Int) ≤ A 16 k ∧ A 16 k ≤ 2147483647 := by exact hI _ k
theorem isALb {k : Nat} {v : Int} {B : St} (hd : B = stA A 16 k v) (hI : IK A) (hv : (-2147483648 : Int) ≤ v ∧ v ≤ 2147483647) : IK B := by exact IK.d hd hI hv
theorem wkALw : (WK cB cI cJ cZ cQ q A)[17]? = some (q 17, .inl (cI, 2, .inl (aI (A 17)))) := by rfl
theorem wsALw {v : Int} : ∀ i' : Nat, (WK cB cI cJ cZ cQ q A).set 17 (q 17, .inl (cI, 2, .inl (aI (up (A 17) i' v)))) = WK cB cI cJ cZ cQ q (stA A 17 i' v) := by exact fun _ => rfl
theorem irALw {k : Nat} (hI : IK A) : (-2147483648 : Int) ≤ A 17 k ∧ A 17 k ≤ 2147483647 := by exact hI _ k
theorem isALw {k : Nat} {v : Int} {B : St} (hd : B = stA A 17 k v) (hI : IK A) (hv : (-2147483648 : Int) ≤ v ∧ v ≤ 2147483647) : IK B := by exact IK.d hd hI hv
theorem wkALf {i : Int} (hi : 0 ≤ i ∧ i < 2) : (WK cB cI cJ cZ cQ q A)[(18 + i.toNat)]? = some (q (18 + i.toNat), .inl (cJ, 1201, .inr (.inl (aJ (A (18 + i.toNat)))))) := by rcases (show i = 0 ∨ i = 1 by omega) with rfl | rfl <;> rfl
theorem wsALf {i : Int} (hi : 0 ≤ i ∧ i < 2) {v : Int} : ∀ i' : Nat, (WK cB cI cJ cZ cQ q A).set (18 + i.toNat) (q (18 + i.toNat), .inl (cJ, 1201, .inr (.inl (aJ (up (A (18 + i.toNat)) i' v))))) = WK cB cI cJ cZ cQ q (stA A (18 + i.toNat) i' v) := by rcases (show i = 0 ∨ i = 1 by omega) with rfl | rfl <;> exact fun _ => rfl
theorem irALf {i : Int} (hi : 0 ≤ i ∧ i < 2) {k : Nat} (hI : IK A) : (-9223372036854775808 : Int) ≤ A (18 + i.toNat) k ∧ A (18 + i.toNat) k ≤ 9223372036854775807 := by rcases (show i = 0 ∨ i = 1 by omega) with rfl | rfl <;> exact hI _ k
theorem isALf {i : Int} (hi : 0 ≤ i ∧ i < 2) {k : Nat} {v : Int} {B : St} (hd : B = stA A (18 + i.toNat) k v) (hI : IK A) (hv : (-9223372036854775808 : Int) ≤ v ∧ v ≤ 9223372036854775807) : IK B := by rcases (show i = 0 ∨ i = 1 by omega) with rfl | rfl <;> exact IK.d hd hI hv
theorem wkHR : (WK cB cI cJ cZ cQ q A)[20]? = some (q 20, .inr (2, fsHR q 0 A)) := by rfl
theorem wkHRk : (WK cB cI cJ cZ cQ q A)[21]? = some (q 21, .inl (cI, 6, .inl (aI (A 21)))) := by rfl
theorem wsHRk {v : Int} : ∀ i' : Nat, (WK cB cI cJ cZ cQ q A).set 21 (q 21, .inl (cI, 6, .inl (aI (up (A 21) i' v)))) = WK cB cI cJ cZ cQ q (stA A 21 i' v) := by exact fun _ => rfl
theorem irHRk {k : Nat} (hI : IK A) : (-2147483648 : Int) ≤ A 21 k ∧ A 21 k ≤ 2147483647 := by exact hI _ k
theorem isHRk {k : Nat} {v : Int} {B : St} (hd : B = stA A 21 k v) (hI : IK A) (hv : (-2147483648 : Int) ≤ v ∧ v ≤ 2147483647) : IK B := by exact IK.d hd hI hv
theorem wkFD : (WK cB cI cJ cZ cQ q A)[22]? = some (q 22, .inr (1, fsFD q 0 A)) := by rfl
theorem irFD_4 (hI : IK A) : (0 : Int) ≤ A 22 4 ∧ A 22 4 ≤ 20 := by exact hI _ 4
theorem isFD_4 {v : Int} {B : St} (hd : B = stA A 22 4 v) (hI : IK A) (hv : (0 : Int) ≤ v ∧ v ≤ 20) : IK B := by exact IK.d hd hI hv
theorem wfFD_4 {v : Int} : (WK cB cI cJ cZ cQ q A).set 22 (q 22, .inr (1, (fsFD q 0 A).set 4 (.int (iI v)))) = WK cB cI cJ cZ cQ q (stA A 22 4 v) := by rfl
theorem irFD_5 (hI : IK A) : (-2147483648 : Int) ≤ A 22 5 ∧ A 22 5 ≤ 2147483647 := by exact hI _ 5
theorem isFD_5 {v : Int} {B : St} (hd : B = stA A 22 5 v) (hI : IK A) (hv : (-2147483648 : Int) ≤ v ∧ v ≤ 2147483647) : IK B := by exact IK.d hd hI hv
theorem wfFD_5 {v : Int} : (WK cB cI cJ cZ cQ q A).set 22 (q 22, .inr (1, (fsFD q 0 A).set 5 (.int (iI v)))) = WK cB cI cJ cZ cQ q (stA A 22 5 v) := by rfl
theorem irFD_6 (hI : IK A) : (-2147483648 : Int) ≤ A 22 6 ∧ A 22 6 ≤ 2147483647 := by exact hI _ 6
theorem isFD_6 {v : Int} {B : St} (hd : B = stA A 22 6 v) (hI : IK A) (hv : (-2147483648 : Int) ≤ v ∧ v ≤ 2147483647) : IK B := by exact IK.d hd hI hv
theorem wfFD_6 {v : Int} : (WK cB cI cJ cZ cQ q A).set 22 (q 22, .inr (1, (fsFD q 0 A).set 6 (.int (iI v)))) = WK cB cI cJ cZ cQ q (stA A 22 6 v) := by rfl
theorem irFD_7 (hI : IK A) : (-2147483648 : Int) ≤ A 22 7 ∧ A 22 7 ≤ 2147483647 := by exact hI _ 7
theorem isFD_7 {v : Int} {B : St} (hd : B = stA A 22 7 v) (hI : IK A) (hv : (-2147483648 : Int) ≤ v ∧ v ≤ 2147483647) : IK B := by exact IK.d hd hI hv
theorem wfFD_7 {v : Int} : (WK cB cI cJ cZ cQ q A).set 22 (q 22, .inr (1, (fsFD q 0 A).set 7 (.int (iI v)))) = WK cB cI cJ cZ cQ q (stA A 22 7 v) := by rfl
theorem wkFDd : (WK cB cI cJ cZ cQ q A)[23]? = some (q 23, .inl (cI, 20, .inl (aI (A 23)))) := by rfl
theorem wsFDd {v : Int} : ∀ i' : Nat, (WK cB cI cJ cZ cQ q A).set 23 (q 23, .inl (cI, 20, .inl (aI (up (A 23) i' v)))) = WK cB cI cJ cZ cQ q (stA A 23 i' v) := by exact fun _ => rfl
theorem irFDd {k : Nat} (hI : IK A) : (-2147483648 : Int) ≤ A 23 k ∧ A 23 k ≤ 2147483647 := by exact hI _ k
theorem isFDd {k : Nat} {v : Int} {B : St} (hd : B = stA A 23 k v) (hI : IK A) (hv : (-2147483648 : Int) ≤ v ∧ v ≤ 2147483647) : IK B := by exact IK.d hd hI hv
theorem wkFDo : (WK cB cI cJ cZ cQ q A)[24]? = some (q 24, .inl (cZ, 20, .inl (aI (A 24)))) := by rfl
theorem wsFDo {v : Int} : ∀ i' : Nat, (WK cB cI cJ cZ cQ q A).set 24 (q 24, .inl (cZ, 20, .inl (aI (up (A 24) i' v)))) = WK cB cI cJ cZ cQ q (stA A 24 i' v) := by exact fun _ => rfl
theorem irFDo {k : Nat} (hI : IK A) : (0 : Int) ≤ A 24 k ∧ A 24 k ≤ 1 := by exact hI _ k
theorem isFDo {k : Nat} {v : Int} {B : St} (hd : B = stA A 24 k v) (hI : IK A) (hv : (0 : Int) ≤ v ∧ v ≤ 1) : IK B := by exact IK.d hd hI hv
theorem wkFDf : (WK cB cI cJ cZ cQ q A)[25]? = some (q 25, .inl (cI, 3, .inl (aI (A 25)))) := by rfl
theorem wsFDf {v : Int} : ∀ i' : Nat, (WK cB cI cJ cZ cQ q A).set 25 (q 25, .inl (cI, 3, .inl (aI (up (A 25) i' v)))) = WK cB cI cJ cZ cQ q (stA A 25 i' v) := by exact fun _ => rfl
theorem irFDf {k : Nat} (hI : IK A) : (-2147483648 : Int) ≤ A 25 k ∧ A 25 k ≤ 2147483647 := by exact hI _ k
theorem isFDf {k : Nat} {v : Int} {B : St} (hd : B = stA A 25 k v) (hI : IK A) (hv : (-2147483648 : Int) ≤ v ∧ v ≤ 2147483647) : IK B := by exact IK.d hd hI hv
theorem wkFDr : (WK cB cI cJ cZ cQ q A)[26]? = some (q 26, .inl (cI, 3, .inl (aI (A 26)))) := by rfl
theorem wsFDr {v : Int} : ∀ i' : Nat, (WK cB cI cJ cZ cQ q A).set 26 (q 26, .inl (cI, 3, .inl (aI (up (A 26) i' v)))) = WK cB cI cJ cZ cQ q (stA A 26 i' v) := by exact fun _ => rfl
theorem irFDr {k : Nat} (hI : IK A) : (-2147483648 : Int) ≤ A 26 k ∧ A 26 k ≤ 2147483647 := by exact hI _ k
theorem isFDr {k : Nat} {v : Int} {B : St} (hd : B = stA A 26 k v) (hI : IK A) (hv : (-2147483648 : Int) ≤ v ∧ v ≤ 2147483647) : IK B := by exact IK.d hd hI hv
theorem wkWT : (WK cB cI cJ cZ cQ q A)[27]? = some (q 27, .inr (10, fsWT q 0 A)) := by rfl
theorem wkWTw : (WK cB cI cJ cZ cQ q A)[28]? = some (q 28, .inl (cI, 64, .inl (aI (A 28)))) := by rfl
theorem wsWTw {v : Int} : ∀ i' : Nat, (WK cB cI cJ cZ cQ q A).set 28 (q 28, .inl (cI, 64, .inl (aI (up (A 28) i' v)))) = WK cB cI cJ cZ cQ q (stA A 28 i' v) := by exact fun _ => rfl
theorem irWTw {k : Nat} (hI : IK A) : (-2147483648 : Int) ≤ A 28 k ∧ A 28 k ≤ 2147483647 := by exact hI _ k
theorem isWTw {k : Nat} {v : Int} {B : St} (hd : B = stA A 28 k v) (hI : IK A) (hv : (-2147483648 : Int) ≤ v ∧ v ≤ 2147483647) : IK B := by exact IK.d hd hI hv
theorem wkWTl : (WK cB cI cJ cZ cQ q A)[29]? = some (q 29, .inl (cI, 2048, .inl (aI (A 29)))) := by rfl
theorem wsWTl {v : Int} : ∀ i' : Nat, (WK cB cI cJ cZ cQ q A).set 29 (q 29, .inl (cI, 2048, .inl (aI (up (A 29) i' v)))) = WK cB cI cJ cZ cQ q (stA A 29 i' v) := by exact fun _ => rfl
theorem irWTl {k : Nat} (hI : IK A) : (-2147483648 : Int) ≤ A 29 k ∧ A 29 k ≤ 2147483647 := by exact hI _ k
theorem isWTl {k : Nat} {v : Int} {B : St} (hd : B = stA A 29 k v) (hI : IK A) (hv : (-2147483648 : Int) ≤ v ∧ v ≤ 2147483647) : IK B := by exact IK.d hd hI hv
theorem wkPC : (WK cB cI cJ cZ cQ q A)[30]? = some (q 30, .inr (4, fsPC q 0 A)) := by rfl
theorem irPC_2 (hI : IK A) : (0 : Int) ≤ A 30 2 ∧ A 30 2 ≤ 36 := by exact hI _ 2
theorem isPC_2 {v : Int} {B : St} (hd : B = stA A 30 2 v) (hI : IK A) (hv : (0 : Int) ≤ v ∧ v ≤ 36) : IK B := by exact IK.d hd hI hv
theorem wfPC_2 {v : Int} : (WK cB cI cJ cZ cQ q A).set 30 (q 30, .inr (4, (fsPC q 0 A).set 2 (.int (iI v)))) = WK cB cI cJ cZ cQ q (stA A 30 2 v) := by rfl
theorem wkPCb : (WK cB cI cJ cZ cQ q A)[31]? = some (q 31, .inl (cI, 36, .inl (aI (A 31)))) := by rfl
theorem wsPCb {v : Int} : ∀ i' : Nat, (WK cB cI cJ cZ cQ q A).set 31 (q 31, .inl (cI, 36, .inl (aI (up (A 31) i' v)))) = WK cB cI cJ cZ cQ q (stA A 31 i' v) := by exact fun _ => rfl
theorem irPCb {k : Nat} (hI : IK A) : (-2147483648 : Int) ≤ A 31 k ∧ A 31 k ≤ 2147483647 := by exact hI _ k
theorem isPCb {k : Nat} {v : Int} {B : St} (hd : B = stA A 31 k v) (hI : IK A) (hv : (-2147483648 : Int) ≤ v ∧ v ≤ 2147483647) : IK B := by exact IK.d hd hI hv
theorem wkKr : (WK cB cI cJ cZ cQ q A)[50]? = some (q 50, .inl (cI, 6, .inl (aI (A 50)))) := by rfl
theorem wsKr {v : Int} : ∀ i' : Nat, (WK cB cI cJ cZ cQ q A).set 50 (q 50, .inl (cI, 6, .inl (aI (up (A 50) i' v)))) = WK cB cI cJ cZ cQ q (stA A 50 i' v) := by exact fun _ => rfl
theorem irKr {k : Nat} (hI : IK A) : (-2147483648 : Int) ≤ A 50 k ∧ A 50 k ≤ 2147483647 := by exact hI _ k
theorem isKr {k : Nat} {v : Int} {B : St} (hd : B = stA A 50 k v) (hI : IK A) (hv : (-2147483648 : Int) ≤ v ∧ v ≤ 2147483647) : IK B := by exact IK.d hd hI hv
theorem wkS {b : Nat} (hb : isS b) : (WK cB cI cJ cZ cQ q A)[b]? = some (q b, .inr (6, fsS q b A)) := by rcases hb with rfl | rfl | rfl | rfl <;> rfl
theorem wkSs {b : Nat} (hb : isS b) : (WK cB cI cJ cZ cQ q A)[(b + 1)]? = some (q (b + 1), .inl (cI, 3, .inl (aI (A (b + 1))))) := by rcases hb with rfl | rfl | rfl | rfl <;> rfl
theorem wsSs {b : Nat} (hb : isS b) {v : Int} : ∀ i' : Nat, (WK cB cI cJ cZ cQ q A).set (b + 1) (q (b + 1), .inl (cI, 3, .inl (aI (up (A (b + 1)) i' v)))) = WK cB cI cJ cZ cQ q (stA A (b + 1) i' v) := by rcases hb with rfl | rfl | rfl | rfl <;> exact fun _ => rfl
theorem irSs {b : Nat} (hb : isS b) {k : Nat} (hI : IK A) : (-2147483648 : Int) ≤ A (b + 1) k ∧ A (b + 1) k ≤ 2147483647 := by rcases hb with rfl | rfl | rfl | rfl <;> exact hI _ k
theorem isSs {b : Nat} (hb : isS b) {k : Nat} {v : Int} {B : St} (hd : B = stA A (b + 1) k v) (hI : IK A) (hv : (-2147483648 : Int) ≤ v ∧ v ≤ 2147483647) : IK B := by rcases hb with rfl | rfl | rfl | rfl <;> exact IK.d hd hI hv
theorem wkSw {b : Nat} (hb : isS b) : (WK cB cI cJ cZ cQ q A)[(b + 2)]? = some (q (b + 2), .inl (cI, 4, .inl (aI (A (b + 2))))) := by rcases hb with rfl | rfl | rfl | rfl <;> rfl
theorem wsSw {b : Nat} (hb : isS b) {v : Int} : ∀ i' : Nat, (WK cB cI cJ cZ cQ q A).set (b + 2) (q (b + 2), .inl (cI, 4, .inl (aI (up (A (b + 2)) i' v)))) = WK cB cI cJ cZ cQ q (stA A (b + 2) i' v) := by rcases hb with rfl | rfl | rfl | rfl <;> exact fun _ => rfl
theorem irSw {b : Nat} (hb : isS b) {k : Nat} (hI : IK A) : (-2147483648 : Int) ≤ A (b + 2) k ∧ A (b + 2) k ≤ 2147483647 := by rcases hb with rfl | rfl | rfl | rfl <;> exact hI _ k
theorem isSw {b : Nat} (hb : isS b) {k : Nat} {v : Int} {B : St} (hd : B = stA A (b + 2) k v) (hI : IK A) (hv : (-2147483648 : Int) ≤ v ∧ v ≤ 2147483647) : IK B := by rcases hb with rfl | rfl | rfl | rfl <;> exact IK.d hd hI hv
theorem wkSz {b : Nat} (hb : isS b) : (WK cB cI cJ cZ cQ q A)[(b + 3)]? = some (q (b + 3), .inl (cI, 4, .inl (aI (A (b + 3))))) := by rcases hb with rfl | rfl | rfl | rfl <;> rfl
theorem wsSz {b : Nat} (hb : isS b) {v : Int} : ∀ i' : Nat, (WK cB cI cJ cZ cQ q A).set (b + 3) (q (b + 3), .inl (cI, 4, .inl (aI (up (A (b + 3)) i' v)))) = WK cB cI cJ cZ cQ q (stA A (b + 3) i' v) := by rcases hb with rfl | rfl | rfl | rfl <;> exact fun _ => rfl
theorem irSz {b : Nat} (hb : isS b) {k : Nat} (hI : IK A) : (0 : Int) ≤ A (b + 3) k ∧ A (b + 3) k ≤ 6 := by rcases hb with rfl | rfl | rfl | rfl <;> exact hI _ k
theorem isSz {b : Nat} (hb : isS b) {k : Nat} {v : Int} {B : St} (hd : B = stA A (b + 3) k v) (hI : IK A) (hv : (0 : Int) ≤ v ∧ v ≤ 6) : IK B := by rcases hb with rfl | rfl | rfl | rfl <;> exact IK.d hd hI hv
theorem wkSq {b : Nat} (hb : isS b) : (WK cB cI cJ cZ cQ q A)[(b + 4)]? = some (q (b + 4), .inl (cQ, 4, .inr (.inr (.inr (.inr (fun i => ([q (b + 5 + 0), q (b + 5 + 1), q (b + 5 + 2), q (b + 5 + 3)] : List Nat)[i]?)))))) := by rcases hb with rfl | rfl | rfl | rfl <;> rfl
theorem wkSr {b : Nat} (hb : isS b) {i : Int} (hi : 0 ≤ i ∧ i < 4) : (WK cB cI cJ cZ cQ q A)[(b + 5 + i.toNat)]? = some (q (b + 5 + i.toNat), .inl (cI, 6, .inl (aI (A (b + 5 + i.toNat))))) := by rcases hb with rfl | rfl | rfl | rfl <;> rcases (show i = 0 ∨ i = 1 ∨ i = 2 ∨ i = 3 by omega) with rfl | rfl | rfl | rfl <;> rfl
theorem wsSr {b : Nat} (hb : isS b) {i : Int} (hi : 0 ≤ i ∧ i < 4) {v : Int} : ∀ i' : Nat, (WK cB cI cJ cZ cQ q A).set (b + 5 + i.toNat) (q (b + 5 + i.toNat), .inl (cI, 6, .inl (aI (up (A (b + 5 + i.toNat)) i' v)))) = WK cB cI cJ cZ cQ q (stA A (b + 5 + i.toNat) i' v) := by rcases hb with rfl | rfl | rfl | rfl <;> rcases (show i = 0 ∨ i = 1 ∨ i = 2 ∨ i = 3 by omega) with rfl | rfl | rfl | rfl <;> exact fun _ => rfl
theorem irSr {b : Nat} (hb : isS b) {i : Int} (hi : 0 ≤ i ∧ i < 4) {k : Nat} (hI : IK A) : (-2147483648 : Int) ≤ A (b + 5 + i.toNat) k ∧ A (b + 5 + i.toNat) k ≤ 2147483647 := by rcases hb with rfl | rfl | rfl | rfl <;> rcases (show i = 0 ∨ i = 1 ∨ i = 2 ∨ i = 3 by omega) with rfl | rfl | rfl | rfl <;> exact hI _ k
theorem isSr {b : Nat} (hb : isS b) {i : Int} (hi : 0 ≤ i ∧ i < 4) {k : Nat} {v : Int} {B : St} (hd : B = stA A (b + 5 + i.toNat) k v) (hI : IK A) (hv : (-2147483648 : Int) ≤ v ∧ v ≤ 2147483647) : IK B := by rcases hb with rfl | rfl | rfl | rfl <;> rcases (show i = 0 ∨ i = 1 ∨ i = 2 ∨ i = 3 by omega) with rfl | rfl | rfl | rfl <;> exact IK.d hd hI hv
theorem wkE {b : Nat} (hb : isE b) : (WK cB cI cJ cZ cQ q A)[b]? = some (q b, .inr (8, fsE q b A)) := by rcases hb with rfl | rfl <;> rfl
theorem irE_2 {b : Nat} (hb : isE b) (hI : IK A) : (0 : Int) ≤ A b 2 ∧ A b 2 ≤ 1600 := by rcases hb with rfl | rfl <;> exact hI _ 2
theorem isE_2 {b : Nat} (hb : isE b) {v : Int} {B : St} (hd : B = stA A b 2 v) (hI : IK A) (hv : (0 : Int) ≤ v ∧ v ≤ 1600) : IK B := by rcases hb with rfl | rfl <;> exact IK.d hd hI hv
theorem wfE_2 {b : Nat} (hb : isE b) {v : Int} : (WK cB cI cJ cZ cQ q A).set b (q b, .inr (8, (fsE q b A).set 2 (.int (iI v)))) = WK cB cI cJ cZ cQ q (stA A b 2 v) := by rcases hb with rfl | rfl <;> rfl
theorem wkEc {b : Nat} (hb : isE b) : (WK cB cI cJ cZ cQ q A)[(b + 1)]? = some (q (b + 1), .inl (cI, 1600, .inl (aI (A (b + 1))))) := by rcases hb with rfl | rfl <;> rfl
theorem wsEc {b : Nat} (hb : isE b) {v : Int} : ∀ i' : Nat, (WK cB cI cJ cZ cQ q A).set (b + 1) (q (b + 1), .inl (cI, 1600, .inl (aI (up (A (b + 1)) i' v)))) = WK cB cI cJ cZ cQ q (stA A (b + 1) i' v) := by rcases hb with rfl | rfl <;> exact fun _ => rfl
theorem irEc {b : Nat} (hb : isE b) {k : Nat} (hI : IK A) : (-2147483648 : Int) ≤ A (b + 1) k ∧ A (b + 1) k ≤ 2147483647 := by rcases hb with rfl | rfl <;> exact hI _ k
theorem isEc {b : Nat} (hb : isE b) {k : Nat} {v : Int} {B : St} (hd : B = stA A (b + 1) k v) (hI : IK A) (hv : (-2147483648 : Int) ≤ v ∧ v ≤ 2147483647) : IK B := by rcases hb with rfl | rfl <;> exact IK.d hd hI hv
theorem wkEs {b : Nat} (hb : isE b) : (WK cB cI cJ cZ cQ q A)[(b + 2)]? = some (q (b + 2), .inl (cI, 64, .inl (aI (A (b + 2))))) := by rcases hb with rfl | rfl <;> rfl
theorem wsEs {b : Nat} (hb : isE b) {v : Int} : ∀ i' : Nat, (WK cB cI cJ cZ cQ q A).set (b + 2) (q (b + 2), .inl (cI, 64, .inl (aI (up (A (b + 2)) i' v)))) = WK cB cI cJ cZ cQ q (stA A (b + 2) i' v) := by rcases hb with rfl | rfl <;> exact fun _ => rfl
theorem irEs {b : Nat} (hb : isE b) {k : Nat} (hI : IK A) : (-2147483648 : Int) ≤ A (b + 2) k ∧ A (b + 2) k ≤ 2147483647 := by rcases hb with rfl | rfl <;> exact hI _ k
theorem isEs {b : Nat} (hb : isE b) {k : Nat} {v : Int} {B : St} (hd : B = stA A (b + 2) k v) (hI : IK A) (hv : (-2147483648 : Int) ≤ v ∧ v ≤ 2147483647) : IK B := by rcases hb with rfl | rfl <;> exact IK.d hd hI hv
theorem wkT {b : Nat} (hb : isT b) : (WK cB cI cJ cZ cQ q A)[b]? = some (q b, .inr (9, fsT q b A)) := by rcases hb with rfl | rfl <;> rfl
theorem irT_15 {b : Nat} (hb : isT b) (hI : IK A) : (-2147483648 : Int) ≤ A b 15 ∧ A b 15 ≤ 2147483647 := by rcases hb with rfl | rfl <;> exact hI _ 15
theorem isT_15 {b : Nat} (hb : isT b) {v : Int} {B : St} (hd : B = stA A b 15 v) (hI : IK A) (hv : (-2147483648 : Int) ≤ v ∧ v ≤ 2147483647) : IK B := by rcases hb with rfl | rfl <;> exact IK.d hd hI hv
theorem wfT_15 {b : Nat} (hb : isT b) {v : Int} : (WK cB cI cJ cZ cQ q A).set b (q b, .inr (9, (fsT q b A).set 15 (.int (iI v)))) = WK cB cI cJ cZ cQ q (stA A b 15 v) := by rcases hb with rfl | rfl <;> rfl
theorem wkTc {b : Nat} (hb : isT b) : (WK cB cI cJ cZ cQ q A)[(b + 1)]? = some (q (b + 1), .inl (cI, 8, .inl (aI (A (b + 1))))) := by rcases hb with rfl | rfl <;> rfl
theorem wsTc {b : Nat} (hb : isT b) {v : Int} : ∀ i' : Nat, (WK cB cI cJ cZ cQ q A).set (b + 1) (q (b + 1), .inl (cI, 8, .inl (aI (up (A (b + 1)) i' v)))) = WK cB cI cJ cZ cQ q (stA A (b + 1) i' v) := by rcases hb with rfl | rfl <;> exact fun _ => rfl
theorem irTc0 {b : Nat} (hb : isT b) (hI : IK A) : (0 : Int) ≤ A (b + 1) 0 ∧ A (b + 1) 0 ≤ 8 := by rcases hb with rfl | rfl <;> exact hI _ 0
theorem irTc1 {b : Nat} (hb : isT b) (hI : IK A) : (0 : Int) ≤ A (b + 1) 1 ∧ A (b + 1) 1 ≤ 10 := by rcases hb with rfl | rfl <;> exact hI _ 1
theorem irTc2 {b : Nat} (hb : isT b) (hI : IK A) : (0 : Int) ≤ A (b + 1) 2 ∧ A (b + 1) 2 ≤ 4 := by rcases hb with rfl | rfl <;> exact hI _ 2
theorem irTc3 {b : Nat} (hb : isT b) (hI : IK A) : (0 : Int) ≤ A (b + 1) 3 ∧ A (b + 1) 3 ≤ 3 := by rcases hb with rfl | rfl <;> exact hI _ 3
theorem irTc4 {b : Nat} (hb : isT b) (hI : IK A) : (0 : Int) ≤ A (b + 1) 4 ∧ A (b + 1) 4 ≤ 4 := by rcases hb with rfl | rfl <;> exact hI _ 4
theorem irTc5 {b : Nat} (hb : isT b) (hI : IK A) : (0 : Int) ≤ A (b + 1) 5 ∧ A (b + 1) 5 ≤ 6 := by rcases hb with rfl | rfl <;> exact hI _ 5
theorem irTc6 {b : Nat} (hb : isT b) (hI : IK A) : (0 : Int) ≤ A (b + 1) 6 ∧ A (b + 1) 6 ≤ 6 := by rcases hb with rfl | rfl <;> exact hI _ 6
theorem irTc7 {b : Nat} (hb : isT b) (hI : IK A) : (0 : Int) ≤ A (b + 1) 7 ∧ A (b + 1) 7 ≤ 6 := by rcases hb with rfl | rfl <;> exact hI _ 7
theorem irTc {b : Nat} (hb : isT b) {k : Nat} (hI : IK A) : (0 : Int) ≤ A (b + 1) k ∧ A (b + 1) k ≤ 10 := by
  have h : 0 ≤ A (b + 1) k ∧ A (b + 1) k ≤ limK k := by rcases hb with rfl | rfl <;> exact hI _ k
  exact ⟨h.1, Int.le_trans h.2 (limK_le k)⟩
theorem isTc {b : Nat} (hb : isT b) {k : Nat} {v : Int} {B : St} (hd : B = stA A (b + 1) k v) (hI : IK A) (hv : 0 ≤ v ∧ v ≤ limK k) : IK B := by
  rcases hb with rfl | rfl <;> exact IK.d hd hI hv
theorem wkTq {b : Nat} (hb : isT b) : (WK cB cI cJ cZ cQ q A)[(b + 2)]? = some (q (b + 2), .inl (cQ, 5, .inr (.inr (.inr (.inr (fun i => ([q (b + 3 + 0), q (b + 3 + 1), q (b + 3 + 2), q (b + 3 + 3), q (b + 3 + 4)] : List Nat)[i]?)))))) := by rcases hb with rfl | rfl <;> rfl
theorem wkTn {b : Nat} (hb : isT b) {i : Int} (hi : 0 ≤ i ∧ i < 5) : (WK cB cI cJ cZ cQ q A)[(b + 3 + i.toNat)]? = some (q (b + 3 + i.toNat), .inl (cI, 10, .inl (aI (A (b + 3 + i.toNat))))) := by rcases hb with rfl | rfl <;> rcases (show i = 0 ∨ i = 1 ∨ i = 2 ∨ i = 3 ∨ i = 4 by omega) with rfl | rfl | rfl | rfl | rfl <;> rfl
theorem wsTn {b : Nat} (hb : isT b) {i : Int} (hi : 0 ≤ i ∧ i < 5) {v : Int} : ∀ i' : Nat, (WK cB cI cJ cZ cQ q A).set (b + 3 + i.toNat) (q (b + 3 + i.toNat), .inl (cI, 10, .inl (aI (up (A (b + 3 + i.toNat)) i' v)))) = WK cB cI cJ cZ cQ q (stA A (b + 3 + i.toNat) i' v) := by rcases hb with rfl | rfl <;> rcases (show i = 0 ∨ i = 1 ∨ i = 2 ∨ i = 3 ∨ i = 4 by omega) with rfl | rfl | rfl | rfl | rfl <;> exact fun _ => rfl
theorem irTn {b : Nat} (hb : isT b) {i : Int} (hi : 0 ≤ i ∧ i < 5) {k : Nat} (hI : IK A) : (-2147483648 : Int) ≤ A (b + 3 + i.toNat) k ∧ A (b + 3 + i.toNat) k ≤ 2147483647 := by rcases hb with rfl | rfl <;> rcases (show i = 0 ∨ i = 1 ∨ i = 2 ∨ i = 3 ∨ i = 4 by omega) with rfl | rfl | rfl | rfl | rfl <;> exact hI _ k
theorem isTn {b : Nat} (hb : isT b) {i : Int} (hi : 0 ≤ i ∧ i < 5) {k : Nat} {v : Int} {B : St} (hd : B = stA A (b + 3 + i.toNat) k v) (hI : IK A) (hv : (-2147483648 : Int) ≤ v ∧ v ≤ 2147483647) : IK B := by rcases hb with rfl | rfl <;> rcases (show i = 0 ∨ i = 1 ∨ i = 2 ∨ i = 3 ∨ i = 4 by omega) with rfl | rfl | rfl | rfl | rfl <;> exact IK.d hd hI hv
theorem wkTf {b : Nat} (hb : isT b) : (WK cB cI cJ cZ cQ q A)[(b + 8)]? = some (q (b + 8), .inl (cI, 10, .inl (aI (A (b + 8))))) := by rcases hb with rfl | rfl <;> rfl
theorem wsTf {b : Nat} (hb : isT b) {v : Int} : ∀ i' : Nat, (WK cB cI cJ cZ cQ q A).set (b + 8) (q (b + 8), .inl (cI, 10, .inl (aI (up (A (b + 8)) i' v)))) = WK cB cI cJ cZ cQ q (stA A (b + 8) i' v) := by rcases hb with rfl | rfl <;> exact fun _ => rfl
theorem irTf {b : Nat} (hb : isT b) {k : Nat} (hI : IK A) : (-2147483648 : Int) ≤ A (b + 8) k ∧ A (b + 8) k ≤ 2147483647 := by rcases hb with rfl | rfl <;> exact hI _ k
theorem isTf {b : Nat} (hb : isT b) {k : Nat} {v : Int} {B : St} (hd : B = stA A (b + 8) k v) (hI : IK A) (hv : (-2147483648 : Int) ≤ v ∧ v ≤ 2147483647) : IK B := by rcases hb with rfl | rfl <;> exact IK.d hd hI hv
theorem wkTs {b : Nat} (hb : isT b) : (WK cB cI cJ cZ cQ q A)[(b + 9)]? = some (q (b + 9), .inl (cI, 10, .inl (aI (A (b + 9))))) := by rcases hb with rfl | rfl <;> rfl
theorem wsTs {b : Nat} (hb : isT b) {v : Int} : ∀ i' : Nat, (WK cB cI cJ cZ cQ q A).set (b + 9) (q (b + 9), .inl (cI, 10, .inl (aI (up (A (b + 9)) i' v)))) = WK cB cI cJ cZ cQ q (stA A (b + 9) i' v) := by rcases hb with rfl | rfl <;> exact fun _ => rfl
theorem irTs {b : Nat} (hb : isT b) {k : Nat} (hI : IK A) : (-2147483648 : Int) ≤ A (b + 9) k ∧ A (b + 9) k ≤ 2147483647 := by rcases hb with rfl | rfl <;> exact hI _ k
theorem isTs {b : Nat} (hb : isT b) {k : Nat} {v : Int} {B : St} (hd : B = stA A (b + 9) k v) (hI : IK A) (hv : (-2147483648 : Int) ≤ v ∧ v ≤ 2147483647) : IK B := by rcases hb with rfl | rfl <;> exact IK.d hd hI hv
theorem wkTm {b : Nat} (hb : isT b) : (WK cB cI cJ cZ cQ q A)[(b + 10)]? = some (q (b + 10), .inl (cI, 10, .inl (aI (A (b + 10))))) := by rcases hb with rfl | rfl <;> rfl
theorem wsTm {b : Nat} (hb : isT b) {v : Int} : ∀ i' : Nat, (WK cB cI cJ cZ cQ q A).set (b + 10) (q (b + 10), .inl (cI, 10, .inl (aI (up (A (b + 10)) i' v)))) = WK cB cI cJ cZ cQ q (stA A (b + 10) i' v) := by rcases hb with rfl | rfl <;> exact fun _ => rfl
theorem irTm {b : Nat} (hb : isT b) {k : Nat} (hI : IK A) : (-2147483648 : Int) ≤ A (b + 10) k ∧ A (b + 10) k ≤ 2147483647 := by rcases hb with rfl | rfl <;> exact hI _ k
theorem isTm {b : Nat} (hb : isT b) {k : Nat} {v : Int} {B : St} (hd : B = stA A (b + 10) k v) (hI : IK A) (hv : (-2147483648 : Int) ≤ v ∧ v ≤ 2147483647) : IK B := by rcases hb with rfl | rfl <;> exact IK.d hd hI hv
theorem wkTt {b : Nat} (hb : isT b) : (WK cB cI cJ cZ cQ q A)[(b + 11)]? = some (q (b + 11), .inl (cI, 4, .inl (aI (A (b + 11))))) := by rcases hb with rfl | rfl <;> rfl
theorem wsTt {b : Nat} (hb : isT b) {v : Int} : ∀ i' : Nat, (WK cB cI cJ cZ cQ q A).set (b + 11) (q (b + 11), .inl (cI, 4, .inl (aI (up (A (b + 11)) i' v)))) = WK cB cI cJ cZ cQ q (stA A (b + 11) i' v) := by rcases hb with rfl | rfl <;> exact fun _ => rfl
theorem irTt {b : Nat} (hb : isT b) {k : Nat} (hI : IK A) : (-2147483648 : Int) ≤ A (b + 11) k ∧ A (b + 11) k ≤ 2147483647 := by rcases hb with rfl | rfl <;> exact hI _ k
theorem isTt {b : Nat} (hb : isT b) {k : Nat} {v : Int} {B : St} (hd : B = stA A (b + 11) k v) (hI : IK A) (hv : (-2147483648 : Int) ≤ v ∧ v ≤ 2147483647) : IK B := by rcases hb with rfl | rfl <;> exact IK.d hd hI hv
theorem wkTw {b : Nat} (hb : isT b) : (WK cB cI cJ cZ cQ q A)[(b + 12)]? = some (q (b + 12), .inl (cI, 3, .inl (aI (A (b + 12))))) := by rcases hb with rfl | rfl <;> rfl
theorem wsTw {b : Nat} (hb : isT b) {v : Int} : ∀ i' : Nat, (WK cB cI cJ cZ cQ q A).set (b + 12) (q (b + 12), .inl (cI, 3, .inl (aI (up (A (b + 12)) i' v)))) = WK cB cI cJ cZ cQ q (stA A (b + 12) i' v) := by rcases hb with rfl | rfl <;> exact fun _ => rfl
theorem irTw {b : Nat} (hb : isT b) {k : Nat} (hI : IK A) : (-2147483648 : Int) ≤ A (b + 12) k ∧ A (b + 12) k ≤ 2147483647 := by rcases hb with rfl | rfl <;> exact hI _ k
theorem isTw {b : Nat} (hb : isT b) {k : Nat} {v : Int} {B : St} (hd : B = stA A (b + 12) k v) (hI : IK A) (hv : (-2147483648 : Int) ≤ v ∧ v ≤ 2147483647) : IK B := by rcases hb with rfl | rfl <;> exact IK.d hd hI hv
theorem wkTmd {b : Nat} (hb : isT b) : (WK cB cI cJ cZ cQ q A)[(b + 13)]? = some (q (b + 13), .inl (cI, 6, .inl (aI (A (b + 13))))) := by rcases hb with rfl | rfl <;> rfl
theorem wsTmd {b : Nat} (hb : isT b) {v : Int} : ∀ i' : Nat, (WK cB cI cJ cZ cQ q A).set (b + 13) (q (b + 13), .inl (cI, 6, .inl (aI (up (A (b + 13)) i' v)))) = WK cB cI cJ cZ cQ q (stA A (b + 13) i' v) := by rcases hb with rfl | rfl <;> exact fun _ => rfl
theorem irTmd {b : Nat} (hb : isT b) {k : Nat} (hI : IK A) : (-2147483648 : Int) ≤ A (b + 13) k ∧ A (b + 13) k ≤ 2147483647 := by rcases hb with rfl | rfl <;> exact hI _ k
theorem isTmd {b : Nat} (hb : isT b) {k : Nat} {v : Int} {B : St} (hd : B = stA A (b + 13) k v) (hI : IK A) (hv : (-2147483648 : Int) ≤ v ∧ v ≤ 2147483647) : IK B := by rcases hb with rfl | rfl <;> exact IK.d hd hI hv
theorem wkTmb {b : Nat} (hb : isT b) : (WK cB cI cJ cZ cQ q A)[(b + 14)]? = some (q (b + 14), .inl (cI, 6, .inl (aI (A (b + 14))))) := by rcases hb with rfl | rfl <;> rfl
theorem wsTmb {b : Nat} (hb : isT b) {v : Int} : ∀ i' : Nat, (WK cB cI cJ cZ cQ q A).set (b + 14) (q (b + 14), .inl (cI, 6, .inl (aI (up (A (b + 14)) i' v)))) = WK cB cI cJ cZ cQ q (stA A (b + 14) i' v) := by rcases hb with rfl | rfl <;> exact fun _ => rfl
theorem irTmb {b : Nat} (hb : isT b) {k : Nat} (hI : IK A) : (-2147483648 : Int) ≤ A (b + 14) k ∧ A (b + 14) k ≤ 2147483647 := by rcases hb with rfl | rfl <;> exact hI _ k
theorem isTmb {b : Nat} (hb : isT b) {k : Nat} {v : Int} {B : St} (hd : B = stA A (b + 14) k v) (hI : IK A) (hv : (-2147483648 : Int) ≤ v ∧ v ≤ 2147483647) : IK B := by rcases hb with rfl | rfl <;> exact IK.d hd hI hv
theorem wkTme {b : Nat} (hb : isT b) : (WK cB cI cJ cZ cQ q A)[(b + 15)]? = some (q (b + 15), .inl (cI, 6, .inl (aI (A (b + 15))))) := by rcases hb with rfl | rfl <;> rfl
theorem wsTme {b : Nat} (hb : isT b) {v : Int} : ∀ i' : Nat, (WK cB cI cJ cZ cQ q A).set (b + 15) (q (b + 15), .inl (cI, 6, .inl (aI (up (A (b + 15)) i' v)))) = WK cB cI cJ cZ cQ q (stA A (b + 15) i' v) := by rcases hb with rfl | rfl <;> exact fun _ => rfl
theorem irTme {b : Nat} (hb : isT b) {k : Nat} (hI : IK A) : (-2147483648 : Int) ≤ A (b + 15) k ∧ A (b + 15) k ≤ 2147483647 := by rcases hb with rfl | rfl <;> exact hI _ k
theorem isTme {b : Nat} (hb : isT b) {k : Nat} {v : Int} {B : St} (hd : B = stA A (b + 15) k v) (hI : IK A) (hv : (-2147483648 : Int) ≤ v ∧ v ≤ 2147483647) : IK B := by rcases hb with rfl | rfl <;> exact IK.d hd hI hv
theorem wkTbd {b : Nat} (hb : isT b) : (WK cB cI cJ cZ cQ q A)[(b + 16)]? = some (q (b + 16), .inl (cI, 6, .inl (aI (A (b + 16))))) := by rcases hb with rfl | rfl <;> rfl
theorem wsTbd {b : Nat} (hb : isT b) {v : Int} : ∀ i' : Nat, (WK cB cI cJ cZ cQ q A).set (b + 16) (q (b + 16), .inl (cI, 6, .inl (aI (up (A (b + 16)) i' v)))) = WK cB cI cJ cZ cQ q (stA A (b + 16) i' v) := by rcases hb with rfl | rfl <;> exact fun _ => rfl
theorem irTbd {b : Nat} (hb : isT b) {k : Nat} (hI : IK A) : (-2147483648 : Int) ≤ A (b + 16) k ∧ A (b + 16) k ≤ 2147483647 := by rcases hb with rfl | rfl <;> exact hI _ k
theorem isTbd {b : Nat} (hb : isT b) {k : Nat} {v : Int} {B : St} (hd : B = stA A (b + 16) k v) (hI : IK A) (hv : (-2147483648 : Int) ≤ v ∧ v ≤ 2147483647) : IK B := by rcases hb with rfl | rfl <;> exact IK.d hd hI hv
theorem wkTbf {b : Nat} (hb : isT b) : (WK cB cI cJ cZ cQ q A)[(b + 17)]? = some (q (b + 17), .inl (cI, 6, .inl (aI (A (b + 17))))) := by rcases hb with rfl | rfl <;> rfl
theorem wsTbf {b : Nat} (hb : isT b) {v : Int} : ∀ i' : Nat, (WK cB cI cJ cZ cQ q A).set (b + 17) (q (b + 17), .inl (cI, 6, .inl (aI (up (A (b + 17)) i' v)))) = WK cB cI cJ cZ cQ q (stA A (b + 17) i' v) := by rcases hb with rfl | rfl <;> exact fun _ => rfl
theorem irTbf {b : Nat} (hb : isT b) {k : Nat} (hI : IK A) : (-2147483648 : Int) ≤ A (b + 17) k ∧ A (b + 17) k ≤ 2147483647 := by rcases hb with rfl | rfl <;> exact hI _ k
theorem isTbf {b : Nat} (hb : isT b) {k : Nat} {v : Int} {B : St} (hd : B = stA A (b + 17) k v) (hI : IK A) (hv : (-2147483648 : Int) ≤ v ∧ v ≤ 2147483647) : IK B := by rcases hb with rfl | rfl <;> exact IK.d hd hI hv
theorem wkTbt {b : Nat} (hb : isT b) : (WK cB cI cJ cZ cQ q A)[(b + 18)]? = some (q (b + 18), .inl (cI, 6, .inl (aI (A (b + 18))))) := by rcases hb with rfl | rfl <;> rfl
theorem wsTbt {b : Nat} (hb : isT b) {v : Int} : ∀ i' : Nat, (WK cB cI cJ cZ cQ q A).set (b + 18) (q (b + 18), .inl (cI, 6, .inl (aI (up (A (b + 18)) i' v)))) = WK cB cI cJ cZ cQ q (stA A (b + 18) i' v) := by rcases hb with rfl | rfl <;> exact fun _ => rfl
theorem irTbt {b : Nat} (hb : isT b) {k : Nat} (hI : IK A) : (-2147483648 : Int) ≤ A (b + 18) k ∧ A (b + 18) k ≤ 2147483647 := by rcases hb with rfl | rfl <;> exact hI _ k
theorem isTbt {b : Nat} (hb : isT b) {k : Nat} {v : Int} {B : St} (hd : B = stA A (b + 18) k v) (hI : IK A) (hv : (-2147483648 : Int) ≤ v ∧ v ≤ 2147483647) : IK B := by rcases hb with rfl | rfl <;> exact IK.d hd hI hv
end WKS
