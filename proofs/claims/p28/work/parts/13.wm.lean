/-! The reference's world. -/
def moF (q : Nat → Nat) (A : St) : List Value := [.ref (q 1), .int (iI (A 0 1)), .int (iI (A 0 2)), .int (iI (A 0 3)), .int (iI (A 0 4)), .int (iI (A 0 5)), .int (iI (A 0 6)), .long (jI (A 0 7)), .int (iI (A 0 8)), .int (iI (A 0 9)), .int (iI (A 0 10)), .int (iI (A 0 11)), .int (iI (A 0 12)), .ref (q 2), .ref (q 3), .ref (q 4), .ref (q 5), .ref (q 6), .ref (q 7), .ref (q 8), .ref (q 9), .ref (q 10), .ref (q 11), .ref (q 12), .ref (q 13), .ref (q 14), .ref (q 15), .ref (q 16), .ref (q 17), .ref (q 18), .ref (q 19), .ref (q 20), .ref (q 21), .ref (q 22), .ref (q 23), .ref (q 24), .ref (q 25), .ref (q 26), .ref (q 27), .ref (q 28), .ref (q 29), .ref (q 30), .ref (q 31), .ref (q 32), .ref (q 33), .ref (q 34), .int (iI (A 0 46)), .int (iI (A 0 47)), .ref (q 35), .ref (q 36), .ref (q 37), .ref (q 38), .ref (q 39), .int (iI (A 0 53)), .int (iI (A 0 54)), .ref (q 40), .int (iI (A 0 56)), .int (iI (A 0 57)), .ref (q 41), .ref (q 42), .ref (q 43), .ref (q 44), .ref (q 45), .ref (q 46), .ref (q 47), .ref (q 48), .int (iI (A 0 66)), .int (iI (A 0 67)), .ref (q 49), .int (iI (A 0 69)), .int (iI (A 0 70)), .int (iI (A 0 71)), .ref (q 50), .int (iI (A 0 73)), .ref (q 51), .int (iI (A 0 75)), .ref (q 52), .ref (q 53), .int (iI (A 0 78)), .ref (q 54), .int (iI (A 0 80)), .ref (q 55), .ref (q 56), .ref (q 57), .int (iI (A 0 84))]
def WM (cI cJ cZ : ClassId) (q : Nat → Nat) (A : St) : va_W := [(q 0, .inr (12, moF q A)), (q 1, .inl (cI, 1800, .inl (aI (A 1)))), (q 2, .inl (cI, 2, .inl (aI (A 2)))), (q 3, .inl (cJ, 16, .inr (.inl (aJ (A 3))))), (q 4, .inl (cI, 2, .inl (aI (A 4)))), (q 5, .inl (cJ, 20, .inr (.inl (aJ (A 5))))), (q 6, .inl (cI, 20, .inl (aI (A 6)))), (q 7, .inl (cI, 20, .inl (aI (A 7)))), (q 8, .inl (cZ, 20, .inl (aI (A 8)))), (q 9, .inl (cI, 20, .inl (aI (A 9)))), (q 10, .inl (cZ, 20, .inl (aI (A 10)))), (q 11, .inl (cI, 2, .inl (aI (A 11)))), (q 12, .inl (cJ, 8, .inr (.inl (aJ (A 12))))), (q 13, .inl (cI, 8, .inl (aI (A 13)))), (q 14, .inl (cI, 8, .inl (aI (A 14)))), (q 15, .inl (cI, 80, .inl (aI (A 15)))), (q 16, .inl (cI, 2, .inl (aI (A 16)))), (q 17, .inl (cJ, 6, .inr (.inl (aJ (A 17))))), (q 18, .inl (cI, 6, .inl (aI (A 18)))), (q 19, .inl (cI, 2, .inl (aI (A 19)))), (q 20, .inl (cJ, 8, .inr (.inl (aJ (A 20))))), (q 21, .inl (cI, 8, .inl (aI (A 21)))), (q 22, .inl (cI, 2, .inl (aI (A 22)))), (q 23, .inl (cI, 12, .inl (aI (A 23)))), (q 24, .inl (cI, 12, .inl (aI (A 24)))), (q 25, .inl (cI, 2, .inl (aI (A 25)))), (q 26, .inl (cI, 16, .inl (aI (A 26)))), (q 27, .inl (cI, 16, .inl (aI (A 27)))), (q 28, .inl (cI, 16, .inl (aI (A 28)))), (q 29, .inl (cI, 2, .inl (aI (A 29)))), (q 30, .inl (cI, 12, .inl (aI (A 30)))), (q 31, .inl (cI, 12, .inl (aI (A 31)))), (q 32, .inl (cI, 12, .inl (aI (A 32)))), (q 33, .inl (cI, 3200, .inl (aI (A 33)))), (q 34, .inl (cI, 3200, .inl (aI (A 34)))), (q 35, .inl (cI, 20, .inl (aI (A 35)))), (q 36, .inl (cI, 20, .inl (aI (A 36)))), (q 37, .inl (cZ, 20, .inl (aI (A 37)))), (q 38, .inl (cI, 20, .inl (aI (A 38)))), (q 39, .inl (cI, 20, .inl (aI (A 39)))), (q 40, .inl (cI, 500, .inl (aI (A 40)))), (q 41, .inl (cI, 6, .inl (aI (A 41)))), (q 42, .inl (cJ, 1650, .inr (.inl (aJ (A 42))))), (q 43, .inl (cI, 10, .inl (aI (A 43)))), (q 44, .inl (cI, 3, .inl (aI (A 44)))), (q 45, .inl (cI, 4, .inl (aI (A 45)))), (q 46, .inl (cI, 40, .inl (aI (A 46)))), (q 47, .inl (cI, 76832, .inl (aI (A 47)))), (q 48, .inl (cI, 76832, .inl (aI (A 48)))), (q 49, .inl (cI, 4, .inl (aI (A 49)))), (q 50, .inl (cI, 2, .inl (aI (A 50)))), (q 51, .inl (cI, 9, .inl (aI (A 51)))), (q 52, .inl (cI, 20, .inl (aI (A 52)))), (q 53, .inl (cZ, 20, .inl (aI (A 53)))), (q 54, .inl (cI, 3, .inl (aI (A 54)))), (q 55, .inl (cI, 64, .inl (aI (A 55)))), (q 56, .inl (cI, 2048, .inl (aI (A 56)))), (q 57, .inl (cI, 48, .inl (aI (A 57))))]
def flM : List Int := [-2147483648, 0, 0, 0, 0, 0, -2147483648, -9223372036854775808, 0, -1, 0, -1, 0, -2147483648, -2147483648, -2147483648, -2147483648, -2147483648, -2147483648, -2147483648, -2147483648, -2147483648, -2147483648, -2147483648, -2147483648, -2147483648, -2147483648, -2147483648, -2147483648, -2147483648, -2147483648, -2147483648, -2147483648, -2147483648, -2147483648, -2147483648, -2147483648, -2147483648, -2147483648, -2147483648, -2147483648, -2147483648, -2147483648, -2147483648, -2147483648, -2147483648, 0, 0, -2147483648, -2147483648, -2147483648, -2147483648, -2147483648, 0, 0, -2147483648, 0, 0, -2147483648, -2147483648, -2147483648, -2147483648, -2147483648, -2147483648, -2147483648, -2147483648, 0, 0, -2147483648, 0, 0, -2147483648, -2147483648, 0, -2147483648, 0, -2147483648, -2147483648, 0, -2147483648, 0, -2147483648, -2147483648, -2147483648, 0]
def fhM : List Int := [2147483647, 1600, 1600, 3, 1600, 1600, 2147483647, 9223372036854775807, 5, 1600, 5, 1600, 1, 2147483647, 2147483647, 2147483647, 2147483647, 2147483647, 2147483647, 2147483647, 2147483647, 2147483647, 2147483647, 2147483647, 2147483647, 2147483647, 2147483647, 2147483647, 2147483647, 2147483647, 2147483647, 2147483647, 2147483647, 2147483647, 2147483647, 2147483647, 2147483647, 2147483647, 2147483647, 2147483647, 2147483647, 2147483647, 2147483647, 2147483647, 2147483647, 2147483647, 1600, 1, 2147483647, 2147483647, 2147483647, 2147483647, 2147483647, 20, 8, 2147483647, 500, 1, 2147483647, 2147483647, 2147483647, 2147483647, 2147483647, 2147483647, 2147483647, 2147483647, 76832, 7, 2147483647, 3, 2, 2147483647, 2147483647, 2, 2147483647, 20, 2147483647, 2147483647, 3, 2147483647, 3, 2147483647, 2147483647, 2147483647, 48]
def alM : List Int := [0, 0, 0, -9223372036854775808, 0, -9223372036854775808, 0, 0, 0, -2147483648, 0, 0, -9223372036854775808, 0, 0, 0, 0, -9223372036854775808, 0, 0, -9223372036854775808, 0, 0, 0, 0, 0, 0, -2147483648, -2147483648, 0, 0, 0, 0, 0, -2147483648, 0, 0, 0, 0, 0, 0, -2147483648, -9223372036854775808, -2147483648, 0, 0, 0, -1, 0, 0, 0, -1, 0, 0, 0, -2147483648, -2147483648, -2147483648]
def ahM : List Int := [0, 255, 8, 9223372036854775807, 10, 9223372036854775807, 7, 7, 1, 2147483647, 1, 4, 9223372036854775807, 40, 6, 9, 3, 9223372036854775807, 7, 4, 9223372036854775807, 29, 6, 2, 3, 6, 9, 2147483647, 2147483647, 6, 9, 1600, 1600, 22, 2147483647, 5, 2, 1, 16, 500, 22, 2147483647, 9223372036854775807, 2147483647, 7, 6, 9, 76832, 76831, 6, 3, 8, 9, 1, 9, 2147483647, 2147483647, 2147483647]
def loM (j k : Nat) : Int := bif Nat.beq j 0 then flM.getD k (-9223372036854775808) else alM.getD j (-9223372036854775808)
def hiM (j k : Nat) : Int := bif Nat.beq j 0 then fhM.getD k 9223372036854775807 else ahM.getD j 9223372036854775807
def IM (A : St) : Prop := IR loM hiM A
theorem IM.st {A : St} {j i : Nat} {v : Int} (h : IM A) (hv : loM j i ≤ v ∧ v ≤ hiM j i) : IM (stA A j i v) := IR.st h hv
section WMS
variable {cI cJ cZ : ClassId} {q : Nat → Nat} {A : St}
theorem WM_adr : ∀ A A' : St, (WM cI cJ cZ q A').map (fun q => q.1) = (WM cI cJ cZ q A).map (fun q => q.1) := fun _ _ => rfl
theorem wm0 : (WM cI cJ cZ q A)[0]? = some (q 0, .inr (12, moF q A)) := rfl
theorem wm1 : (WM cI cJ cZ q A)[1]? = some (q 1, .inl (cI, 1800, .inl (aI (A 1)))) := rfl
theorem ws1 {v : Int} : ∀ i : Nat, (WM cI cJ cZ q A).set 1 (q 1, .inl (cI, 1800, .inl (aI (up (A 1) i v)))) = WM cI cJ cZ q (stA A 1 i v) := fun _ => rfl
theorem wm2 : (WM cI cJ cZ q A)[2]? = some (q 2, .inl (cI, 2, .inl (aI (A 2)))) := rfl
theorem ws2 {v : Int} : ∀ i : Nat, (WM cI cJ cZ q A).set 2 (q 2, .inl (cI, 2, .inl (aI (up (A 2) i v)))) = WM cI cJ cZ q (stA A 2 i v) := fun _ => rfl
theorem wm3 : (WM cI cJ cZ q A)[3]? = some (q 3, .inl (cJ, 16, .inr (.inl (aJ (A 3))))) := rfl
theorem ws3 {v : Int} : ∀ i : Nat, (WM cI cJ cZ q A).set 3 (q 3, .inl (cJ, 16, .inr (.inl (aJ (up (A 3) i v))))) = WM cI cJ cZ q (stA A 3 i v) := fun _ => rfl
theorem wm4 : (WM cI cJ cZ q A)[4]? = some (q 4, .inl (cI, 2, .inl (aI (A 4)))) := rfl
theorem ws4 {v : Int} : ∀ i : Nat, (WM cI cJ cZ q A).set 4 (q 4, .inl (cI, 2, .inl (aI (up (A 4) i v)))) = WM cI cJ cZ q (stA A 4 i v) := fun _ => rfl
theorem wm5 : (WM cI cJ cZ q A)[5]? = some (q 5, .inl (cJ, 20, .inr (.inl (aJ (A 5))))) := rfl
theorem ws5 {v : Int} : ∀ i : Nat, (WM cI cJ cZ q A).set 5 (q 5, .inl (cJ, 20, .inr (.inl (aJ (up (A 5) i v))))) = WM cI cJ cZ q (stA A 5 i v) := fun _ => rfl
theorem wm6 : (WM cI cJ cZ q A)[6]? = some (q 6, .inl (cI, 20, .inl (aI (A 6)))) := rfl
theorem ws6 {v : Int} : ∀ i : Nat, (WM cI cJ cZ q A).set 6 (q 6, .inl (cI, 20, .inl (aI (up (A 6) i v)))) = WM cI cJ cZ q (stA A 6 i v) := fun _ => rfl
theorem wm7 : (WM cI cJ cZ q A)[7]? = some (q 7, .inl (cI, 20, .inl (aI (A 7)))) := rfl
theorem ws7 {v : Int} : ∀ i : Nat, (WM cI cJ cZ q A).set 7 (q 7, .inl (cI, 20, .inl (aI (up (A 7) i v)))) = WM cI cJ cZ q (stA A 7 i v) := fun _ => rfl
theorem wm8 : (WM cI cJ cZ q A)[8]? = some (q 8, .inl (cZ, 20, .inl (aI (A 8)))) := rfl
theorem ws8 {v : Int} : ∀ i : Nat, (WM cI cJ cZ q A).set 8 (q 8, .inl (cZ, 20, .inl (aI (up (A 8) i v)))) = WM cI cJ cZ q (stA A 8 i v) := fun _ => rfl
theorem wm9 : (WM cI cJ cZ q A)[9]? = some (q 9, .inl (cI, 20, .inl (aI (A 9)))) := rfl
theorem ws9 {v : Int} : ∀ i : Nat, (WM cI cJ cZ q A).set 9 (q 9, .inl (cI, 20, .inl (aI (up (A 9) i v)))) = WM cI cJ cZ q (stA A 9 i v) := fun _ => rfl
theorem wm10 : (WM cI cJ cZ q A)[10]? = some (q 10, .inl (cZ, 20, .inl (aI (A 10)))) := rfl
theorem ws10 {v : Int} : ∀ i : Nat, (WM cI cJ cZ q A).set 10 (q 10, .inl (cZ, 20, .inl (aI (up (A 10) i v)))) = WM cI cJ cZ q (stA A 10 i v) := fun _ => rfl
theorem wm11 : (WM cI cJ cZ q A)[11]? = some (q 11, .inl (cI, 2, .inl (aI (A 11)))) := rfl
theorem ws11 {v : Int} : ∀ i : Nat, (WM cI cJ cZ q A).set 11 (q 11, .inl (cI, 2, .inl (aI (up (A 11) i v)))) = WM cI cJ cZ q (stA A 11 i v) := fun _ => rfl
theorem wm12 : (WM cI cJ cZ q A)[12]? = some (q 12, .inl (cJ, 8, .inr (.inl (aJ (A 12))))) := rfl
theorem ws12 {v : Int} : ∀ i : Nat, (WM cI cJ cZ q A).set 12 (q 12, .inl (cJ, 8, .inr (.inl (aJ (up (A 12) i v))))) = WM cI cJ cZ q (stA A 12 i v) := fun _ => rfl
theorem wm13 : (WM cI cJ cZ q A)[13]? = some (q 13, .inl (cI, 8, .inl (aI (A 13)))) := rfl
theorem ws13 {v : Int} : ∀ i : Nat, (WM cI cJ cZ q A).set 13 (q 13, .inl (cI, 8, .inl (aI (up (A 13) i v)))) = WM cI cJ cZ q (stA A 13 i v) := fun _ => rfl
theorem wm14 : (WM cI cJ cZ q A)[14]? = some (q 14, .inl (cI, 8, .inl (aI (A 14)))) := rfl
theorem ws14 {v : Int} : ∀ i : Nat, (WM cI cJ cZ q A).set 14 (q 14, .inl (cI, 8, .inl (aI (up (A 14) i v)))) = WM cI cJ cZ q (stA A 14 i v) := fun _ => rfl
theorem wm15 : (WM cI cJ cZ q A)[15]? = some (q 15, .inl (cI, 80, .inl (aI (A 15)))) := rfl
theorem ws15 {v : Int} : ∀ i : Nat, (WM cI cJ cZ q A).set 15 (q 15, .inl (cI, 80, .inl (aI (up (A 15) i v)))) = WM cI cJ cZ q (stA A 15 i v) := fun _ => rfl
theorem wm16 : (WM cI cJ cZ q A)[16]? = some (q 16, .inl (cI, 2, .inl (aI (A 16)))) := rfl
theorem ws16 {v : Int} : ∀ i : Nat, (WM cI cJ cZ q A).set 16 (q 16, .inl (cI, 2, .inl (aI (up (A 16) i v)))) = WM cI cJ cZ q (stA A 16 i v) := fun _ => rfl
theorem wm17 : (WM cI cJ cZ q A)[17]? = some (q 17, .inl (cJ, 6, .inr (.inl (aJ (A 17))))) := rfl
theorem ws17 {v : Int} : ∀ i : Nat, (WM cI cJ cZ q A).set 17 (q 17, .inl (cJ, 6, .inr (.inl (aJ (up (A 17) i v))))) = WM cI cJ cZ q (stA A 17 i v) := fun _ => rfl
theorem wm18 : (WM cI cJ cZ q A)[18]? = some (q 18, .inl (cI, 6, .inl (aI (A 18)))) := rfl
theorem ws18 {v : Int} : ∀ i : Nat, (WM cI cJ cZ q A).set 18 (q 18, .inl (cI, 6, .inl (aI (up (A 18) i v)))) = WM cI cJ cZ q (stA A 18 i v) := fun _ => rfl
theorem wm19 : (WM cI cJ cZ q A)[19]? = some (q 19, .inl (cI, 2, .inl (aI (A 19)))) := rfl
theorem ws19 {v : Int} : ∀ i : Nat, (WM cI cJ cZ q A).set 19 (q 19, .inl (cI, 2, .inl (aI (up (A 19) i v)))) = WM cI cJ cZ q (stA A 19 i v) := fun _ => rfl
theorem wm20 : (WM cI cJ cZ q A)[20]? = some (q 20, .inl (cJ, 8, .inr (.inl (aJ (A 20))))) := rfl
theorem ws20 {v : Int} : ∀ i : Nat, (WM cI cJ cZ q A).set 20 (q 20, .inl (cJ, 8, .inr (.inl (aJ (up (A 20) i v))))) = WM cI cJ cZ q (stA A 20 i v) := fun _ => rfl
theorem wm21 : (WM cI cJ cZ q A)[21]? = some (q 21, .inl (cI, 8, .inl (aI (A 21)))) := rfl
theorem ws21 {v : Int} : ∀ i : Nat, (WM cI cJ cZ q A).set 21 (q 21, .inl (cI, 8, .inl (aI (up (A 21) i v)))) = WM cI cJ cZ q (stA A 21 i v) := fun _ => rfl
theorem wm22 : (WM cI cJ cZ q A)[22]? = some (q 22, .inl (cI, 2, .inl (aI (A 22)))) := rfl
theorem ws22 {v : Int} : ∀ i : Nat, (WM cI cJ cZ q A).set 22 (q 22, .inl (cI, 2, .inl (aI (up (A 22) i v)))) = WM cI cJ cZ q (stA A 22 i v) := fun _ => rfl
theorem wm23 : (WM cI cJ cZ q A)[23]? = some (q 23, .inl (cI, 12, .inl (aI (A 23)))) := rfl
theorem ws23 {v : Int} : ∀ i : Nat, (WM cI cJ cZ q A).set 23 (q 23, .inl (cI, 12, .inl (aI (up (A 23) i v)))) = WM cI cJ cZ q (stA A 23 i v) := fun _ => rfl
theorem wm24 : (WM cI cJ cZ q A)[24]? = some (q 24, .inl (cI, 12, .inl (aI (A 24)))) := rfl
theorem ws24 {v : Int} : ∀ i : Nat, (WM cI cJ cZ q A).set 24 (q 24, .inl (cI, 12, .inl (aI (up (A 24) i v)))) = WM cI cJ cZ q (stA A 24 i v) := fun _ => rfl
theorem wm25 : (WM cI cJ cZ q A)[25]? = some (q 25, .inl (cI, 2, .inl (aI (A 25)))) := rfl
theorem ws25 {v : Int} : ∀ i : Nat, (WM cI cJ cZ q A).set 25 (q 25, .inl (cI, 2, .inl (aI (up (A 25) i v)))) = WM cI cJ cZ q (stA A 25 i v) := fun _ => rfl
theorem wm26 : (WM cI cJ cZ q A)[26]? = some (q 26, .inl (cI, 16, .inl (aI (A 26)))) := rfl
theorem ws26 {v : Int} : ∀ i : Nat, (WM cI cJ cZ q A).set 26 (q 26, .inl (cI, 16, .inl (aI (up (A 26) i v)))) = WM cI cJ cZ q (stA A 26 i v) := fun _ => rfl
theorem wm27 : (WM cI cJ cZ q A)[27]? = some (q 27, .inl (cI, 16, .inl (aI (A 27)))) := rfl
theorem ws27 {v : Int} : ∀ i : Nat, (WM cI cJ cZ q A).set 27 (q 27, .inl (cI, 16, .inl (aI (up (A 27) i v)))) = WM cI cJ cZ q (stA A 27 i v) := fun _ => rfl
theorem wm28 : (WM cI cJ cZ q A)[28]? = some (q 28, .inl (cI, 16, .inl (aI (A 28)))) := rfl
theorem ws28 {v : Int} : ∀ i : Nat, (WM cI cJ cZ q A).set 28 (q 28, .inl (cI, 16, .inl (aI (up (A 28) i v)))) = WM cI cJ cZ q (stA A 28 i v) := fun _ => rfl
theorem wm29 : (WM cI cJ cZ q A)[29]? = some (q 29, .inl (cI, 2, .inl (aI (A 29)))) := rfl
theorem ws29 {v : Int} : ∀ i : Nat, (WM cI cJ cZ q A).set 29 (q 29, .inl (cI, 2, .inl (aI (up (A 29) i v)))) = WM cI cJ cZ q (stA A 29 i v) := fun _ => rfl
theorem wm30 : (WM cI cJ cZ q A)[30]? = some (q 30, .inl (cI, 12, .inl (aI (A 30)))) := rfl
theorem ws30 {v : Int} : ∀ i : Nat, (WM cI cJ cZ q A).set 30 (q 30, .inl (cI, 12, .inl (aI (up (A 30) i v)))) = WM cI cJ cZ q (stA A 30 i v) := fun _ => rfl
theorem wm31 : (WM cI cJ cZ q A)[31]? = some (q 31, .inl (cI, 12, .inl (aI (A 31)))) := rfl
theorem ws31 {v : Int} : ∀ i : Nat, (WM cI cJ cZ q A).set 31 (q 31, .inl (cI, 12, .inl (aI (up (A 31) i v)))) = WM cI cJ cZ q (stA A 31 i v) := fun _ => rfl
theorem wm32 : (WM cI cJ cZ q A)[32]? = some (q 32, .inl (cI, 12, .inl (aI (A 32)))) := rfl
theorem ws32 {v : Int} : ∀ i : Nat, (WM cI cJ cZ q A).set 32 (q 32, .inl (cI, 12, .inl (aI (up (A 32) i v)))) = WM cI cJ cZ q (stA A 32 i v) := fun _ => rfl
theorem wm33 : (WM cI cJ cZ q A)[33]? = some (q 33, .inl (cI, 3200, .inl (aI (A 33)))) := rfl
theorem ws33 {v : Int} : ∀ i : Nat, (WM cI cJ cZ q A).set 33 (q 33, .inl (cI, 3200, .inl (aI (up (A 33) i v)))) = WM cI cJ cZ q (stA A 33 i v) := fun _ => rfl
theorem wm34 : (WM cI cJ cZ q A)[34]? = some (q 34, .inl (cI, 3200, .inl (aI (A 34)))) := rfl
theorem ws34 {v : Int} : ∀ i : Nat, (WM cI cJ cZ q A).set 34 (q 34, .inl (cI, 3200, .inl (aI (up (A 34) i v)))) = WM cI cJ cZ q (stA A 34 i v) := fun _ => rfl
theorem wm35 : (WM cI cJ cZ q A)[35]? = some (q 35, .inl (cI, 20, .inl (aI (A 35)))) := rfl
theorem ws35 {v : Int} : ∀ i : Nat, (WM cI cJ cZ q A).set 35 (q 35, .inl (cI, 20, .inl (aI (up (A 35) i v)))) = WM cI cJ cZ q (stA A 35 i v) := fun _ => rfl
theorem wm36 : (WM cI cJ cZ q A)[36]? = some (q 36, .inl (cI, 20, .inl (aI (A 36)))) := rfl
theorem ws36 {v : Int} : ∀ i : Nat, (WM cI cJ cZ q A).set 36 (q 36, .inl (cI, 20, .inl (aI (up (A 36) i v)))) = WM cI cJ cZ q (stA A 36 i v) := fun _ => rfl
theorem wm37 : (WM cI cJ cZ q A)[37]? = some (q 37, .inl (cZ, 20, .inl (aI (A 37)))) := rfl
theorem ws37 {v : Int} : ∀ i : Nat, (WM cI cJ cZ q A).set 37 (q 37, .inl (cZ, 20, .inl (aI (up (A 37) i v)))) = WM cI cJ cZ q (stA A 37 i v) := fun _ => rfl
theorem wm38 : (WM cI cJ cZ q A)[38]? = some (q 38, .inl (cI, 20, .inl (aI (A 38)))) := rfl
theorem ws38 {v : Int} : ∀ i : Nat, (WM cI cJ cZ q A).set 38 (q 38, .inl (cI, 20, .inl (aI (up (A 38) i v)))) = WM cI cJ cZ q (stA A 38 i v) := fun _ => rfl
theorem wm39 : (WM cI cJ cZ q A)[39]? = some (q 39, .inl (cI, 20, .inl (aI (A 39)))) := rfl
theorem ws39 {v : Int} : ∀ i : Nat, (WM cI cJ cZ q A).set 39 (q 39, .inl (cI, 20, .inl (aI (up (A 39) i v)))) = WM cI cJ cZ q (stA A 39 i v) := fun _ => rfl
theorem wm40 : (WM cI cJ cZ q A)[40]? = some (q 40, .inl (cI, 500, .inl (aI (A 40)))) := rfl
theorem ws40 {v : Int} : ∀ i : Nat, (WM cI cJ cZ q A).set 40 (q 40, .inl (cI, 500, .inl (aI (up (A 40) i v)))) = WM cI cJ cZ q (stA A 40 i v) := fun _ => rfl
theorem wm41 : (WM cI cJ cZ q A)[41]? = some (q 41, .inl (cI, 6, .inl (aI (A 41)))) := rfl
theorem ws41 {v : Int} : ∀ i : Nat, (WM cI cJ cZ q A).set 41 (q 41, .inl (cI, 6, .inl (aI (up (A 41) i v)))) = WM cI cJ cZ q (stA A 41 i v) := fun _ => rfl
theorem wm42 : (WM cI cJ cZ q A)[42]? = some (q 42, .inl (cJ, 1650, .inr (.inl (aJ (A 42))))) := rfl
theorem ws42 {v : Int} : ∀ i : Nat, (WM cI cJ cZ q A).set 42 (q 42, .inl (cJ, 1650, .inr (.inl (aJ (up (A 42) i v))))) = WM cI cJ cZ q (stA A 42 i v) := fun _ => rfl
theorem wm43 : (WM cI cJ cZ q A)[43]? = some (q 43, .inl (cI, 10, .inl (aI (A 43)))) := rfl
theorem ws43 {v : Int} : ∀ i : Nat, (WM cI cJ cZ q A).set 43 (q 43, .inl (cI, 10, .inl (aI (up (A 43) i v)))) = WM cI cJ cZ q (stA A 43 i v) := fun _ => rfl
theorem wm44 : (WM cI cJ cZ q A)[44]? = some (q 44, .inl (cI, 3, .inl (aI (A 44)))) := rfl
theorem ws44 {v : Int} : ∀ i : Nat, (WM cI cJ cZ q A).set 44 (q 44, .inl (cI, 3, .inl (aI (up (A 44) i v)))) = WM cI cJ cZ q (stA A 44 i v) := fun _ => rfl
theorem wm45 : (WM cI cJ cZ q A)[45]? = some (q 45, .inl (cI, 4, .inl (aI (A 45)))) := rfl
theorem ws45 {v : Int} : ∀ i : Nat, (WM cI cJ cZ q A).set 45 (q 45, .inl (cI, 4, .inl (aI (up (A 45) i v)))) = WM cI cJ cZ q (stA A 45 i v) := fun _ => rfl
theorem wm46 : (WM cI cJ cZ q A)[46]? = some (q 46, .inl (cI, 40, .inl (aI (A 46)))) := rfl
theorem ws46 {v : Int} : ∀ i : Nat, (WM cI cJ cZ q A).set 46 (q 46, .inl (cI, 40, .inl (aI (up (A 46) i v)))) = WM cI cJ cZ q (stA A 46 i v) := fun _ => rfl
theorem wm47 : (WM cI cJ cZ q A)[47]? = some (q 47, .inl (cI, 76832, .inl (aI (A 47)))) := rfl
theorem ws47 {v : Int} : ∀ i : Nat, (WM cI cJ cZ q A).set 47 (q 47, .inl (cI, 76832, .inl (aI (up (A 47) i v)))) = WM cI cJ cZ q (stA A 47 i v) := fun _ => rfl
theorem wm48 : (WM cI cJ cZ q A)[48]? = some (q 48, .inl (cI, 76832, .inl (aI (A 48)))) := rfl
theorem ws48 {v : Int} : ∀ i : Nat, (WM cI cJ cZ q A).set 48 (q 48, .inl (cI, 76832, .inl (aI (up (A 48) i v)))) = WM cI cJ cZ q (stA A 48 i v) := fun _ => rfl
theorem wm49 : (WM cI cJ cZ q A)[49]? = some (q 49, .inl (cI, 4, .inl (aI (A 49)))) := rfl
theorem ws49 {v : Int} : ∀ i : Nat, (WM cI cJ cZ q A).set 49 (q 49, .inl (cI, 4, .inl (aI (up (A 49) i v)))) = WM cI cJ cZ q (stA A 49 i v) := fun _ => rfl
theorem wm50 : (WM cI cJ cZ q A)[50]? = some (q 50, .inl (cI, 2, .inl (aI (A 50)))) := rfl
theorem ws50 {v : Int} : ∀ i : Nat, (WM cI cJ cZ q A).set 50 (q 50, .inl (cI, 2, .inl (aI (up (A 50) i v)))) = WM cI cJ cZ q (stA A 50 i v) := fun _ => rfl
theorem wm51 : (WM cI cJ cZ q A)[51]? = some (q 51, .inl (cI, 9, .inl (aI (A 51)))) := rfl
theorem ws51 {v : Int} : ∀ i : Nat, (WM cI cJ cZ q A).set 51 (q 51, .inl (cI, 9, .inl (aI (up (A 51) i v)))) = WM cI cJ cZ q (stA A 51 i v) := fun _ => rfl
theorem wm52 : (WM cI cJ cZ q A)[52]? = some (q 52, .inl (cI, 20, .inl (aI (A 52)))) := rfl
theorem ws52 {v : Int} : ∀ i : Nat, (WM cI cJ cZ q A).set 52 (q 52, .inl (cI, 20, .inl (aI (up (A 52) i v)))) = WM cI cJ cZ q (stA A 52 i v) := fun _ => rfl
theorem wm53 : (WM cI cJ cZ q A)[53]? = some (q 53, .inl (cZ, 20, .inl (aI (A 53)))) := rfl
theorem ws53 {v : Int} : ∀ i : Nat, (WM cI cJ cZ q A).set 53 (q 53, .inl (cZ, 20, .inl (aI (up (A 53) i v)))) = WM cI cJ cZ q (stA A 53 i v) := fun _ => rfl
theorem wm54 : (WM cI cJ cZ q A)[54]? = some (q 54, .inl (cI, 3, .inl (aI (A 54)))) := rfl
theorem ws54 {v : Int} : ∀ i : Nat, (WM cI cJ cZ q A).set 54 (q 54, .inl (cI, 3, .inl (aI (up (A 54) i v)))) = WM cI cJ cZ q (stA A 54 i v) := fun _ => rfl
theorem wm55 : (WM cI cJ cZ q A)[55]? = some (q 55, .inl (cI, 64, .inl (aI (A 55)))) := rfl
theorem ws55 {v : Int} : ∀ i : Nat, (WM cI cJ cZ q A).set 55 (q 55, .inl (cI, 64, .inl (aI (up (A 55) i v)))) = WM cI cJ cZ q (stA A 55 i v) := fun _ => rfl
theorem wm56 : (WM cI cJ cZ q A)[56]? = some (q 56, .inl (cI, 2048, .inl (aI (A 56)))) := rfl
theorem ws56 {v : Int} : ∀ i : Nat, (WM cI cJ cZ q A).set 56 (q 56, .inl (cI, 2048, .inl (aI (up (A 56) i v)))) = WM cI cJ cZ q (stA A 56 i v) := fun _ => rfl
theorem wm57 : (WM cI cJ cZ q A)[57]? = some (q 57, .inl (cI, 48, .inl (aI (A 57)))) := rfl
theorem ws57 {v : Int} : ∀ i : Nat, (WM cI cJ cZ q A).set 57 (q 57, .inl (cI, 48, .inl (aI (up (A 57) i v)))) = WM cI cJ cZ q (stA A 57 i v) := fun _ => rfl
theorem wf1 {v : Int} : (WM cI cJ cZ q A).set 0 (q 0, .inr (12, (moF q A).set 1 (.int (iI v)))) = WM cI cJ cZ q (stA A 0 1 v) := rfl
theorem wf2 {v : Int} : (WM cI cJ cZ q A).set 0 (q 0, .inr (12, (moF q A).set 2 (.int (iI v)))) = WM cI cJ cZ q (stA A 0 2 v) := rfl
theorem wf3 {v : Int} : (WM cI cJ cZ q A).set 0 (q 0, .inr (12, (moF q A).set 3 (.int (iI v)))) = WM cI cJ cZ q (stA A 0 3 v) := rfl
theorem wf4 {v : Int} : (WM cI cJ cZ q A).set 0 (q 0, .inr (12, (moF q A).set 4 (.int (iI v)))) = WM cI cJ cZ q (stA A 0 4 v) := rfl
theorem wf5 {v : Int} : (WM cI cJ cZ q A).set 0 (q 0, .inr (12, (moF q A).set 5 (.int (iI v)))) = WM cI cJ cZ q (stA A 0 5 v) := rfl
theorem wf6 {v : Int} : (WM cI cJ cZ q A).set 0 (q 0, .inr (12, (moF q A).set 6 (.int (iI v)))) = WM cI cJ cZ q (stA A 0 6 v) := rfl
theorem wf7 {v : Int} : (WM cI cJ cZ q A).set 0 (q 0, .inr (12, (moF q A).set 7 (.long (jI v)))) = WM cI cJ cZ q (stA A 0 7 v) := rfl
theorem wf8 {v : Int} : (WM cI cJ cZ q A).set 0 (q 0, .inr (12, (moF q A).set 8 (.int (iI v)))) = WM cI cJ cZ q (stA A 0 8 v) := rfl
theorem wf9 {v : Int} : (WM cI cJ cZ q A).set 0 (q 0, .inr (12, (moF q A).set 9 (.int (iI v)))) = WM cI cJ cZ q (stA A 0 9 v) := rfl
theorem wf10 {v : Int} : (WM cI cJ cZ q A).set 0 (q 0, .inr (12, (moF q A).set 10 (.int (iI v)))) = WM cI cJ cZ q (stA A 0 10 v) := rfl
theorem wf11 {v : Int} : (WM cI cJ cZ q A).set 0 (q 0, .inr (12, (moF q A).set 11 (.int (iI v)))) = WM cI cJ cZ q (stA A 0 11 v) := rfl
theorem wf12 {v : Int} : (WM cI cJ cZ q A).set 0 (q 0, .inr (12, (moF q A).set 12 (.int (iI v)))) = WM cI cJ cZ q (stA A 0 12 v) := rfl
theorem wf46 {v : Int} : (WM cI cJ cZ q A).set 0 (q 0, .inr (12, (moF q A).set 46 (.int (iI v)))) = WM cI cJ cZ q (stA A 0 46 v) := rfl
theorem wf47 {v : Int} : (WM cI cJ cZ q A).set 0 (q 0, .inr (12, (moF q A).set 47 (.int (iI v)))) = WM cI cJ cZ q (stA A 0 47 v) := rfl
theorem wf53 {v : Int} : (WM cI cJ cZ q A).set 0 (q 0, .inr (12, (moF q A).set 53 (.int (iI v)))) = WM cI cJ cZ q (stA A 0 53 v) := rfl
theorem wf54 {v : Int} : (WM cI cJ cZ q A).set 0 (q 0, .inr (12, (moF q A).set 54 (.int (iI v)))) = WM cI cJ cZ q (stA A 0 54 v) := rfl
theorem wf56 {v : Int} : (WM cI cJ cZ q A).set 0 (q 0, .inr (12, (moF q A).set 56 (.int (iI v)))) = WM cI cJ cZ q (stA A 0 56 v) := rfl
theorem wf57 {v : Int} : (WM cI cJ cZ q A).set 0 (q 0, .inr (12, (moF q A).set 57 (.int (iI v)))) = WM cI cJ cZ q (stA A 0 57 v) := rfl
theorem wf66 {v : Int} : (WM cI cJ cZ q A).set 0 (q 0, .inr (12, (moF q A).set 66 (.int (iI v)))) = WM cI cJ cZ q (stA A 0 66 v) := rfl
theorem wf67 {v : Int} : (WM cI cJ cZ q A).set 0 (q 0, .inr (12, (moF q A).set 67 (.int (iI v)))) = WM cI cJ cZ q (stA A 0 67 v) := rfl
theorem wf69 {v : Int} : (WM cI cJ cZ q A).set 0 (q 0, .inr (12, (moF q A).set 69 (.int (iI v)))) = WM cI cJ cZ q (stA A 0 69 v) := rfl
theorem wf70 {v : Int} : (WM cI cJ cZ q A).set 0 (q 0, .inr (12, (moF q A).set 70 (.int (iI v)))) = WM cI cJ cZ q (stA A 0 70 v) := rfl
theorem wf71 {v : Int} : (WM cI cJ cZ q A).set 0 (q 0, .inr (12, (moF q A).set 71 (.int (iI v)))) = WM cI cJ cZ q (stA A 0 71 v) := rfl
theorem wf73 {v : Int} : (WM cI cJ cZ q A).set 0 (q 0, .inr (12, (moF q A).set 73 (.int (iI v)))) = WM cI cJ cZ q (stA A 0 73 v) := rfl
theorem wf75 {v : Int} : (WM cI cJ cZ q A).set 0 (q 0, .inr (12, (moF q A).set 75 (.int (iI v)))) = WM cI cJ cZ q (stA A 0 75 v) := rfl
theorem wf78 {v : Int} : (WM cI cJ cZ q A).set 0 (q 0, .inr (12, (moF q A).set 78 (.int (iI v)))) = WM cI cJ cZ q (stA A 0 78 v) := rfl
theorem wf80 {v : Int} : (WM cI cJ cZ q A).set 0 (q 0, .inr (12, (moF q A).set 80 (.int (iI v)))) = WM cI cJ cZ q (stA A 0 80 v) := rfl
theorem wf84 {v : Int} : (WM cI cJ cZ q A).set 0 (q 0, .inr (12, (moF q A).set 84 (.int (iI v)))) = WM cI cJ cZ q (stA A 0 84 v) := rfl
end WMS
