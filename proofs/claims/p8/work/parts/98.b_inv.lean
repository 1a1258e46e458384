theorem g3 (lo v hi : List Int) (dl dh : Int) (n : Nat) (h : ∀ k, k < n → lo.getD k dl ≤ v.getD k 0 ∧ v.getD k 0 ≤ hi.getD k dh) (h1 : lo.length ≤ n) (h2 : v.length ≤ n) (h3 : hi.length ≤ n) (hd : dl ≤ 0 ∧ 0 ≤ dh) (k : Nat) : lo.getD k dl ≤ v.getD k 0 ∧ v.getD k 0 ≤ hi.getD k dh := by
  by_cases hk : k < n
  · exact h k hk
  · have e1 : lo.getD k dl = dl := by rw [List.getD_eq_getElem?_getD, List.getElem?_eq_none (by omega)]; rfl
    have e2 : v.getD k 0 = 0 := by rw [List.getD_eq_getElem?_getD, List.getElem?_eq_none (by omega)]; rfl
    have e3 : hi.getD k dh = dh := by rw [List.getD_eq_getElem?_getD, List.getElem?_eq_none (by omega)]; rfl
    rw [e1, e2, e3]
    exact hd
set_option maxHeartbeats 4000000 in
set_option maxRecDepth 100000 in
theorem IK_B0 (g : Nat → Int) (hg : ∀ k, R32 (g k)) : IK (B0 g) := by
  intro j k
  match j with
  | 0 => exact g3 [-9223372036854775808, -9223372036854775808, -9223372036854775808, -9223372036854775808, -9223372036854775808, -9223372036854775808, -9223372036854775808, -9223372036854775808, -9223372036854775808, 0, 0] [0, 0, 0, 0, 0, 0, 0, 0, 0, 0, 1] [9223372036854775807, 9223372036854775807, 9223372036854775807, 9223372036854775807, 9223372036854775807, 9223372036854775807, 9223372036854775807, 9223372036854775807, 9223372036854775807, 1, 1] (-9223372036854775808) (9223372036854775807) 11 (by decide +kernel) (by decide) (by decide) (by decide) (by decide) k
  | 1 => exact g3 [-9223372036854775808, 0] [] [9223372036854775807, 1600] (-9223372036854775808) (9223372036854775807) 2 (by decide +kernel) (by decide) (by decide) (by decide) (by decide) k
  | 2 => exact (show ((-128) : Int) ≤ 0 ∧ (0 : Int) ≤ (127) from by decide)
  | 3 => exact g3 [-9223372036854775808, -9223372036854775808, 0, -1, 0] [0, 0, 0, (-1)] [9223372036854775807, 9223372036854775807, 5, 1600, 8] (-9223372036854775808) (9223372036854775807) 5 (by decide +kernel) (by decide) (by decide) (by decide) (by decide) k
  | 4 => exact hg k
  | 5 => exact g3 [-9223372036854775808, 0, 0, 0, -2147483648, -1, 0] [0, 0, 0, 0, 0, (-1)] [9223372036854775807, 1600, 4, 1600, 2147483647, 1600, 1] (-9223372036854775808) (9223372036854775807) 7 (by decide +kernel) (by decide) (by decide) (by decide) (by decide) k
  | 6 => exact g3 [-9223372036854775808, -9223372036854775808, -9223372036854775808, -9223372036854775808, -9223372036854775808, -9223372036854775808, -9223372036854775808, 0, 0, 0, -2147483648, -2147483648, -2147483648, -2147483648, -2147483648, -2147483648, -2147483648] [0, 0, 0, 0, 0, 0, 0, 0, 1, 0, 1, 0, 0, 3, 0, 0, (-1)] [9223372036854775807, 9223372036854775807, 9223372036854775807, 9223372036854775807, 9223372036854775807, 9223372036854775807, 9223372036854775807, 1, 1, 2, 2147483647, 76832, 2147483647, 2147483647, 2147483647, 2147483647, 2147483647] (-9223372036854775808) (9223372036854775807) 17 (by decide +kernel) (by decide) (by decide) (by decide) (by decide) k
  | 7 => exact (show ((-9223372036854775808) : Int) ≤ 0 ∧ (0 : Int) ≤ (9223372036854775807) from by decide)
  | 8 => exact (show ((-9223372036854775808) : Int) ≤ 0 ∧ (0 : Int) ≤ (9223372036854775807) from by decide)
  | 9 => exact (show ((-2147483648) : Int) ≤ 0 ∧ (0 : Int) ≤ (2147483647) from by decide)
  | 10 => exact (show ((-2147483648) : Int) ≤ 0 ∧ (0 : Int) ≤ (2147483647) from by decide)
  | 11 => exact (show ((-2147483648) : Int) ≤ 0 ∧ (0 : Int) ≤ (2147483647) from by decide)
  | 12 => exact (show ((-2147483648) : Int) ≤ 0 ∧ (0 : Int) ≤ (2147483647) from by decide)
  | 13 => exact (show ((-2147483648) : Int) ≤ 0 ∧ (0 : Int) ≤ (2147483647) from by decide)
  | 14 => exact (show ((-2147483648) : Int) ≤ 0 ∧ (0 : Int) ≤ (2147483647) from by decide)
  | 15 => exact (show ((-2147483648) : Int) ≤ 0 ∧ (0 : Int) ≤ (2147483647) from by decide)
  | 16 => exact (show ((-2147483648) : Int) ≤ 0 ∧ (0 : Int) ≤ (2147483647) from by decide)
  | 17 => exact (show ((-2147483648) : Int) ≤ 0 ∧ (0 : Int) ≤ (2147483647) from by decide)
  | 18 => exact (show ((-9223372036854775808) : Int) ≤ 0 ∧ (0 : Int) ≤ (9223372036854775807) from by decide)
  | 19 => exact (show ((-9223372036854775808) : Int) ≤ 0 ∧ (0 : Int) ≤ (9223372036854775807) from by decide)
  | 20 => exact g3 [-9223372036854775808] [] [9223372036854775807] (-9223372036854775808) (9223372036854775807) 1 (by decide +kernel) (by decide) (by decide) (by decide) (by decide) k
  | 21 => exact (show ((-2147483648) : Int) ≤ 0 ∧ (0 : Int) ≤ (2147483647) from by decide)
  | 22 => exact g3 [-9223372036854775808, -9223372036854775808, -9223372036854775808, -9223372036854775808, 0, -2147483648, -2147483648, -2147483648] [] [9223372036854775807, 9223372036854775807, 9223372036854775807, 9223372036854775807, 20, 2147483647, 2147483647, 2147483647] (-9223372036854775808) (9223372036854775807) 8 (by decide +kernel) (by decide) (by decide) (by decide) (by decide) k
  | 23 => exact (show ((-2147483648) : Int) ≤ 0 ∧ (0 : Int) ≤ (2147483647) from by decide)
  | 24 => exact (show ((0) : Int) ≤ 0 ∧ (0 : Int) ≤ (1) from by decide)
  | 25 => exact (show ((-2147483648) : Int) ≤ 0 ∧ (0 : Int) ≤ (2147483647) from by decide)
  | 26 => exact (show ((-2147483648) : Int) ≤ 0 ∧ (0 : Int) ≤ (2147483647) from by decide)
  | 27 => exact g3 [-9223372036854775808, -9223372036854775808] [] [9223372036854775807, 9223372036854775807] (-9223372036854775808) (9223372036854775807) 2 (by decide +kernel) (by decide) (by decide) (by decide) (by decide) k
  | 28 => exact (show ((-2147483648) : Int) ≤ 0 ∧ (0 : Int) ≤ (2147483647) from by decide)
  | 29 => exact (show ((-2147483648) : Int) ≤ 0 ∧ (0 : Int) ≤ (2147483647) from by decide)
  | 30 => exact g3 [-9223372036854775808, -9223372036854775808, 0] [] [9223372036854775807, 9223372036854775807, 36] (-9223372036854775808) (9223372036854775807) 3 (by decide +kernel) (by decide) (by decide) (by decide) (by decide) k
  | 31 => exact (show ((-2147483648) : Int) ≤ 0 ∧ (0 : Int) ≤ (2147483647) from by decide)
  | 32 => exact g3 [-9223372036854775808, -9223372036854775808, -9223372036854775808, -9223372036854775808] [] [9223372036854775807, 9223372036854775807, 9223372036854775807, 9223372036854775807] (-9223372036854775808) (9223372036854775807) 4 (by decide +kernel) (by decide) (by decide) (by decide) (by decide) k
  | 33 => exact (show ((-2147483648) : Int) ≤ 0 ∧ (0 : Int) ≤ (2147483647) from by decide)
  | 34 => exact (show ((-2147483648) : Int) ≤ 0 ∧ (0 : Int) ≤ (2147483647) from by decide)
  | 35 => exact (show ((0) : Int) ≤ 0 ∧ (0 : Int) ≤ (6) from by decide)
  | 36 => exact (show ((-9223372036854775808) : Int) ≤ 0 ∧ (0 : Int) ≤ (9223372036854775807) from by decide)
  | 37 => exact (show ((-2147483648) : Int) ≤ 0 ∧ (0 : Int) ≤ (2147483647) from by decide)
  | 38 => exact (show ((-2147483648) : Int) ≤ 0 ∧ (0 : Int) ≤ (2147483647) from by decide)
  | 39 => exact (show ((-2147483648) : Int) ≤ 0 ∧ (0 : Int) ≤ (2147483647) from by decide)
  | 40 => exact (show ((-2147483648) : Int) ≤ 0 ∧ (0 : Int) ≤ (2147483647) from by decide)
  | 41 => exact g3 [-9223372036854775808, -9223372036854775808, -9223372036854775808, -9223372036854775808] [] [9223372036854775807, 9223372036854775807, 9223372036854775807, 9223372036854775807] (-9223372036854775808) (9223372036854775807) 4 (by decide +kernel) (by decide) (by decide) (by decide) (by decide) k
  | 42 => exact (show ((-2147483648) : Int) ≤ 0 ∧ (0 : Int) ≤ (2147483647) from by decide)
  | 43 => exact (show ((-2147483648) : Int) ≤ 0 ∧ (0 : Int) ≤ (2147483647) from by decide)
  | 44 => exact (show ((0) : Int) ≤ 0 ∧ (0 : Int) ≤ (6) from by decide)
  | 45 => exact (show ((-9223372036854775808) : Int) ≤ 0 ∧ (0 : Int) ≤ (9223372036854775807) from by decide)
  | 46 => exact (show ((-2147483648) : Int) ≤ 0 ∧ (0 : Int) ≤ (2147483647) from by decide)
  | 47 => exact (show ((-2147483648) : Int) ≤ 0 ∧ (0 : Int) ≤ (2147483647) from by decide)
  | 48 => exact (show ((-2147483648) : Int) ≤ 0 ∧ (0 : Int) ≤ (2147483647) from by decide)
  | 49 => exact (show ((-2147483648) : Int) ≤ 0 ∧ (0 : Int) ≤ (2147483647) from by decide)
  | 50 => exact (show ((-2147483648) : Int) ≤ 0 ∧ (0 : Int) ≤ (2147483647) from by decide)
  | 51 => exact g3 [-9223372036854775808, -9223372036854775808, -9223372036854775808, -9223372036854775808, -9223372036854775808, -9223372036854775808, -9223372036854775808, -9223372036854775808, -9223372036854775808, -9223372036854775808, -9223372036854775808, -9223372036854775808, -9223372036854775808, -9223372036854775808, -9223372036854775808, -2147483648] [] [9223372036854775807, 9223372036854775807, 9223372036854775807, 9223372036854775807, 9223372036854775807, 9223372036854775807, 9223372036854775807, 9223372036854775807, 9223372036854775807, 9223372036854775807, 9223372036854775807, 9223372036854775807, 9223372036854775807, 9223372036854775807, 9223372036854775807, 2147483647] (-9223372036854775808) (9223372036854775807) 16 (by decide +kernel) (by decide) (by decide) (by decide) (by decide) k
  | 52 => exact (show (0 : Int) ≤ 0 ∧ (0 : Int) ≤ limK k from ⟨by decide, by have := limK_ge k; omega⟩)
  | 53 => exact (show ((-9223372036854775808) : Int) ≤ 0 ∧ (0 : Int) ≤ (9223372036854775807) from by decide)
  | 54 => exact (show ((-2147483648) : Int) ≤ 0 ∧ (0 : Int) ≤ (2147483647) from by decide)
  | 55 => exact (show ((-2147483648) : Int) ≤ 0 ∧ (0 : Int) ≤ (2147483647) from by decide)
  | 56 => exact (show ((-2147483648) : Int) ≤ 0 ∧ (0 : Int) ≤ (2147483647) from by decide)
  | 57 => exact (show ((-2147483648) : Int) ≤ 0 ∧ (0 : Int) ≤ (2147483647) from by decide)
  | 58 => exact (show ((-2147483648) : Int) ≤ 0 ∧ (0 : Int) ≤ (2147483647) from by decide)
  | 59 => exact (show ((-2147483648) : Int) ≤ 0 ∧ (0 : Int) ≤ (2147483647) from by decide)
  | 60 => exact (show ((-2147483648) : Int) ≤ 0 ∧ (0 : Int) ≤ (2147483647) from by decide)
  | 61 => exact (show ((-2147483648) : Int) ≤ 0 ∧ (0 : Int) ≤ (2147483647) from by decide)
  | 62 => exact (show ((-2147483648) : Int) ≤ 0 ∧ (0 : Int) ≤ (2147483647) from by decide)
  | 63 => exact (show ((-2147483648) : Int) ≤ 0 ∧ (0 : Int) ≤ (2147483647) from by decide)
  | 64 => exact (show ((-2147483648) : Int) ≤ 0 ∧ (0 : Int) ≤ (2147483647) from by decide)
  | 65 => exact (show ((-2147483648) : Int) ≤ 0 ∧ (0 : Int) ≤ (2147483647) from by decide)
  | 66 => exact (show ((-2147483648) : Int) ≤ 0 ∧ (0 : Int) ≤ (2147483647) from by decide)
  | 67 => exact (show ((-2147483648) : Int) ≤ 0 ∧ (0 : Int) ≤ (2147483647) from by decide)
  | 68 => exact (show ((-2147483648) : Int) ≤ 0 ∧ (0 : Int) ≤ (2147483647) from by decide)
  | 69 => exact (show ((-2147483648) : Int) ≤ 0 ∧ (0 : Int) ≤ (2147483647) from by decide)
  | 70 => exact g3 [-9223372036854775808, -9223372036854775808, 0] [] [9223372036854775807, 9223372036854775807, 1600] (-9223372036854775808) (9223372036854775807) 3 (by decide +kernel) (by decide) (by decide) (by decide) (by decide) k
  | 71 => exact (show ((-2147483648) : Int) ≤ 0 ∧ (0 : Int) ≤ (2147483647) from by decide)
  | 72 => exact (show ((-2147483648) : Int) ≤ 0 ∧ (0 : Int) ≤ (2147483647) from by decide)
  | 73 => exact g3 [-9223372036854775808, -9223372036854775808, -9223372036854775808, -9223372036854775808] [] [9223372036854775807, 9223372036854775807, 9223372036854775807, 9223372036854775807] (-9223372036854775808) (9223372036854775807) 4 (by decide +kernel) (by decide) (by decide) (by decide) (by decide) k
  | 74 => exact (show ((-2147483648) : Int) ≤ 0 ∧ (0 : Int) ≤ (2147483647) from by decide)
  | 75 => exact (show ((-2147483648) : Int) ≤ 0 ∧ (0 : Int) ≤ (2147483647) from by decide)
  | 76 => exact (show ((0) : Int) ≤ 0 ∧ (0 : Int) ≤ (6) from by decide)
  | 77 => exact (show ((-9223372036854775808) : Int) ≤ 0 ∧ (0 : Int) ≤ (9223372036854775807) from by decide)
  | 78 => exact (show ((-2147483648) : Int) ≤ 0 ∧ (0 : Int) ≤ (2147483647) from by decide)
  | 79 => exact (show ((-2147483648) : Int) ≤ 0 ∧ (0 : Int) ≤ (2147483647) from by decide)
  | 80 => exact (show ((-2147483648) : Int) ≤ 0 ∧ (0 : Int) ≤ (2147483647) from by decide)
  | 81 => exact (show ((-2147483648) : Int) ≤ 0 ∧ (0 : Int) ≤ (2147483647) from by decide)
  | 82 => exact g3 [-9223372036854775808, -9223372036854775808, -9223372036854775808, -9223372036854775808, -9223372036854775808, -9223372036854775808, -9223372036854775808, -9223372036854775808, -9223372036854775808, -9223372036854775808, -9223372036854775808, -9223372036854775808, -9223372036854775808, -9223372036854775808, -9223372036854775808, -2147483648] [] [9223372036854775807, 9223372036854775807, 9223372036854775807, 9223372036854775807, 9223372036854775807, 9223372036854775807, 9223372036854775807, 9223372036854775807, 9223372036854775807, 9223372036854775807, 9223372036854775807, 9223372036854775807, 9223372036854775807, 9223372036854775807, 9223372036854775807, 2147483647] (-9223372036854775808) (9223372036854775807) 16 (by decide +kernel) (by decide) (by decide) (by decide) (by decide) k
  | 83 => exact (show (0 : Int) ≤ 0 ∧ (0 : Int) ≤ limK k from ⟨by decide, by have := limK_ge k; omega⟩)
  | 84 => exact (show ((-9223372036854775808) : Int) ≤ 0 ∧ (0 : Int) ≤ (9223372036854775807) from by decide)
  | 85 => exact (show ((-2147483648) : Int) ≤ 0 ∧ (0 : Int) ≤ (2147483647) from by decide)
  | 86 => exact (show ((-2147483648) : Int) ≤ 0 ∧ (0 : Int) ≤ (2147483647) from by decide)
  | 87 => exact (show ((-2147483648) : Int) ≤ 0 ∧ (0 : Int) ≤ (2147483647) from by decide)
  | 88 => exact (show ((-2147483648) : Int) ≤ 0 ∧ (0 : Int) ≤ (2147483647) from by decide)
  | 89 => exact (show ((-2147483648) : Int) ≤ 0 ∧ (0 : Int) ≤ (2147483647) from by decide)
  | 90 => exact (show ((-2147483648) : Int) ≤ 0 ∧ (0 : Int) ≤ (2147483647) from by decide)
  | 91 => exact (show ((-2147483648) : Int) ≤ 0 ∧ (0 : Int) ≤ (2147483647) from by decide)
  | 92 => exact (show ((-2147483648) : Int) ≤ 0 ∧ (0 : Int) ≤ (2147483647) from by decide)
  | 93 => exact (show ((-2147483648) : Int) ≤ 0 ∧ (0 : Int) ≤ (2147483647) from by decide)
  | 94 => exact (show ((-2147483648) : Int) ≤ 0 ∧ (0 : Int) ≤ (2147483647) from by decide)
  | 95 => exact (show ((-2147483648) : Int) ≤ 0 ∧ (0 : Int) ≤ (2147483647) from by decide)
  | 96 => exact (show ((-2147483648) : Int) ≤ 0 ∧ (0 : Int) ≤ (2147483647) from by decide)
  | 97 => exact (show ((-2147483648) : Int) ≤ 0 ∧ (0 : Int) ≤ (2147483647) from by decide)
  | 98 => exact (show ((-2147483648) : Int) ≤ 0 ∧ (0 : Int) ≤ (2147483647) from by decide)
  | 99 => exact (show ((-2147483648) : Int) ≤ 0 ∧ (0 : Int) ≤ (2147483647) from by decide)
  | 100 => exact (show ((-2147483648) : Int) ≤ 0 ∧ (0 : Int) ≤ (2147483647) from by decide)
  | 101 => exact g3 [-9223372036854775808, -9223372036854775808, 0] [] [9223372036854775807, 9223372036854775807, 1600] (-9223372036854775808) (9223372036854775807) 3 (by decide +kernel) (by decide) (by decide) (by decide) (by decide) k
  | 102 => exact (show ((-2147483648) : Int) ≤ 0 ∧ (0 : Int) ≤ (2147483647) from by decide)
  | 103 => exact (show ((-2147483648) : Int) ≤ 0 ∧ (0 : Int) ≤ (2147483647) from by decide)
  | 104 => exact g3 [-9223372036854775808, -9223372036854775808, -9223372036854775808, -9223372036854775808] [] [9223372036854775807, 9223372036854775807, 9223372036854775807, 9223372036854775807] (-9223372036854775808) (9223372036854775807) 4 (by decide +kernel) (by decide) (by decide) (by decide) (by decide) k
  | 105 => exact (show ((-2147483648) : Int) ≤ 0 ∧ (0 : Int) ≤ (2147483647) from by decide)
  | 106 => exact (show ((-2147483648) : Int) ≤ 0 ∧ (0 : Int) ≤ (2147483647) from by decide)
  | 107 => exact (show ((0) : Int) ≤ 0 ∧ (0 : Int) ≤ (6) from by decide)
  | 108 => exact (show ((-9223372036854775808) : Int) ≤ 0 ∧ (0 : Int) ≤ (9223372036854775807) from by decide)
  | 109 => exact (show ((-2147483648) : Int) ≤ 0 ∧ (0 : Int) ≤ (2147483647) from by decide)
  | 110 => exact (show ((-2147483648) : Int) ≤ 0 ∧ (0 : Int) ≤ (2147483647) from by decide)
  | 111 => exact (show ((-2147483648) : Int) ≤ 0 ∧ (0 : Int) ≤ (2147483647) from by decide)
  | 112 => exact (show ((-2147483648) : Int) ≤ 0 ∧ (0 : Int) ≤ (2147483647) from by decide)
  | j + 113 => exact (show (-9223372036854775808 : Int) ≤ 0 ∧ (0 : Int) ≤ 9223372036854775807 from by decide)
set_option maxHeartbeats 4000000 in
set_option maxRecDepth 100000 in
theorem IM_A0 : IM A0 := by
  intro j k
  match j with
  | 0 => exact g3 flM [0, 0, 0, 0, 0, 0, 0, 0, 0, (-1), 0, (-1), 0, 0, 0, 0, 0, 0, 0, 0, 0, 0, 0, 0, 0, 0, 0, 0, 0, 0, 0, 0, 0, 0, 0, 0, 0, 0, 0, 0, 0, 0, 0, 0, 0, 0, 0, 1] fhM (-9223372036854775808) 9223372036854775807 100 (by decide +kernel) (by decide) (by decide) (by decide) (by decide) k
  | j + 1 => exact g3 alM [] ahM (-9223372036854775808) 9223372036854775807 100 (by decide +kernel) (by decide) (by decide) (by decide) (by decide) (j + 1)
theorem WI_A0 : WI A0 := fun p => ⟨by show ct (fun _ => 0) 0 p 0 ≤ 2; simp [ct], by show ct (fun _ => 0) 6 p 0 ≤ 2; simp [ct]⟩
theorem CI_A0 : CI A0 := fun b i hb hi => absurd (show (i : Int) < 0 from hi) (by omega)
theorem PSs_0 (g : Nat → Int) : PSs (B0 g) A0 := by
  refine ⟨rfl, ?_⟩
  show MRs 0 A0 (tw 51 (B0 g))
  have nk : ∀ (o : Nat) (g h : Nat → Int), NKx 0 o g h := fun o g h j hj => absurd hj (by omega)
  refine ⟨⟨⟨rfl, nk _ _ _⟩, ⟨rfl, nk _ _ _⟩, ⟨rfl, nk _ _ _⟩, ⟨rfl, nk _ _ _⟩, ⟨rfl, nk _ _ _⟩⟩, ⟨rfl, rfl, rfl⟩, fun w => Or.inl rfl, ?_, ?_, ⟨⟨(by decide : (0 : Int) ≤ 0), (by decide : (0 : Int) < 1024)⟩, ?_, ?_⟩, ?_, ?_, ?_, ?_⟩
  · intro k hk; exact absurd (show (k : Int) < 0 from hk) (by omega)
  · intro k hk; exact absurd (show (k : Int) < 0 from hk) (by omega)
  · intro k hk; exact absurd (show (k : Int) < 0 from hk) (by omega)
  · intro k _; show (0 : Nat).testBit k = false; exact Nat.zero_testBit k
  · intro k hk; exact absurd (show (k : Int) < 0 from hk) (by omega)
  · intro q hq
    have e : tw 51 (B0 g) 12 q = 0 := rfl
    have b0 : bc 0 = 0 := by decide +kernel
    rw [e, b0]
    refine ⟨⟨by decide, by decide, by decide⟩, rfl, fun t _ => ⟨fun g => ?_, fun g => ?_⟩⟩
    · have g : (0 : Nat).testBit t = true := g
      rw [Nat.zero_testBit] at g
      exact absurd g (by decide)
    · obtain ⟨i, hi, _⟩ := g
      exact absurd (show (i : Int) < 0 from hi) (by omega)
  · intro k hk; exact absurd (show (k : Int) < 0 from hk) (by omega)
  · intro k hk; exact absurd (show (k : Int) < 0 from hk) (by omega)
theorem ACS_0 (g : Nat → Int) : ACS (B0 g) A0 := by
  show AC 0 A0 (tw 51 (B0 g)) ∧ MBc 0 A0 (tw 51 (B0 g))
  refine ⟨⟨⟨fun k hk => absurd (show (k : Int) < 0 from hk) (by omega), fun k _ _ => rfl⟩, fun k hk => absurd (show (k : Int) < 0 from hk) (by omega), ⟨(show (0 : Int) ≤ 0 from Int.le_refl 0), (show (0 : Int) ≤ 0 from Int.le_refl 0), (show (0 : Int) ≤ 0 from Int.le_refl 0), (show (0 : Int) ≤ 0 from Int.le_refl 0), (show (0 : Int) ≤ 0 from Int.le_refl 0)⟩, fun k hk => absurd (show (k : Int) < 0 from hk) (by omega), fun k hk => absurd (show (k : Int) < 0 from hk) (by omega), fun k hk => absurd (show (k : Int) < 0 from hk) (by omega), fun k _ _ => rfl, fun k hk => absurd (show (k : Int) < 0 from hk) (by omega)⟩, fun k hk => absurd (show (k : Int) < 0 from hk) (by omega)⟩
theorem LJ_0 (g : Nat → Int) (hg : ∀ k, R32 (g k)) (ho : ∀ k : Nat, k < 26 → g k = own5 k) : LJ (B0 g) A0 := ⟨IK_B0 g hg, IM_A0, CI_A0, WI_A0, rfl, fun k hk => absurd (show (k : Int) < 0 from hk) (by omega), ho, PSs_0 g, rfl, ACS_0 g⟩
