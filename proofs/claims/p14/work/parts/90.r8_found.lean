/-! A key that was found: both tell the same rows. -/
theorem oDiv_nat {a b : Int} (ha : 0 ≤ a ∧ a ≤ 2147483647) (hb : 0 < b ∧ b ≤ 2147483647) : oDiv a b = a / b := by
  have ne : iI b ≠ -1 := by
    intro e
    have e2 := congrArg Int32.toInt e
    rw [iI_toInt ⟨by omega, by omega⟩] at e2
    have m1 : (-1 : Int32).toInt = -1 := by decide +kernel
    omega
  unfold oDiv
  rw [Int32.toInt_div_of_ne_right _ _ ne, iI_toInt ⟨by omega, by omega⟩, iI_toInt ⟨by omega, by omega⟩, Int.tdiv_eq_ediv_of_nonneg ha.1]
theorem oRem_nat {a b : Int} (ha : 0 ≤ a ∧ a ≤ 2147483647) (hb : 0 < b ∧ b ≤ 2147483647) : oRem a b = a % b := by
  have d : iI a / iI b = iI (a / b) := by
    rw [← oDiv_nat ha hb]
    exact (iI_of _).symm
  have r : a - a / b * b = a % b := by rw [Int.emod_def, Int.mul_comm]
  have r0 := Int.emod_nonneg a (show b ≠ 0 by omega)
  have r1 := Int.emod_lt_of_pos a hb.1
  unfold oRem
  rw [d, iI_mul, iI_sub, r, iI_toInt ⟨by omega, by omega⟩]
theorem oMul_id {a b : Int} (h : R32 (a * b)) : oMul a b = a * b := by
  unfold oMul
  rw [iI_mul, iI_toInt h]
def dg (D : Nat) : Nat → Nat → List Nat
  | 0, _ => []
  | m + 1, v => (v % D) :: dg D m (v / D)
theorem dg_len {D : Nat} : ∀ m v, (dg D m v).length = m
  | 0, _ => rfl
  | m + 1, v => by
    show (dg D m (v / D)).length + 1 = m + 1
    rw [dg_len m]
def gd (L : Nat) : Nat → List Nat → Bool
  | _, [] => true
  | U, x :: r => (L.testBit x && !U.testBit x) && gd L (U ||| 2 ^ x) r
def rf (l : List Nat) (j : Nat) : Int := ((l.getD (l.length - 1 - j) 0 : Nat) : Int)
theorem gd_iff {L : Nat} : ∀ (l : List Nat) (U : Nat), gd L U l = true ↔ (∀ a, a < l.length → L.testBit (l.getD a 0) = true ∧ U.testBit (l.getD a 0) = false) ∧ ∀ a b, a < b → b < l.length → l.getD b 0 ≠ l.getD a 0 := by
  intro l
  induction l with
  | nil => intro U; exact ⟨fun _ => ⟨fun a h => absurd h (Nat.not_lt_zero a), fun a b _ h => absurd h (Nat.not_lt_zero b)⟩, fun _ => rfl⟩
  | cons x r ih =>
    intro U
    show ((L.testBit x && !U.testBit x) && gd L (U ||| 2 ^ x) r) = true ↔ _
    rw [Bool.and_eq_true, Bool.and_eq_true, ih (U ||| 2 ^ x)]
    constructor
    · rintro ⟨⟨h1, h2⟩, h3, h4⟩
      refine ⟨fun a ha => ?_, fun a b hab hb => ?_⟩
      · cases a with
        | zero => exact ⟨h1, by simpa using h2⟩
        | succ a =>
          have g := h3 a (Nat.lt_of_succ_lt_succ ha)
          rw [tb_or, Bool.or_eq_false_iff] at g
          exact ⟨g.1, g.2.1⟩
      · cases b with
        | zero => exact absurd hab (Nat.not_lt_zero a)
        | succ b =>
          have hb' : b < r.length := Nat.lt_of_succ_lt_succ hb
          cases a with
          | zero =>
            have g := (h3 b hb').2
            rw [tb_or, Bool.or_eq_false_iff] at g
            have g2 := of_decide_eq_false g.2
            exact fun e => g2 e.symm
          | succ a => exact h4 a b (Nat.lt_of_succ_lt_succ hab) hb'
    · rintro ⟨h1, h2⟩
      have z := h1 0 (Nat.succ_pos _)
      have z2 : U.testBit x = false := z.2
      refine ⟨⟨z.1, by rw [z2]; rfl⟩, fun a ha => ?_, fun a b hab hb => h2 (a + 1) (b + 1) (Nat.succ_lt_succ hab) (Nat.succ_lt_succ hb)⟩
      have g := h1 (a + 1) (Nat.succ_lt_succ ha)
      refine ⟨g.1, ?_⟩
      rw [tb_or, Bool.or_eq_false_iff]
      exact ⟨g.2, decide_eq_false (fun e => h2 0 (a + 1) (Nat.succ_pos _) (Nat.succ_lt_succ ha) e.symm)⟩
/-- how many are left behind all trials; -1 where the row does not agree -/
def lf (f td to : Nat → Int) : Nat → Nat → Int → Int
  | 0, _, w => w
  | n + 1, i, w => if 0 < w ∧ f (w - 1).toNat = td i then (if to i = 0 then -1 else lf f td to n (i + 1) (w - 1)) else (if to i = 0 then lf f td to n (i + 1) w else -1)
theorem lf_ss {f td to : Nat → Int} {n i : Nat} {w : Int} : lf f td to (n + 1) i w = if 0 < w ∧ f (w - 1).toNat = td i then (if to i = 0 then -1 else lf f td to n (i + 1) (w - 1)) else (if to i = 0 then lf f td to n (i + 1) w else -1) := rfl
theorem lf_r {f td to : Nat → Int} : ∀ (n i : Nat) (w : Int), 0 ≤ w → lf f td to n i w = -1 ∨ (0 ≤ lf f td to n i w ∧ lf f td to n i w ≤ w) := by
  intro n
  induction n with
  | zero => intro i w h; exact Or.inr ⟨h, Int.le_refl _⟩
  | succ n ih =>
    intro i w h
    rw [lf_ss]
    by_cases c : 0 < w ∧ f (w - 1).toNat = td i
    · rw [if_pos c]
      by_cases c2 : to i = 0
      · rw [if_pos c2]; exact Or.inl rfl
      · rw [if_neg c2]
        rcases ih (i + 1) (w - 1) (by omega) with e | e
        · exact Or.inl e
        · exact Or.inr ⟨e.1, by omega⟩
    · rw [if_neg c]
      by_cases c2 : to i = 0
      · rw [if_pos c2]; exact ih _ _ h
      · rw [if_neg c2]; exact Or.inl rfl
theorem lf_cg {f g td td' to to' : Nat → Int} : ∀ (n i : Nat) (w : Int), (∀ j : Nat, (j : Int) < w → f j = g j) → (∀ j, i ≤ j → j < i + n → td j = td' j ∧ to j = to' j) → lf f td to n i w = lf g td' to' n i w := by
  intro n
  induction n with
  | zero => intro i w _ _; rfl
  | succ n ih =>
    intro i w hf ht
    have t0 := ht i (Nat.le_refl i) (by omega)
    rw [lf_ss, lf_ss, t0.1, t0.2, ih (i + 1) w hf (fun j h1 h2 => ht j (by omega) (by omega)), ih (i + 1) (w - 1) (fun j hj => hf j (by omega)) (fun j h1 h2 => ht j (by omega) (by omega))]
    by_cases c : 0 < w
    · rw [hf (w - 1).toNat (by omega)]
    · rw [if_neg (show ¬ (0 < w ∧ f (w - 1).toNat = td' i) from fun h => c h.1), if_neg (show ¬ (0 < w ∧ g (w - 1).toNat = td' i) from fun h => c h.1)]
theorem K_top {x z v : Int} {A : St} (hx : 0 ≤ x ∧ x ≤ 3) (hv : 0 ≤ v) (h : q_X1_topOf x A z) : z = v ↔ (0 < x ∧ A 26 (x - 1).toNat = v) := by
  rcases (h.1 : tr_r_X1_topOf x A z) with ⟨c, hz⟩ | ⟨c, h⟩
  · exact ⟨fun g => by omega, fun g => by omega⟩
  · rcases h with ⟨c2, _⟩ | ⟨_, z3, e3, hz⟩
    · omega
    · rw [hz, e3]
      exact ⟨fun g => ⟨by omega, g⟩, fun g => g.2⟩
theorem K_topE {x z : Int} {A : St} (hx : 0 ≤ x ∧ x ≤ 3) (h : q_X1_topOf x A z) : z = if 0 < x then A 26 (x - 1).toNat else -1 := by
  rcases (h.1 : tr_r_X1_topOf x A z) with ⟨c, hz⟩ | ⟨c, h⟩
  · rw [if_neg (by omega)]; exact hz
  · rcases h with ⟨c2, _⟩ | ⟨_, z3, e3, hz⟩
    · omega
    · rw [if_pos (by omega), hz, e3]
theorem K_left {A : St} {z : Int} {n : Nat} (hI : IK A) (hn : A 22 4 = (n : Int)) (h0 : ∀ i : Nat, i < n → 0 ≤ A 23 i) : ∀ (nn i : Nat) (w : Int), 0 ≤ w → w ≤ 3 → i ≤ n → d_X1_leftOf_1 A z nn (i : Int) w → z = lf (A 26) (A 23) (A 24) (n - i) i w := by
  intro nn
  induction nn with
  | zero => intro i w _ _ _ h; exact h.elim
  | succ nn ih =>
    intro i w w0 w3 hi h
    obtain ⟨_, _, h⟩ := (h : tr_d_X1_leftOf_1 A z (fun z1 z2 => d_X1_leftOf_1 A z nn z1 z2) i w)
    rcases h with ⟨c, hz⟩ | ⟨c, z13, ht, z16, e16, h⟩
    · rw [show n - i = 0 by omega]; exact hz
    · have hin : i < n := by omega
      obtain ⟨k, hk⟩ : ∃ k, n - i = k + 1 := ⟨n - i - 1, by omega⟩
      rw [Int.toNat_natCast] at e16
      have top := K_top ⟨w0, w3⟩ (h0 i hin) ht
      rw [← e16] at top
      rw [hk, lf_ss, ← e16]
      have st3 : ∀ w', 0 ≤ w' → w' ≤ 3 → d_X1_leftOf_3 (fun z1 z2 => d_X1_leftOf_1 A z nn z1 z2) (i : Int) z w' → z = lf (A 26) (A 23) (A 24) k (i + 1) w' := by
        intro w' a b h
        obtain ⟨_, h⟩ := (h : tr_d_X1_leftOf_3 _ (i : Int) z w')
        have := ih (i + 1) w' a b (by omega) h
        rw [this, show n - (i + 1) = k by omega]
      have r24 : (0 : Int) ≤ A 24 i ∧ A 24 i ≤ 1 := hI 24 i
      rcases h with ⟨c2, h⟩ | ⟨c2, h⟩
      · rw [if_neg (fun g => c2 (top.mpr g))]
        obtain ⟨_, z22, e22, h⟩ := (h : tr_d_X1_leftOf_2 _ (i : Int) w A z 0)
        rw [Int.toNat_natCast] at e22
        rw [← e22]
        rcases h with ⟨c3, h⟩ | ⟨c3, hz⟩
        · rw [if_pos c3.symm]
          rcases h with ⟨_, h⟩ | ⟨c4, _⟩
          · exact st3 w w0 w3 h
          · exact absurd c3.symm c4
        · rw [if_neg (fun g => c3 g.symm)]; exact hz
      · rw [if_pos (top.mp c2)]
        obtain ⟨_, z22, e22, h⟩ := (h : tr_d_X1_leftOf_2 _ (i : Int) w A z 1)
        rw [Int.toNat_natCast] at e22
        rw [← e22] at r24 ⊢
        rcases h with ⟨c3, h⟩ | ⟨c3, hz⟩
        · rw [if_neg (by omega)]
          rcases h with ⟨c4, _⟩ | ⟨_, z27, e27, h⟩
          · omega
          · have g := (top.mp c2).1
            rw [e27, oWrap_id ⟨by omega, by omega⟩] at h
            exact st3 (w - 1) (by omega) (by omega) h
        · rw [if_pos (by omega)]; exact hz
theorem M_left {A0 u : St} {z : Int} {n : Nat} (hn : A0 0 75 = (n : Int)) : ∀ (nn i : Nat) (A : St), 0 ≤ A 0 80 → i ≤ n → d_X12_agrees_1 A0 z u nn (i : Int) A → (z = 1 ∧ 0 ≤ u 0 80 ∧ u 0 80 = lf (A 54) (A 52) (A 53) (n - i) i (A 0 80)) ∨ (z = 0 ∧ lf (A 54) (A 52) (A 53) (n - i) i (A 0 80) = -1) := by
  intro nn
  induction nn with
  | zero => intro i A _ _ h; exact h.elim
  | succ nn ih =>
    intro i A w0 hi h
    obtain ⟨hI, _, h⟩ := (h : tr_d_X12_agrees_1 A0 z u (fun z2 A4 => d_X12_agrees_1 A0 z u nn z2 A4) i A)
    have w3 : A 0 80 ≤ 3 := (hI 0 80).2
    rcases h with ⟨c, hz, hu⟩ | ⟨c, h⟩
    · rw [show n - i = 0 by omega, hu]
      exact Or.inl ⟨hz, w0, rfl⟩
    · have hin : i < n := by omega
      obtain ⟨k, hk⟩ : ∃ k, n - i = k + 1 := ⟨n - i - 1, by omega⟩
      have st4 : ∀ y : Int, (y = 0 ∨ y = 1) → 0 ≤ A 0 80 - y → d_X12_agrees_4 (fun z2 A4 => d_X12_agrees_1 A0 z u nn z2 A4) (i : Int) A z u y → (z = 1 ∧ 0 ≤ u 0 80 ∧ u 0 80 = lf (A 54) (A 52) (A 53) k (i + 1) (A 0 80 - y)) ∨ (z = 0 ∧ lf (A 54) (A 52) (A 53) k (i + 1) (A 0 80 - y) = -1) := by
        intro y hy hw h
        obtain ⟨_, A31, e31, h⟩ := (h : tr_d_X12_agrees_4 _ (i : Int) A z u y)
        have e80 : A31 0 80 = A 0 80 - y := by rw [e31]; rfl
        have e54 : A31 54 = A 54 := by rw [e31]; rfl
        have e52 : A31 52 = A 52 := by rw [e31]; rfl
        have e53 : A31 53 = A 53 := by rw [e31]; rfl
        have g := ih (i + 1) A31 (by rw [e80]; exact hw) (by omega) h
        rw [e80, e54, e52, e53, show n - (i + 1) = k by omega] at g
        exact g
      have st3 : ∀ y : Int, (y = 0 ∨ y = 1) → (y = 1 ↔ (0 < A 0 80 ∧ A 54 (A 0 80 - 1).toNat = A 52 i)) → d_X12_agrees_3 (fun z2 A4 => d_X12_agrees_1 A0 z u nn z2 A4) (i : Int) A z u y → (z = 1 ∧ 0 ≤ u 0 80 ∧ u 0 80 = lf (A 54) (A 52) (A 53) (n - i) i (A 0 80)) ∨ (z = 0 ∧ lf (A 54) (A 52) (A 53) (n - i) i (A 0 80) = -1) := by
        intro y hy hiff h
        obtain ⟨_, z23, e23, h⟩ := (h : tr_d_X12_agrees_3 _ (i : Int) A z u y)
        rw [Int.toNat_natCast] at e23
        rw [hk, lf_ss, ← e23]
        have r23 : (0 : Int) ≤ z23 ∧ z23 ≤ 1 := by rw [e23]; exact hI 53 i
        rcases h with ⟨c2, h⟩ | ⟨c2, hz, hu⟩
        · rcases h with ⟨c3, h⟩ | ⟨c3, h⟩
          · rw [if_neg (fun g => by have := hiff.mpr g; omega), if_pos (by omega)]
            have g := st4 0 (Or.inl rfl) (by omega) h
            rw [Int.sub_zero] at g
            exact g
          · have y1 : y = 1 := by omega
            have p := hiff.mp y1
            rw [if_pos p, if_neg (by omega)]
            exact st4 1 (Or.inr rfl) (by omega) h
        · refine Or.inr ⟨hz, ?_⟩
          rcases hy with y0 | y1
          · rw [if_neg (fun g => by have := hiff.mpr g; omega), if_neg (by omega)]
          · rw [if_pos (hiff.mp y1), if_pos (by omega)]
      rcases h with ⟨c2, h⟩ | ⟨c2, z15, e15, z16, e16, h⟩
      · exact st3 0 (Or.inl rfl) ⟨fun g => absurd g (by decide), fun g => by omega⟩ (h : tr_d_X12_agrees_2 _ (i : Int) A z u)
      · rw [Int.toNat_natCast] at e16
        rcases h with ⟨c3, h⟩ | ⟨c3, h⟩
        · exact st3 0 (Or.inl rfl) ⟨fun g => absurd g (by decide), fun g => by rw [e15, e16] at c3; exact absurd g.2 c3⟩ (h : tr_d_X12_agrees_2 _ (i : Int) A z u)
        · exact st3 1 (Or.inr rfl) ⟨fun _ => ⟨by omega, by rw [← e15, ← e16]; exact c3⟩, fun _ => rfl⟩ h
