/-! Both tapes, and the town's answers. -/
theorem i2b_and (x : Int) : oI2b x % 256 = oAnd x 255 := by
  have e1 : oI2b x = (iI x).toInt.bmod 256 := by
    unfold oI2b
    rw [Int8.toInt_toInt32, Int32.toInt_toInt8]
  have e2 : (iI x &&& iI 255).toBitVec = (iI x).toBitVec &&& (iI 255).toBitVec := Int32.toBitVec_and _ _
  have n255 : (iI 255).toBitVec.toNat = 2 ^ 8 - 1 := by decide +kernel
  have e3 : oAnd x 255 = (((iI x).toBitVec.toNat % 256 : Nat) : Int) := by
    show (iI x &&& iI 255).toBitVec.toInt = _
    rw [BitVec.toInt_eq_toNat_cond, e2, BitVec.toNat_and, n255, Nat.and_two_pow_sub_one_eq_mod]
    have : (iI x).toBitVec.toNat % 2 ^ 8 < 256 := Nat.mod_lt _ (by decide)
    rw [if_pos (by omega)]
  have e4 : (iI x).toInt = (iI x).toBitVec.toInt := rfl
  have bm : ∀ a : Int, a.bmod 256 % 256 = a % 256 := by
    intro a
    show (if (a % ((256 : Nat) : Int)) < (((256 : Nat) : Int) + 1) / 2 then a % ((256 : Nat) : Int) else a % ((256 : Nat) : Int) - ((256 : Nat) : Int)) % 256 = a % 256
    split <;> omega
  rw [e1, bm, e3, e4, BitVec.toInt_eq_toNat_cond]
  split <;> omega
def TB (B A : St) : Prop := ∀ k : Nat, (k : Int) < A 0 1 → A 1 k = B 2 k % 256
def OW (B : St) : Prop := ∀ k : Nat, k < 26 → B 4 k = own5 k
theorem TB.fr {B A B2 A2 : St} (h : TB B A) (hb : ∀ k, B2 2 k = B 2 k) (ha : A2 1 = A 1) (hn : A2 0 1 ≤ A 0 1) : TB B2 A2 := by
  intro k hk
  rw [ha, hb]
  exact h k (by omega)
theorem put_eq {v : Int} {u1 u2 : St} : ∀ (n1 n2 : Nat) (s : Int) (B A : St), TB B A → B 1 1 = A 0 1 → 8 * B 1 1 + s ≤ 12792 → d_X7_put_1 v u1 n1 s B → d_X12_put_1 v u2 n2 s A → TB u1 u2 := by
  intro n1
  induction n1 with
  | zero => intro n2 s B A _ _ _ h _; exact h.elim
  | succ n1 ih =>
    intro n2 s B A hT he hb h1 h2
    cases n2 with
    | zero => exact h2.elim
    | succ n2 =>
      obtain ⟨_, _, h1⟩ := (h1 : tr_d_X7_put_1 v u1 (fun z1 A3 => d_X7_put_1 v u1 n1 z1 A3) s B)
      obtain ⟨hI, _, h2⟩ := (h2 : tr_d_X12_put_1 v u2 (fun z1 A3 => d_X12_put_1 v u2 n2 z1 A3) s A)
      have r1 : (0 : Int) ≤ A 0 1 := (hI 0 1).1
      rcases h1 with ⟨c, e1⟩ | ⟨c, h1⟩
      · rcases h2 with ⟨_, e2⟩ | ⟨c2, _⟩
        · rw [e1, e2]; exact hT
        · exact absurd c c2
      · rcases h2 with ⟨c2, _⟩ | ⟨_, z13, hz13, z14, hz14, A15, eA, h2⟩
        · exact absurd c2 c
        · rcases h1 with ⟨c3, _⟩ | ⟨_, z15, hz15, z16, hz16, A17, e17, A19, e19, h1⟩
          · omega
          · have hz : z14 = z16 % 256 := by rw [hz14, hz16, i2b_and, hz13, hz15]
            have b11 : A19 1 1 = B 1 1 + 1 := by rw [e19]; rfl
            have a01 : A15 0 1 = A 0 1 + 1 := by rw [eA]; rfl
            refine ih n2 (s - 8) A19 A15 ?_ (by rw [b11, a01, he]) (by rw [b11]; omega) h1 h2
            intro k hk
            rw [a01] at hk
            have ra : A15 1 = up (A 1) (A 0 1).toNat z14 := by rw [eA]; rfl
            have rb : A19 2 = up (B 2) (A 0 1).toNat z16 := by rw [e19, e17, he]; rfl
            rw [ra, rb]
            by_cases e : k = (A 0 1).toNat
            · rw [e, up_same, up_same]; exact hz
            · rw [up_ne _ _ e, up_ne _ _ e]
              exact hT k (by omega)
theorem feed_tb {x1 x2 x3 x4 x5 z1 z2 : Int} {B A u1 u2 : St} (hT : TB B A) (he : B 1 1 = A 0 1) (h1 : r_X11_feed x1 x2 x3 x4 x5 B z1 u1) (h2 : r_X12_feed x1 x2 x3 x4 x5 A z2 u2) : TB u1 u2 := by
  have one : ∀ {v : Int} {B A u1 u2 : St}, TB B A → B 1 1 = A 0 1 → B 1 1 + 4 ≤ 1600 → q_X7_put v B u1 → q_X12_put v A u2 → TB u1 u2 ∧ u1 1 1 = u2 0 1 ∧ u1 1 1 = B 1 1 + 4 := by
    intro v B A u1 u2 hT he hb h1 h2
    have g1 := h1.2.2.2
    have g2 := h2.2.2.2
    obtain ⟨n1, p1⟩ := (h1.1 : tr_r_X7_put v B u1)
    obtain ⟨n2, p2⟩ := (h2.1 : tr_r_X12_put v A u2)
    exact ⟨put_eq n1 n2 24 B A hT he (by omega) p1 p2, by omega, g1⟩
  obtain ⟨zr, hr, h1⟩ := (h1 : tr_r_X11_feed x1 x2 x3 x4 x5 B z1 u1)
  have g1 := hr.2.2.1
  have g0 := hr.2.2.2
  have gr := hr.2.1
  rcases h1 with ⟨c, B1, p1, B2, p2, B3, p3, B4, p4, B5, p5, _, e1⟩ | ⟨c, zq, Bq, hq, _, e1⟩
  · have room := g1 (by omega)
    rcases (h2 : tr_r_X12_feed x1 x2 x3 x4 x5 A z2 u2) with ⟨_, A1, r1, A2, r2, A3, r3, A4, r4, A5, r5, _, e2⟩ | ⟨c2, _⟩
    · obtain ⟨t1, f1, s1⟩ := one hT he (by omega) p1 r1
      obtain ⟨t2, f2, s2⟩ := one t1 f1 (by omega) p2 r2
      obtain ⟨t3, f3, s3⟩ := one t2 f2 (by omega) p3 r3
      obtain ⟨t4, f4, s4⟩ := one t3 f3 (by omega) p4 r4
      obtain ⟨t5, f5, s5⟩ := one t4 f4 (by omega) p5 r5
      rw [e1, e2]
      exact t5
    · exact absurd c2 (by omega)
  · have room := g0 c
    rcases (h2 : tr_r_X12_feed x1 x2 x3 x4 x5 A z2 u2) with ⟨c2, _⟩ | ⟨_, z17, A18, hf, _, e2⟩
    · exact absurd c2 (by omega)
    · rw [e1, e2]
      exact hT.fr (fun k => hq.2.2.1 2 k rfl rfl) (hf.2.2.1.1 1 (by decide) rfl) (Int.le_of_eq (hf.2.2.1.2 1 rfl))
theorem town_eq {z1 z2 : Int} {B A u1 u2 : St} (hIK : IK B) (hIM : IM A) (he : B 1 1 = A 0 1) (hT : TB B A) (hO : OW B) (h1 : r_X11_town B z1 u1) (h2 : r_X12_town A z2 u2 ∧ IM u2 ∧ fr [2, 3, 4, 5, 6, 7, 8, 9, 10, 11, 12, 13, 14, 15, 16, 17, 18, 19, 20, 21, 22, 23, 24, 25, 26, 27, 28, 29, 30, 31, 32, 33, 34, 35, 36, 37, 38, 39, 40, 41] [1, 2, 3, 4, 5, 6, 7, 8, 9, 10, 11, 12, 46, 47, 53, 54, 56, 57, 75] A u2 ∧ CI u2 ∧ WI u2 ∧ ((-2147483648 ≤ z2 ∧ z2 ≤ 2147483647) ∧ u2 0 1 = 0)) : z1 = z2 := by
  have r01 : (0 : Int) ≤ A 0 1 ∧ A 0 1 ≤ 1600 := hIM 0 1
  have r12 : (0 : Int) ≤ A 0 12 ∧ A 0 12 ≤ 1 := hIM 0 12
  have r10 : (0 : Int) ≤ B 0 10 ∧ B 0 10 ≤ 1 := hIK 0 10
  obtain ⟨N, hN⟩ : ∃ N : Nat, A 0 1 = (N : Int) := ⟨(A 0 1).toNat, by omega⟩
  obtain ⟨t2, ht2, z3, A4, hr, A7, _, h1⟩ := (h1 : tr_r_X11_town B z1 u1)
  have hta : isT t2 := by
    rcases (show B 0 10 = 0 ∨ B 0 10 = 1 by omega) with e | e
    · rw [e] at ht2; exact Or.inl ht2
    · rw [e] at ht2; exact Or.inr ht2
  have hE : EK (fun k => B 2 k % 256) N B := ⟨hIK, by rw [he, hN], by omega, fun k _ => rfl, hO⟩
  have cw := C_readTown hta hE hr
  have mx := M_town (f := fun k => B 2 k % 256) (N := N) (b := (-(A 0 12) + 1).toNat) (T := tw t2 B) hN (by omega) (fun k hk => (hT k (by omega)).symm) (by omega) (by omega) (show q_X12_town A z2 u2 from h2)
  have e13 : z1 = z3 := by
    rcases h1 with ⟨_, _, _, _, _, _, _, _, _, hz, _⟩ | ⟨c, z22, A23, hf, hz, _⟩
    · exact hz
    · rw [hz, c]; exact hf.2.2.2
  rw [e13]
  unfold CW at cw
  rcases mx with ⟨a, ha, hz, _⟩ | ⟨ha, hz⟩
  · rw [ha] at cw
    rw [hz]
    exact cw.1
  · rw [ha] at cw
    rw [hz]
    exact cw
