/-! What is shut, dead, held and how many: both sides against the town. -/
def inR (T : St) (k d : Nat) : Prop := ∃ i : Nat, (i : Int) < T 25 k ∧ T (27 + k) i = (d : Int)
def shT (T : St) (d : Nat) : Prop := (T 0 15).toNat.testBit d = true ∨ ∃ k : Nat, (k : Int) < T 1 2 ∧ inR T k d
def ddT (T : St) (d : Nat) : Prop := (T 0 15).toNat.testBit d = true ∨ ∃ k : Nat, (k : Int) < T 1 2 ∧ T 24 k = 40 ∧ inR T k d
def RB (T : St) : Prop := ∀ k : Nat, k < 4 → (0 ≤ T 25 k ∧ T 25 k ≤ 6) ∧ ∀ i : Nat, (i : Int) < T 25 k → 0 ≤ T (27 + k) i ∧ T (27 + k) i < 10
theorem VT.rb {T : St} (h : VT T) (h10 : T 1 1 ≤ 10) : RB T := by
  intro k hk
  by_cases c : (k : Int) < T 1 2
  · have v := h.2.2.2.1 k c
    exact ⟨v.1, fun i hi => by have := v.2.1 i hi; omega⟩
  · have z := h.2.2.2.2.1 k hk (by omega)
    rw [z]
    exact ⟨⟨by decide, by decide⟩, fun i hi => absurd hi (by omega)⟩
theorem or_10 {x y : Int} (hx : 0 ≤ x ∧ x < 1024) (hy : 0 ≤ y ∧ y < 1024) : 0 ≤ oOr x y ∧ oOr x y < 1024 ∧ ∀ d, (oOr x y).toNat.testBit d = (x.toNat.testBit d || y.toNat.testBit d) := by
  have p10 : (2 : Nat) ^ 10 = 1024 := by decide
  have l1 : x.toNat < 2 ^ 10 := by omega
  have l2 : y.toNat < 2 ^ 10 := by omega
  have l3 := Nat.or_lt_two_pow l1 l2
  have ex : x = ((x.toNat : Nat) : Int) := by omega
  have ey : y = ((y.toNat : Nat) : Int) := by omega
  have e : oOr x y = ((x.toNat ||| y.toNat : Nat) : Int) := by
    have := oOr_nat (a := x.toNat) (b := y.toNat) (by omega) (by omega)
    rw [← ex, ← ey] at this
    exact this
  rw [e]
  refine ⟨by omega, by omega, fun d => ?_⟩
  rw [Int.toNat_natCast, Nat.testBit_or]
/-- the class's rows -/
theorem K_inRow {t k j : Nat} {B : St} {z : Int} (hk : k < 4) (h : q_X6_inRow (t + 22) (k : Int) (j : Int) B z) : ((j : Int) < B (t + 25) k ∧ z = B (t + (27 + k)) j) ∨ (B (t + 25) k ≤ (j : Int) ∧ z = -1) := by
  rcases (h.1 : tr_r_X6_inRow (t + 22) (k : Int) (j : Int) B z) with ⟨c, _⟩ | ⟨_, h⟩
  · omega
  rcases h with ⟨c, _⟩ | ⟨_, h⟩
  · omega
  rcases h with ⟨c, _⟩ | ⟨_, z4, e4, h⟩
  · omega
  rw [Int.toNat_natCast] at e4
  have e4 : z4 = B (t + 25) k := e4
  rcases h with ⟨c, hz⟩ | ⟨c, z7, e7, hz⟩
  · exact Or.inr ⟨by omega, hz⟩
  · rw [Int.toNat_natCast, Int.toNat_natCast, show t + 22 + 5 + k = t + (27 + k) by omega] at e7
    exact Or.inl ⟨by omega, by rw [hz, e7]⟩
theorem K_rowMaskL {t k : Nat} {B : St} {z : Int} (hk : k < 4) (hR : RB (tw t B)) : ∀ (nn i : Nat) (m : Int), (0 ≤ m ∧ m < 1024) → (∀ d, d < 10 → (m.toNat.testBit d = true ↔ ∃ i', i' < i ∧ (i' : Int) < B (t + 25) k ∧ B (t + (27 + k)) i' = (d : Int))) → d_X6_rowMask_1 (t + 22) (k : Int) B z nn (i : Int) m → (0 ≤ z ∧ z < 1024) ∧ ∀ d, d < 10 → (z.toNat.testBit d = true ↔ inR (tw t B) k d) := by
  have r6 : B (t + 25) k ≤ 6 := (hR k hk).1.2
  intro nn
  induction nn with
  | zero => intro i m _ _ h; exact h.elim
  | succ nn ih =>
    intro i m hm hb h
    obtain ⟨_, _, h⟩ := (h : tr_d_X6_rowMask_1 (t + 22) (k : Int) B z (fun z1 z2 => d_X6_rowMask_1 (t + 22) (k : Int) B z nn z1 z2) (i : Int) m)
    rcases h with ⟨c, hz⟩ | ⟨c, z10, h10, h⟩
    · rw [hz]
      refine ⟨hm, fun d hd => (hb d hd).trans ⟨fun ⟨i', _, h2, h3⟩ => ⟨i', h2, h3⟩, fun ⟨i', h2, h3⟩ => ⟨i', ?_, h2, h3⟩⟩⟩
      have h2 : (i' : Int) < B (t + 25) k := h2
      omega
    · rcases K_inRow hk h10 with ⟨g1, g2⟩ | ⟨g1, g2⟩
      · have rb : 0 ≤ B (t + (27 + k)) i ∧ B (t + (27 + k)) i < 10 := (hR k hk).2 i g1
        rcases h with ⟨e, _⟩ | ⟨_, z15, e15, z16, e16, h⟩
        · omega
        · obtain ⟨_, h⟩ := (h : tr_d_X6_rowMask_2 _ (i : Int) z z16)
          have ed : z10 = ((z10.toNat : Nat) : Int) := by omega
          rw [e15, ed] at e16
          obtain ⟨o1, o2, o3⟩ := or_bit (x := m) (d := z10.toNat) hm (by omega)
          rw [← e16] at o1 o2 o3
          refine ih (i + 1) z16 ⟨o1, o2⟩ (fun d hd => ?_) (by rw [show ((i + 1 : Nat) : Int) = (i : Int) + 1 by omega]; exact h)
          rw [o3, tb_or, Bool.or_eq_true, hb d hd, decide_eq_true_eq]
          constructor
          · rintro (⟨i', a1, a2, a3⟩ | e)
            · exact ⟨i', by omega, a2, a3⟩
            · exact ⟨i, by omega, g1, by omega⟩
          · rintro ⟨i', a1, a2, a3⟩
            by_cases e : i' = i
            · subst e
              exact Or.inr (by omega)
            · exact Or.inl ⟨i', by omega, a2, a3⟩
      · rcases h with ⟨_, h⟩ | ⟨c2, _⟩
        · obtain ⟨_, h⟩ := (h : tr_d_X6_rowMask_2 _ (i : Int) z m)
          refine ih (i + 1) m hm (fun d hd => (hb d hd).trans ⟨fun ⟨i', a1, a2, a3⟩ => ⟨i', by omega, a2, a3⟩, fun ⟨i', a1, a2, a3⟩ => ⟨i', by omega, a2, a3⟩⟩) (by rw [show ((i + 1 : Nat) : Int) = (i : Int) + 1 by omega]; exact h)
        · exact absurd g2 c2
theorem K_rowMask {t k : Nat} {B : St} {z : Int} (hk : k < 4) (hR : RB (tw t B)) (h : q_X6_rowMask (t + 22) (k : Int) B z) : (0 ≤ z ∧ z < 1024) ∧ ∀ d, d < 10 → (z.toNat.testBit d = true ↔ inR (tw t B) k d) := by
  obtain ⟨nn, h⟩ := (h.1 : tr_r_X6_rowMask (t + 22) (k : Int) B z)
  refine K_rowMaskL hk hR nn 0 0 ⟨by decide, by decide⟩ (fun d _ => ⟨fun g => ?_, fun ⟨i', a1, _⟩ => absurd a1 (Nat.not_lt_zero i')⟩) h
  rw [show (0 : Int).toNat = 0 from rfl, Nat.zero_testBit] at g
  exact absurd g Bool.false_ne_true
theorem K_shutMaskL {t : Nat} {B : St} {z : Int} (hR : RB (tw t B)) (h4 : B (t + 1) 2 ≤ 4) : ∀ (nn k : Nat) (m : Int), (0 ≤ m ∧ m < 1024) → (∀ d, d < 10 → (m.toNat.testBit d = true ↔ ((B t 15).toNat.testBit d = true ∨ ∃ k' : Nat, k' < k ∧ (k' : Int) < B (t + 1) 2 ∧ inR (tw t B) k' d))) → d_X9_shutMask_1 t B z nn (k : Int) m → (0 ≤ z ∧ z < 1024) ∧ ∀ d, d < 10 → (z.toNat.testBit d = true ↔ shT (tw t B) d) := by
  intro nn
  induction nn with
  | zero => intro k m _ _ h; exact h.elim
  | succ nn ih =>
    intro k m hm hb h
    obtain ⟨_, _, z11, e11, h⟩ := (h : tr_d_X9_shutMask_1 t B z (fun z2 z3 => d_X9_shutMask_1 t B z nn z2 z3) (k : Int) m)
    have e11 : z11 = B (t + 1) 2 := e11
    rcases h with ⟨c, hz⟩ | ⟨c, z13, h13, z16, e16, h⟩
    · rw [hz]
      refine ⟨hm, fun d hd => (hb d hd).trans ⟨fun g => g.elim Or.inl (fun ⟨k', _, a2, a3⟩ => Or.inr ⟨k', a2, a3⟩), fun g => g.elim Or.inl (fun ⟨k', a2, a3⟩ => Or.inr ⟨k', ?_, a2, a3⟩)⟩⟩
      have a2 : (k' : Int) < B (t + 1) 2 := a2
      omega
    · obtain ⟨y1, y2⟩ := K_rowMask (by omega) hR h13
      obtain ⟨o1, o2, o3⟩ := or_10 hm y1
      rw [← e16] at o1 o2 o3
      refine ih (k + 1) z16 ⟨o1, o2⟩ (fun d hd => ?_) (by rw [show ((k + 1 : Nat) : Int) = (k : Int) + 1 by omega]; exact h)
      rw [o3, Bool.or_eq_true, hb d hd, y2 d hd]
      constructor
      · rintro ((g | ⟨k', a1, a2, a3⟩) | g)
        · exact Or.inl g
        · exact Or.inr ⟨k', by omega, a2, a3⟩
        · exact Or.inr ⟨k, by omega, by omega, g⟩
      · rintro (g | ⟨k', a1, a2, a3⟩)
        · exact Or.inl (Or.inl g)
        · by_cases e : k' = k
          · subst e
            exact Or.inr a3
          · exact Or.inl (Or.inr ⟨k', by omega, a2, a3⟩)
theorem K_shutMask {t : Nat} {B : St} {z : Int} (hR : RB (tw t B)) (h4 : B (t + 1) 2 ≤ 4) (h15 : 0 ≤ B t 15 ∧ B t 15 < 1024) (h : q_X9_shutMask t B z) : (0 ≤ z ∧ z < 1024) ∧ ∀ d, d < 10 → (z.toNat.testBit d = true ↔ shT (tw t B) d) := by
  obtain ⟨nn, h⟩ := (h.1 : tr_r_X9_shutMask t B z)
  exact K_shutMaskL hR h4 nn 0 _ h15 (fun d _ => ⟨fun g => Or.inl g, fun g => g.resolve_right (fun ⟨k', a1, _⟩ => absurd a1 (Nat.not_lt_zero k'))⟩) h
theorem K_deadMaskL {t : Nat} {B : St} {z : Int} (hR : RB (tw t B)) (h4 : B (t + 1) 2 ≤ 4) : ∀ (nn k : Nat) (m : Int), (0 ≤ m ∧ m < 1024) → (∀ d, d < 10 → (m.toNat.testBit d = true ↔ ((B t 15).toNat.testBit d = true ∨ ∃ k' : Nat, k' < k ∧ (k' : Int) < B (t + 1) 2 ∧ B (t + 24) k' = 40 ∧ inR (tw t B) k' d))) → d_X9_deadMask_1 t B z nn (k : Int) m → (0 ≤ z ∧ z < 1024) ∧ ∀ d, d < 10 → (z.toNat.testBit d = true ↔ ddT (tw t B) d) := by
  intro nn
  induction nn with
  | zero => intro k m _ _ h; exact h.elim
  | succ nn ih =>
    intro k m hm hb h
    obtain ⟨_, _, z11, e11, h⟩ := (h : tr_d_X9_deadMask_1 t B z (fun z2 z3 => d_X9_deadMask_1 t B z nn z2 z3) (k : Int) m)
    have e11 : z11 = B (t + 1) 2 := e11
    rcases h with ⟨c, hz⟩ | ⟨c, z13, e13, h⟩
    · rw [hz]
      refine ⟨hm, fun d hd => (hb d hd).trans ⟨fun g => g.elim Or.inl (fun ⟨k', _, a2, a3⟩ => Or.inr ⟨k', a2, a3⟩), fun g => g.elim Or.inl (fun ⟨k', a2, a3⟩ => Or.inr ⟨k', ?_, a2, a3⟩)⟩⟩
      have a2 : (k' : Int) < B (t + 1) 2 := a2
      omega
    · rw [Int.toNat_natCast] at e13
      have e13 : z13 = B (t + 24) k := e13
      rcases h with ⟨c2, h⟩ | ⟨c2, z16, h16, z19, e19, h⟩
      · obtain ⟨_, h⟩ := (h : tr_d_X9_deadMask_2 _ (k : Int) z m)
        refine ih (k + 1) m hm (fun d hd => (hb d hd).trans ⟨fun g => g.elim Or.inl (fun ⟨k', a1, a2, a3⟩ => Or.inr ⟨k', by omega, a2, a3⟩), fun g => g.elim Or.inl (fun ⟨k', a1, a2, a3, a4⟩ => Or.inr ⟨k', ?_, a2, a3, a4⟩)⟩) (by rw [show ((k + 1 : Nat) : Int) = (k : Int) + 1 by omega]; exact h)
        by_cases e : k' = k
        · subst e
          exact absurd (e13.trans a3) c2
        · omega
      · obtain ⟨_, h⟩ := (h : tr_d_X9_deadMask_2 _ (k : Int) z z19)
        obtain ⟨y1, y2⟩ := K_rowMask (by omega) hR h16
        obtain ⟨o1, o2, o3⟩ := or_10 hm y1
        rw [← e19] at o1 o2 o3
        refine ih (k + 1) z19 ⟨o1, o2⟩ (fun d hd => ?_) (by rw [show ((k + 1 : Nat) : Int) = (k : Int) + 1 by omega]; exact h)
        rw [o3, Bool.or_eq_true, hb d hd, y2 d hd]
        constructor
        · rintro ((g | ⟨k', a1, a2, a3⟩) | g)
          · exact Or.inl g
          · exact Or.inr ⟨k', by omega, a2, a3⟩
          · exact Or.inr ⟨k, by omega, by omega, e13.symm.trans c2, g⟩
        · rintro (g | ⟨k', a1, a2, a3, a4⟩)
          · exact Or.inl (Or.inl g)
          · by_cases e : k' = k
            · subst e
              exact Or.inr a4
            · exact Or.inl (Or.inr ⟨k', by omega, a2, a3, a4⟩)
theorem K_deadMask {t : Nat} {B : St} {z : Int} (hR : RB (tw t B)) (h4 : B (t + 1) 2 ≤ 4) (h15 : 0 ≤ B t 15 ∧ B t 15 < 1024) (h : q_X9_deadMask t B z) : (0 ≤ z ∧ z < 1024) ∧ ∀ d, d < 10 → (z.toNat.testBit d = true ↔ ddT (tw t B) d) := by
  obtain ⟨nn, h⟩ := (h.1 : tr_r_X9_deadMask t B z)
  exact K_deadMaskL hR h4 nn 0 _ h15 (fun d _ => ⟨fun g => Or.inl g, fun g => g.resolve_right (fun ⟨k', a1, _⟩ => absurd a1 (Nat.not_lt_zero k'))⟩) h
/-- the reference's rows -/
theorem M_isInRowL {b k d : Nat} {A T : St} {z : Int} (hk : (k : Int) < T 1 2) (hK : MKy b A T) : ∀ (nn i : Nat), (∀ i' : Nat, i' < i → (i' : Int) < T 25 k → ¬ T (27 + k) i' = (d : Int)) → d_X12_isInRow_1 (4 * (b : Int) + (k : Int)) (d : Int) A z nn (i : Int) → (z = 1 ↔ inR T k d) ∧ (z = 0 ∨ z = 1) := by
  obtain ⟨_, r25, rr⟩ := hK.1 k hk
  intro nn
  induction nn with
  | zero => intro i _ h; exact h.elim
  | succ nn ih =>
    intro i no h
    obtain ⟨_, z9, e9, h⟩ := (h : tr_d_X12_isInRow_1 (4 * (b : Int) + (k : Int)) (d : Int) A z (fun z1 => d_X12_isInRow_1 (4 * (b : Int) + (k : Int)) (d : Int) A z nn z1) (i : Int))
    rw [show (4 * (b : Int) + (k : Int)).toNat = 4 * b + k by omega, r25] at e9
    rcases h with ⟨c, hz⟩ | ⟨c, z11, e11, h⟩
    · exact ⟨⟨fun e => absurd e (by omega), fun ⟨i', h1, h2⟩ => absurd h2 (no i' (by omega) h1)⟩, Or.inl hz⟩
    · rw [show (10 * (4 * (b : Int) + (k : Int)) + (i : Int)).toNat = 40 * b + 10 * k + i by omega, rr i (by omega)] at e11
      rcases h with ⟨c2, h⟩ | ⟨c2, hz⟩
      · refine ih (i + 1) (fun i' h1 h2 => ?_) (by rw [show ((i + 1 : Nat) : Int) = (i : Int) + 1 by omega]; exact h)
        by_cases e : i' = i
        · subst e
          rw [← e11]
          exact c2
        · exact no i' (by omega) h2
      · exact ⟨⟨fun _ => ⟨i, by omega, by rw [← e11]; exact c2⟩, fun _ => hz⟩, Or.inr hz⟩
theorem M_inRow {b k d : Nat} {A T : St} {z : Int} (hb : A 0 12 = (b : Int)) (hk : (k : Int) < T 1 2) (hK : MKy b A T) (h : q_X12_inRow (k : Int) (d : Int) A z) : (z = 1 ↔ inR T k d) ∧ (z = 0 ∨ z = 1) := by
  obtain ⟨_, _, z4, h4, hz⟩ := (h.1 : tr_r_X12_inRow (k : Int) (d : Int) A z)
  rw [hb] at h4
  obtain ⟨nn, h4⟩ := (h4.1 : tr_r_X12_isInRow (4 * (b : Int) + (k : Int)) (d : Int) A z4)
  rw [hz]
  exact M_isInRowL hk hK nn 0 (fun i' h1 => absurd h1 (Nat.not_lt_zero i')) h4
theorem M_isShutL {b d : Nat} {A T : St} {z : Int} (hb : A 0 12 = (b : Int)) (h11 : A 11 b = T 1 2) (hK : MKy b A T) : ∀ (nn k : Nat), (∀ k' : Nat, k' < k → (k' : Int) < T 1 2 → ¬ inR T k' d) → d_X12_isShut_1 (d : Int) A z nn (k : Int) → (z = 1 ↔ ∃ k' : Nat, (k' : Int) < T 1 2 ∧ inR T k' d) ∧ (z = 0 ∨ z = 1) := by
  intro nn
  induction nn with
  | zero => intro k _ h; exact h.elim
  | succ nn ih =>
    intro k no h
    obtain ⟨_, z14, e14, h⟩ := (h : tr_d_X12_isShut_1 (d : Int) A z (fun z6 => d_X12_isShut_1 (d : Int) A z nn z6) (k : Int))
    rw [hb, Int.toNat_natCast, h11] at e14
    rcases h with ⟨c, hz⟩ | ⟨c, z16, h16, h⟩
    · exact ⟨⟨fun e => absurd e (by omega), fun ⟨k', h1, h2⟩ => absurd h2 (no k' (by omega) h1)⟩, Or.inl hz⟩
    · have hk : (k : Int) < T 1 2 := by omega
      obtain ⟨r1, r2⟩ := M_inRow hb hk hK h16
      rcases h with ⟨c2, h⟩ | ⟨c2, hz⟩
      · refine ih (k + 1) (fun k' h1 h2 g => ?_) (by rw [show ((k + 1 : Nat) : Int) = (k : Int) + 1 by omega]; exact h)
        by_cases e : k' = k
        · subst e
          have := r1.mpr g
          omega
        · exact no k' (by omega) h2 g
      · exact ⟨⟨fun _ => ⟨k, hk, r1.mp (by omega)⟩, fun _ => hz⟩, Or.inr hz⟩
theorem M_isShut {b d : Nat} {A T : St} {z : Int} (hb : A 0 12 = (b : Int)) (h11 : A 11 b = T 1 2) (hK : MKy b A T) (hd : (d : Int) < T 1 1) (hL : MLs b A T) (h : q_X12_isShut (d : Int) A z) : (z = 1 ↔ shT T d) ∧ (z = 0 ∨ z = 1) := by
  obtain ⟨_, _, z4, e4, h⟩ := (h.1 : tr_r_X12_isShut (d : Int) A z)
  rw [hb, show (10 * (b : Int) + (d : Int)).toNat = 10 * b + d by omega] at e4
  have l := hL.2.1 d hd
  rw [← e4] at l
  rcases h with ⟨c, nn, h⟩ | ⟨c, hz⟩
  · obtain ⟨r1, r2⟩ := M_isShutL hb h11 hK nn 0 (fun k' h1 => absurd h1 (Nat.not_lt_zero k')) h
    refine ⟨r1.trans ⟨fun g => Or.inr g, fun g => g.resolve_left ?_⟩, r2⟩
    rw [l.mp c]
    exact Bool.false_ne_true
  · refine ⟨⟨fun _ => Or.inl ?_, fun _ => hz⟩, Or.inr hz⟩
    cases hc : (T 0 15).toNat.testBit d with
    | true => rfl
    | false => exact absurd (l.mpr hc) c
theorem M_isDeadL {b d : Nat} {A T : St} {z : Int} (hb : A 0 12 = (b : Int)) (h11 : A 11 b = T 1 2) (hK : MKy b A T) : ∀ (nn k : Nat), (∀ k' : Nat, k' < k → (k' : Int) < T 1 2 → ¬ (T 24 k' = 40 ∧ inR T k' d)) → d_X12_isDead_1 (d : Int) A z nn (k : Int) → (z = 1 ↔ ∃ k' : Nat, (k' : Int) < T 1 2 ∧ T 24 k' = 40 ∧ inR T k' d) ∧ (z = 0 ∨ z = 1) := by
  intro nn
  induction nn with
  | zero => intro k _ h; exact h.elim
  | succ nn ih =>
    intro k no h
    obtain ⟨_, z14, e14, h⟩ := (h : tr_d_X12_isDead_1 (d : Int) A z (fun z6 => d_X12_isDead_1 (d : Int) A z nn z6) (k : Int))
    rw [hb, Int.toNat_natCast, h11] at e14
    rcases h with ⟨c, hz⟩ | ⟨c, z16, _, z19, e19, h⟩
    · exact ⟨⟨fun e => absurd e (by omega), fun ⟨k', h1, h2⟩ => absurd h2 (no k' (by omega) h1)⟩, Or.inl hz⟩
    · have hk : (k : Int) < T 1 2 := by omega
      rw [hb, show (4 * (b : Int) + (k : Int)).toNat = 4 * b + k by omega, (hK.1 k hk).1] at e19
      have on : ¬ (T 24 k = 40 ∧ inR T k d) → d_X12_isDead_2 (fun z6 => d_X12_isDead_1 (d : Int) A z nn z6) (k : Int) z → (z = 1 ↔ ∃ k' : Nat, (k' : Int) < T 1 2 ∧ T 24 k' = 40 ∧ inR T k' d) ∧ (z = 0 ∨ z = 1) := by
        intro g h
        have h := (h : tr_d_X12_isDead_2 (fun z6 => d_X12_isDead_1 (d : Int) A z nn z6) (k : Int) z)
        refine ih (k + 1) (fun k' h1 h2 g2 => ?_) (by rw [show ((k + 1 : Nat) : Int) = (k : Int) + 1 by omega]; exact h)
        by_cases e : k' = k
        · subst e
          exact g g2
        · exact no k' (by omega) h2 g2
      rcases h with ⟨c2, h⟩ | ⟨c2, z22, h22, h⟩
      · exact on (fun g => c2 (e19.trans g.1)) h
      · obtain ⟨r1, r2⟩ := M_inRow hb hk hK h22
        rcases h with ⟨c3, h⟩ | ⟨c3, hz⟩
        · refine on (fun g => ?_) h
          have := r1.mpr g.2
          omega
        · exact ⟨⟨fun _ => ⟨k, hk, e19.symm.trans c2, r1.mp (by omega)⟩, fun _ => hz⟩, Or.inr hz⟩
theorem M_isDead {b d : Nat} {A T : St} {z : Int} (hb : A 0 12 = (b : Int)) (h11 : A 11 b = T 1 2) (hK : MKy b A T) (hd : (d : Int) < T 1 1) (hL : MLs b A T) (h : q_X12_isDead (d : Int) A z) : (z = 1 ↔ ddT T d) ∧ (z = 0 ∨ z = 1) := by
  obtain ⟨_, _, z4, e4, h⟩ := (h.1 : tr_r_X12_isDead (d : Int) A z)
  rw [hb, show (10 * (b : Int) + (d : Int)).toNat = 10 * b + d by omega] at e4
  have l := hL.2.1 d hd
  rw [← e4] at l
  rcases h with ⟨c, nn, h⟩ | ⟨c, hz⟩
  · obtain ⟨r1, r2⟩ := M_isDeadL hb h11 hK nn 0 (fun k' h1 => absurd h1 (Nat.not_lt_zero k')) h
    refine ⟨r1.trans ⟨fun g => Or.inr g, fun g => g.resolve_left ?_⟩, r2⟩
    rw [l.mp c]
    exact Bool.false_ne_true
  · refine ⟨⟨fun _ => Or.inl ?_, fun _ => hz⟩, Or.inr hz⟩
    cases hc : (T 0 15).toNat.testBit d with
    | true => rfl
    | false => exact absurd (l.mpr hc) c
/-- counting -/
def cd (p : Nat → Bool) : Nat → Int
  | 0 => 0
  | n + 1 => cd p n + (if p n = true then 1 else 0)
def pb : Nat → Nat → Int
  | 0, _ => 0
  | f + 1, n => ((n % 2 : Nat) : Int) + pb f (n / 2)
theorem cd_b {p : Nat → Bool} : ∀ n : Nat, 0 ≤ cd p n ∧ cd p n ≤ (n : Int) := by
  intro n
  induction n with
  | zero => exact ⟨Int.le_refl _, Int.le_refl _⟩
  | succ n ih =>
    have e : cd p (n + 1) = cd p n + (if p n = true then 1 else 0) := rfl
    rw [e]
    split <;> omega
theorem cd_more {p : Nat → Bool} {n : Nat} : ∀ m, (∀ k, n ≤ k → k < n + m → p k = false) → cd p (n + m) = cd p n := by
  intro m
  induction m with
  | zero => intro _; rfl
  | succ m ih =>
    intro h
    show cd p (n + m) + (if p (n + m) = true then 1 else 0) = cd p n
    rw [ih (fun k h1 h2 => h k h1 (by omega)), h (n + m) (by omega) (by omega), if_neg (by decide), Int.add_zero]
theorem bc_cd : ∀ x : Fin 1024, bc (x.val : Int) = cd (fun k => x.val.testBit k) 10 := by decide +kernel
theorem pb_cd : ∀ x : Fin 1024, pb 10 x.val = cd (fun k => x.val.testBit k) 10 := by decide +kernel
theorem and_1 : ∀ x : Fin 1024, oAnd (x.val : Int) 1 = ((x.val % 2 : Nat) : Int) := by decide +kernel
theorem pb_0 : ∀ f, pb f 0 = 0 := by
  intro f
  induction f with
  | zero => rfl
  | succ f ih => show ((0 % 2 : Nat) : Int) + pb f (0 / 2) = 0; rw [show 0 / 2 = 0 from rfl, ih]; rfl
theorem M_bitsL {z : Int} : ∀ (f x nn : Nat) (m : Int), x < 2 ^ f → x < 1024 → 0 ≤ m → m + (f : Int) ≤ 1000 → d_X12_bitsOf_1 z nn (x : Int) m → z = m + pb f x := by
  intro f
  induction f with
  | zero =>
    intro x nn m hx _ _ _ h
    have x0 : x = 0 := by
      have : (2 : Nat) ^ 0 = 1 := rfl
      omega
    cases nn with
    | zero => exact h.elim
    | succ nn =>
      obtain ⟨_, _, h⟩ := (h : tr_d_X12_bitsOf_1 z (fun z1 z2 => d_X12_bitsOf_1 z nn z1 z2) (x : Int) m)
      rcases h with ⟨_, hz⟩ | ⟨c, _⟩
      · rw [hz]
        show m = m + 0
        omega
      · omega
  | succ f ih =>
    intro x nn m hx hx2 hm hf h
    cases nn with
    | zero => exact h.elim
    | succ nn =>
      obtain ⟨_, _, h⟩ := (h : tr_d_X12_bitsOf_1 z (fun z1 z2 => d_X12_bitsOf_1 z nn z1 z2) (x : Int) m)
      rcases h with ⟨c, hz⟩ | ⟨c, z10, e10, z11, e11, z12, e12, h⟩
      · have x0 : x = 0 := by omega
        rw [hz, x0, pb_0]
        omega
      · have a := and_1 ⟨x, hx2⟩
        have a : oAnd (x : Int) 1 = ((x % 2 : Nat) : Int) := a
        rw [e10, a, oWrap_id ⟨by omega, by omega⟩] at e11
        have e12 : z12 = ((x / 2 : Nat) : Int) := by omega
        rw [e12] at h
        have hp : (2 : Nat) ^ (f + 1) = 2 ^ f * 2 := Nat.pow_succ 2 f
        have r := ih (x / 2) nn z11 (by omega) (by omega) (by omega) (by omega) h
        rw [r, e11]
        show m + ((x % 2 : Nat) : Int) + pb f (x / 2) = m + (((x % 2 : Nat) : Int) + pb f (x / 2))
        omega
theorem M_bits {x : Nat} {A : St} {z : Int} (hx : x < 1024) (h : q_X12_bitsOf (x : Int) A z) : z = cd (fun k => x.testBit k) 10 := by
  obtain ⟨nn, h⟩ := (h.1 : tr_r_X12_bitsOf (x : Int) A z)
  have r := M_bitsL 10 x nn 0 (by have : (2 : Nat) ^ 10 = 1024 := by decide
                                  omega) hx (Int.le_refl 0) (by decide) h
  have e : pb 10 x = cd (fun k => x.testBit k) 10 := pb_cd ⟨x, hx⟩
  rw [r, e]
  omega
theorem K_bits {x : Nat} {A : St} {z : Int} (hx : x < 1024) (h : q_J6_bitCount_0f7a4 (x : Int) A z) : z = cd (fun k => x.testBit k) 10 := by
  rw [C_bit h]
  exact bc_cd ⟨x, hx⟩
theorem M_closedAllL {b : Nat} {A T : St} {z : Int} {p : Nat → Bool} (hb : A 0 12 = (b : Int)) (h4 : A 4 b = T 1 1) (h10 : T 1 1 ≤ 10) (h11 : A 11 b = T 1 2) (hK : MKy b A T) (hL : MLs b A T) (hp : ∀ d : Nat, (d : Int) < T 1 1 → (p d = true ↔ shT T d)) : ∀ (nn k : Nat) (m : Int), m = cd p k → (k : Int) ≤ T 1 1 → d_X12_closedAll_1 A z nn (k : Int) m → z = cd p (T 1 1).toNat := by
  intro nn
  induction nn with
  | zero => intro k m _ _ h; exact h.elim
  | succ nn ih =>
    intro k m hm hk h
    obtain ⟨_, _, z11, e11, h⟩ := (h : tr_d_X12_closedAll_1 A z (fun z1 z2 => d_X12_closedAll_1 A z nn z1 z2) (k : Int) m)
    rw [hb, Int.toNat_natCast, h4] at e11
    rcases h with ⟨c, hz⟩ | ⟨c, z13, h13, h⟩
    · rw [hz, hm, show (T 1 1).toNat = k by omega]
    · have hd : (k : Int) < T 1 1 := by omega
      obtain ⟨r1, r2⟩ := M_isShut hb h11 hK hd hL h13
      have cb := cd_b (p := p) k
      have on : ∀ w : Int, (w = if p k = true then 1 else 0) → d_X12_closedAll_2 (fun z1 z2 => d_X12_closedAll_1 A z nn z1 z2) (k : Int) m z w → z = cd p (T 1 1).toNat := by
        intro w hw h
        obtain ⟨_, z22, e22, h⟩ := (h : tr_d_X12_closedAll_2 (fun z1 z2 => d_X12_closedAll_1 A z nn z1 z2) (k : Int) m z w)
        have w01 : 0 ≤ w ∧ w ≤ 1 := by rw [hw]; split <;> omega
        rw [oWrap_id ⟨by omega, by omega⟩] at e22
        refine ih (k + 1) z22 ?_ (by omega) (by rw [show ((k + 1 : Nat) : Int) = (k : Int) + 1 by omega]; exact h)
        rw [e22, hm, hw]
        rfl
      rcases h with ⟨c2, h⟩ | ⟨c2, h⟩
      · refine on 0 ?_ h
        rw [if_neg]
        intro g
        have := r1.mpr ((hp k hd).mp g)
        omega
      · refine on 1 ?_ h
        rw [if_pos]
        exact (hp k hd).mpr (r1.mp (by omega))
/-- who holds which key -/
theorem K_keysOfL {t : Nat} {x : Int} {B : St} {z : Int} (h4 : B (t + 1) 2 ≤ 4) : ∀ (nn k : Nat) (m : Int), (0 ≤ m ∧ m < 1024) → (∀ d : Nat, m.toNat.testBit d = true ↔ (d < k ∧ (d : Int) < B (t + 1) 2 ∧ B (t + 24) d = x)) → d_X9_keysOf_1 t x B z nn (k : Int) m → (0 ≤ z ∧ z < 1024) ∧ ∀ d : Nat, (z.toNat.testBit d = true ↔ ((d : Int) < B (t + 1) 2 ∧ B (t + 24) d = x)) := by
  intro nn
  induction nn with
  | zero => intro k m _ _ h; exact h.elim
  | succ nn ih =>
    intro k m hm hb h
    obtain ⟨_, _, z10, e10, h⟩ := (h : tr_d_X9_keysOf_1 t x B z (fun z1 z2 => d_X9_keysOf_1 t x B z nn z1 z2) (k : Int) m)
    have e10 : z10 = B (t + 1) 2 := e10
    rcases h with ⟨c, hz⟩ | ⟨c, z12, e12, h⟩
    · rw [hz]
      exact ⟨hm, fun d => (hb d).trans ⟨fun g => g.2, fun g => ⟨by have := g.1; omega, g⟩⟩⟩
    · rw [Int.toNat_natCast] at e12
      have e12 : z12 = B (t + 24) k := e12
      rcases h with ⟨c2, h⟩ | ⟨c2, z15, e15, z16, e16, h⟩
      · obtain ⟨_, h⟩ := (h : tr_d_X9_keysOf_2 _ (k : Int) z m)
        refine ih (k + 1) m hm (fun d => (hb d).trans ⟨fun g => ⟨by have := g.1; omega, g.2⟩, fun g => ⟨?_, g.2⟩⟩) (by rw [show ((k + 1 : Nat) : Int) = (k : Int) + 1 by omega]; exact h)
        by_cases e : d = k
        · subst e
          exact absurd (e12.trans g.2.2) c2
        · have := g.1
          omega
      · obtain ⟨_, h⟩ := (h : tr_d_X9_keysOf_2 _ (k : Int) z z16)
        rw [e15] at e16
        obtain ⟨o1, o2, o3⟩ := or_bit (x := m) (d := k) hm (by omega)
        rw [← e16] at o1 o2 o3
        refine ih (k + 1) z16 ⟨o1, o2⟩ (fun d => ?_) (by rw [show ((k + 1 : Nat) : Int) = (k : Int) + 1 by omega]; exact h)
        rw [o3, tb_or, Bool.or_eq_true, hb d, decide_eq_true_eq]
        constructor
        · rintro (g | e)
          · exact ⟨by have := g.1; omega, g.2⟩
          · subst e
            exact ⟨by omega, by omega, e12.symm.trans c2⟩
        · rintro ⟨a1, a2⟩
          by_cases e : d = k
          · exact Or.inr e.symm
          · exact Or.inl ⟨by omega, a2⟩
theorem K_keysOf {t : Nat} {x : Int} {B : St} {z : Int} (h4 : B (t + 1) 2 ≤ 4) (h : q_X9_keysOf t x B z) : (0 ≤ z ∧ z < 1024) ∧ ∀ d : Nat, (z.toNat.testBit d = true ↔ ((d : Int) < B (t + 1) 2 ∧ B (t + 24) d = x)) := by
  obtain ⟨nn, h⟩ := (h.1 : tr_r_X9_keysOf t x B z)
  refine K_keysOfL h4 nn 0 0 ⟨by decide, by decide⟩ (fun d => ⟨fun g => ?_, fun g => absurd g.1 (Nat.not_lt_zero d)⟩) h
  rw [show (0 : Int).toNat = 0 from rfl, Nat.zero_testBit] at g
  exact absurd g Bool.false_ne_true
theorem M_keysOfL {b : Nat} {x : Int} {A T : St} {z : Int} (hb : A 0 12 = (b : Int)) (h11 : A 11 b = T 1 2) (h4 : T 1 2 ≤ 4) (hK : MKy b A T) : ∀ (nn k : Nat) (m : Int), (0 ≤ m ∧ m < 1024) → (∀ d : Nat, m.toNat.testBit d = true ↔ (d < k ∧ (d : Int) < T 1 2 ∧ T 24 d = x)) → d_X12_keysOf_1 x A z nn (k : Int) m → (0 ≤ z ∧ z < 1024) ∧ ∀ d : Nat, (z.toNat.testBit d = true ↔ ((d : Int) < T 1 2 ∧ T 24 d = x)) := by
  intro nn
  induction nn with
  | zero => intro k m _ _ h; exact h.elim
  | succ nn ih =>
    intro k m hm hd h
    obtain ⟨_, _, z11, e11, h⟩ := (h : tr_d_X12_keysOf_1 x A z (fun z1 z2 => d_X12_keysOf_1 x A z nn z1 z2) (k : Int) m)
    rw [hb, Int.toNat_natCast, h11] at e11
    rcases h with ⟨c, hz⟩ | ⟨c, z13, _, z16, e16, h⟩
    · rw [hz]
      exact ⟨hm, fun d => (hd d).trans ⟨fun g => g.2, fun g => ⟨by have := g.1; omega, g⟩⟩⟩
    · have hk : (k : Int) < T 1 2 := by omega
      rw [hb, show (4 * (b : Int) + (k : Int)).toNat = 4 * b + k by omega, (hK.1 k hk).1] at e16
      rcases h with ⟨c2, h⟩ | ⟨c2, z19, e19, h⟩
      · obtain ⟨_, z23, e23, h⟩ := (h : tr_d_X12_keysOf_2 (fun z1 z2 => d_X12_keysOf_1 x A z nn z1 z2) (k : Int) m z 0)
        obtain ⟨o1, o2, o3⟩ := or_10 (x := m) (y := 0) hm ⟨by decide, by decide⟩
        rw [← e23] at o1 o2 o3
        refine ih (k + 1) z23 ⟨o1, o2⟩ (fun d => ?_) (by rw [show ((k + 1 : Nat) : Int) = (k : Int) + 1 by omega]; exact h)
        rw [o3, show (0 : Int).toNat = 0 from rfl, Nat.zero_testBit, Bool.or_false, hd d]
        constructor
        · intro g
          exact ⟨by have := g.1; omega, g.2⟩
        · intro g
          refine ⟨?_, g.2⟩
          by_cases e : d = k
          · subst e
            exact absurd (e16.trans g.2.2) c2
          · have := g.1
            omega
      · obtain ⟨_, z23, e23, h⟩ := (h : tr_d_X12_keysOf_2 (fun z1 z2 => d_X12_keysOf_1 x A z nn z1 z2) (k : Int) m z z19)
        rw [e19] at e23
        obtain ⟨o1, o2, o3⟩ := or_bit (x := m) (d := k) hm (by omega)
        rw [← e23] at o1 o2 o3
        refine ih (k + 1) z23 ⟨o1, o2⟩ (fun d => ?_) (by rw [show ((k + 1 : Nat) : Int) = (k : Int) + 1 by omega]; exact h)
        rw [o3, tb_or, Bool.or_eq_true, hd d, decide_eq_true_eq]
        constructor
        · rintro (g | e)
          · exact ⟨by have := g.1; omega, g.2⟩
          · subst e
            exact ⟨by omega, hk, e16.symm.trans c2⟩
        · rintro ⟨a1, a2⟩
          by_cases e : d = k
          · exact Or.inr e.symm
          · exact Or.inl ⟨by omega, a2⟩
theorem M_keysOf {b : Nat} {x : Int} {A T : St} {z : Int} (hb : A 0 12 = (b : Int)) (h11 : A 11 b = T 1 2) (h4 : T 1 2 ≤ 4) (hK : MKy b A T) (h : q_X12_keysOf x A z) : (0 ≤ z ∧ z < 1024) ∧ ∀ d : Nat, (z.toNat.testBit d = true ↔ ((d : Int) < T 1 2 ∧ T 24 d = x)) := by
  obtain ⟨nn, h⟩ := (h.1 : tr_r_X12_keysOf x A z)
  refine M_keysOfL hb h11 h4 hK nn 0 0 ⟨by decide, by decide⟩ (fun d => ⟨fun g => ?_, fun g => absurd g.1 (Nat.not_lt_zero d)⟩) h
  rw [show (0 : Int).toNat = 0 from rfl, Nat.zero_testBit] at g
  exact absurd g Bool.false_ne_true
theorem same_bits {x y : Int} (hx : 0 ≤ x) (hy : 0 ≤ y) (h : ∀ d : Nat, x.toNat.testBit d = true ↔ y.toNat.testBit d = true) : x = y := by
  have e : x.toNat = y.toNat := by
    refine Nat.eq_of_testBit_eq (fun d => ?_)
    have := h d
    cases hx : x.toNat.testBit d with
    | true => exact (this.mp hx).symm
    | false =>
      cases hy : y.toNat.testBit d with
      | true => rw [this.mpr hy] at hx; exact absurd hx (by decide)
      | false => rfl
  omega
