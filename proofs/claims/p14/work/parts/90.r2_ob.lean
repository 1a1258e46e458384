/-! The reference's other bank is left alone by its reader. -/
def bnkL : List Nat := [1, 1, 1, 8, 1, 10, 10, 10, 10, 10, 10, 1, 4, 4, 4, 40, 1, 3, 3, 1, 4, 4, 1, 6, 6, 1, 6, 6, 6, 1, 6, 6, 6]
def bnk (j : Nat) : Nat := bnkL.getD j 1
def OB (b : Nat) (A u : St) : Prop := ∀ j, j ≠ 0 → j ≤ 32 → ∀ i, ¬ i / bnk j = b → u j i = A j i
theorem OB.rf {b : Nat} {A : St} : OB b A A := fun _ _ _ _ _ => rfl
theorem OB.trans {b : Nat} {A B C : St} (h : OB b A B) (g : OB b B C) : OB b A C := fun j h0 h1 i hi => (g j h0 h1 i hi).trans (h j h0 h1 i hi)
theorem OB.rq {b : Nat} {A u : St} (h : rq u A) : OB b A u := fun j h0 _ i _ => by rw [h j h0]
theorem OB.cl {b : Nat} {A S u : St} {N' : List Nat} (h : OB b A S) (g : fr [] N' S u) : OB b A u := h.trans (OB.rq g.rq)
theorem OB.st {b j i : Nat} {v : Int} {A S : St} (h : OB b A S) (hi : i / bnk j = b) : OB b A (stA S j i v) := by
  intro k h0 h1 m hm
  by_cases e : k = j
  · subst e
    rw [stA_same]
    by_cases e2 : m = i
    · subst e2
      exact absurd hi hm
    · rw [up_ne _ _ e2]
      exact h k h0 h1 m hm
  · rw [stA_ne _ _ e]
    exact h k h0 h1 m hm
theorem OB.s0 {b i : Nat} {v : Int} {A S : St} (h : OB b A S) : OB b A (stA S 0 i v) := by
  intro k h0 h1 m hm
  rw [stA_ne _ _ h0]
  exact h k h0 h1 m hm
theorem OB.r32 {b : Nat} {A S u : St} {M' N' : List Nat} (h : OB b A S) (g : fr M' N' S u) (hM : ∀ j, j ≠ 0 → j ≤ 32 → M'.contains j = false) : OB b A u := by
  intro j h0 h1 i hi
  rw [g.1 j h0 (hM j h0 h1)]
  exact h j h0 h1 i hi
theorem O_place {b : Nat} {A u : St} (hI : IM A) (hb : A 0 47 = (b : Int)) (hq : q_X12_place A u) : OB b A u := by
  have eb : (A 0 47).toNat = b := by rw [hb]; exact Int.toNat_natCast b
  have r2 : (0 : Int) ≤ A 2 b ∧ A 2 b ≤ 8 := hI 2 b
  obtain ⟨z1, hz1, h2⟩ := (hq.1 : tr_r_X12_place A u)
  rw [eb] at hz1
  have d1 : ∀ x, (x = 0 → z1 < 8) → d_X12_place_1 A u x → OB b A u := by
    intro x hx h2
    obtain ⟨_, z8, A9, hc, h2⟩ := (h2 : tr_d_X12_place_1 A u x)
    have q9 := hc.2.2.1.rq
    have g9 : OB b A A9 := OB.rq q9
    have rz := hc.2.2.2.2.1
    have pz := hc.2.2.2.2.2.1
    rcases h2 with ⟨c1, z14, hz14, h2⟩ | ⟨c1, rfl⟩
    · have lt := hx (pz (by clear h2; omega)).1
      rw [eb, q9 2 (by decide), ← hz1] at hz14
      obtain ⟨n, hn, hnL⟩ : ∃ n : Nat, z14 = (n : Int) ∧ n < 8 := ⟨z14.toNat, by clear h2; omega, by clear h2; omega⟩
      have ix : (8 * A 0 47 + z14).toNat = 8 * b + n := by rw [hb, hn]; omega
      obtain ⟨z15, A16, hf, h2⟩ := h2
      have g16 := g9.cl hf.2.2.1
      rw [ix, eb] at h2
      rcases h2 with ⟨_, A21, e, hu⟩ | ⟨_, z22, _, A23, e, hu⟩
      · rw [hu, e]; exact (OB.st g16 (show (8 * b + n) / 8 = b by omega))
      · rw [hu, e]; exact (OB.st (OB.st g16 (show (8 * b + n) / 8 = b by omega)) (show b / 1 = b from Nat.div_one b))
    · exact g9
  rcases h2 with ⟨c, h2⟩ | ⟨c, h2⟩
  · exact d1 0 (fun _ => by clear h2; omega) h2
  · exact d1 1 (fun g => absurd g (by decide)) h2
theorem O_key {b : Nat} {A u : St} (hI : IM A) (hb : A 0 47 = (b : Int)) (hq : q_X12_key A u) : OB b A u := by
  have eb : (A 0 47).toNat = b := by rw [hb]; exact Int.toNat_natCast b
  have r2 : (0 : Int) ≤ A 11 b ∧ A 11 b ≤ 4 := hI 11 b
  obtain ⟨z1, hz1, h2⟩ := (hq.1 : tr_r_X12_key A u)
  rw [eb] at hz1
  have d1 : ∀ x, (x = 0 → z1 < 4) → d_X12_key_1 A u x → OB b A u := by
    intro x hx h2
    obtain ⟨_, z8, A9, hc, h2⟩ := (h2 : tr_d_X12_key_1 A u x)
    have q9 := hc.2.2.1.rq
    have g9 : OB b A A9 := OB.rq q9
    have rz := hc.2.2.2.2.1
    have pz := hc.2.2.2.2.2.1
    rcases h2 with ⟨c1, z14, hz14, h2⟩ | ⟨c1, rfl⟩
    · have lt := hx (pz (by clear h2; omega)).1
      rw [eb, q9 11 (by decide), ← hz1] at hz14
      obtain ⟨n, hn, hnL⟩ : ∃ n : Nat, z14 = (n : Int) ∧ n < 4 := ⟨z14.toNat, by clear h2; omega, by clear h2; omega⟩
      have ix : (4 * A 0 47 + z14).toNat = 4 * b + n := by rw [hb, hn]; omega
      obtain ⟨z15, A16, hf, A20, e20, z21, A22, hw, h2⟩ := h2
      have g16 := g9.cl hf.2.2.1
      rw [ix] at e20
      rw [ix, eb] at h2
      have g20 : OB b A A20 := by rw [e20]; exact (OB.st g16 (show (4 * b + n) / 4 = b by omega))
      have g22 := g20.cl hw.2.2.1
      rcases h2 with ⟨_, A27, e, hu⟩ | ⟨_, z28, _, A29, e, hu⟩
      · rw [hu, e]; exact (OB.st (OB.st g22 (show (4 * b + n) / 4 = b by omega)) (show (4 * b + n) / 4 = b by omega))
      · rw [hu, e]; exact (OB.st (OB.st (OB.st g22 (show (4 * b + n) / 4 = b by omega)) (show (4 * b + n) / 4 = b by omega)) (show b / 1 = b from Nat.div_one b))
    · exact g9
  rcases h2 with ⟨c, h2⟩ | ⟨c, h2⟩
  · exact d1 0 (fun _ => by clear h2; omega) h2
  · exact d1 1 (fun g => absurd g (by decide)) h2
theorem O_thing {b : Nat} {A u : St} (hI : IM A) (hb : A 0 47 = (b : Int)) (hq : q_X12_thing A u) : OB b A u := by
  have eb : (A 0 47).toNat = b := by rw [hb]; exact Int.toNat_natCast b
  have r2 : (0 : Int) ≤ A 19 b ∧ A 19 b ≤ 4 := hI 19 b
  obtain ⟨z1, hz1, h2⟩ := (hq.1 : tr_r_X12_thing A u)
  rw [eb] at hz1
  have d1 : ∀ x, (x = 0 → z1 < 4) → d_X12_thing_1 A u x → OB b A u := by
    intro x hx h2
    obtain ⟨_, z8, A9, hc, h2⟩ := (h2 : tr_d_X12_thing_1 A u x)
    have q9 := hc.2.2.1.rq
    have g9 : OB b A A9 := OB.rq q9
    have rz := hc.2.2.2.2.1
    have pz := hc.2.2.2.2.2.1
    rcases h2 with ⟨c1, z14, hz14, h2⟩ | ⟨c1, rfl⟩
    · have lt := hx (pz (by clear h2; omega)).1
      rw [eb, q9 19 (by decide), ← hz1] at hz14
      obtain ⟨n, hn, hnL⟩ : ∃ n : Nat, z14 = (n : Int) ∧ n < 4 := ⟨z14.toNat, by clear h2; omega, by clear h2; omega⟩
      have ix : (4 * A 0 47 + z14).toNat = 4 * b + n := by rw [hb, hn]; omega
      obtain ⟨z15, A16, hf, A20, e20, z21, A22, hw, h2⟩ := h2
      have g16 := g9.cl hf.2.2.1
      rw [ix] at e20
      rw [ix, eb] at h2
      have g20 : OB b A A20 := by rw [e20]; exact (OB.st g16 (show (4 * b + n) / 4 = b by omega))
      have g22 := g20.cl hw.2.2.1
      rcases h2 with ⟨_, A27, e, hu⟩ | ⟨_, z28, _, A29, e, hu⟩
      · rw [hu, e]; exact (OB.st g22 (show (4 * b + n) / 4 = b by omega))
      · rw [hu, e]; exact (OB.st (OB.st g22 (show (4 * b + n) / 4 = b by omega)) (show b / 1 = b from Nat.div_one b))
    · exact g9
  rcases h2 with ⟨c, h2⟩ | ⟨c, h2⟩
  · exact d1 0 (fun _ => by clear h2; omega) h2
  · exact d1 1 (fun g => absurd g (by decide)) h2
theorem O_person {b : Nat} {A u : St} (hI : IM A) (hb : A 0 47 = (b : Int)) (hq : q_X12_person A u) : OB b A u := by
  have eb : (A 0 47).toNat = b := by rw [hb]; exact Int.toNat_natCast b
  have r2 : (0 : Int) ≤ A 16 b ∧ A 16 b ≤ 3 := hI 16 b
  obtain ⟨z1, hz1, h2⟩ := (hq.1 : tr_r_X12_person A u)
  rw [eb] at hz1
  have d1 : ∀ x, (x = 0 → z1 < 3) → d_X12_person_1 A u x → OB b A u := by
    intro x hx h2
    obtain ⟨_, z8, A9, hc, h2⟩ := (h2 : tr_d_X12_person_1 A u x)
    have q9 := hc.2.2.1.rq
    have g9 : OB b A A9 := OB.rq q9
    have rz := hc.2.2.2.2.1
    have pz := hc.2.2.2.2.2.1
    rcases h2 with ⟨c1, z14, hz14, h2⟩ | ⟨c1, rfl⟩
    · have lt := hx (pz (by clear h2; omega)).1
      rw [eb, q9 16 (by decide), ← hz1] at hz14
      obtain ⟨n, hn, hnL⟩ : ∃ n : Nat, z14 = (n : Int) ∧ n < 3 := ⟨z14.toNat, by clear h2; omega, by clear h2; omega⟩
      have ix : (3 * A 0 47 + z14).toNat = 3 * b + n := by rw [hb, hn]; omega
      obtain ⟨z15, A16, hf, A20, e20, A21, hw, z25, A26, hk, h2⟩ := h2
      have g16 := g9.cl hf.2.2.1
      rw [ix] at e20
      rw [ix, eb] at h2
      have g20 : OB b A A20 := by rw [e20]; exact (OB.st g16 (show (3 * b + n) / 3 = b by omega))
      have g26 := (g20.cl hw.2.2.1).cl hk.2.2.1
      rcases h2 with ⟨_, A27, e, hu⟩ | ⟨_, z28, _, A29, e, hu⟩
      · rw [hu, e]; exact (OB.st g26 (show (3 * b + n) / 3 = b by omega))
      · rw [hu, e]; exact (OB.st (OB.st g26 (show (3 * b + n) / 3 = b by omega)) (show b / 1 = b from Nat.div_one b))
    · exact g9
  rcases h2 with ⟨c, h2⟩ | ⟨c, h2⟩
  · exact d1 0 (fun _ => by clear h2; omega) h2
  · exact d1 1 (fun g => absurd g (by decide)) h2
theorem O_must {b : Nat} {A u : St} (hI : IM A) (hb : A 0 47 = (b : Int)) (hq : q_X12_mustBe A u) : OB b A u := by
  have eb : (A 0 47).toNat = b := by rw [hb]; exact Int.toNat_natCast b
  have r2 : (0 : Int) ≤ A 25 b ∧ A 25 b ≤ 6 := hI 25 b
  obtain ⟨z1, hz1, h2⟩ := (hq.1 : tr_r_X12_mustBe A u)
  rw [eb] at hz1
  have d1 : ∀ x, (x = 0 → z1 < 6) → d_X12_mustBe_1 A u x → OB b A u := by
    intro x hx h2
    obtain ⟨_, z8, A9, hc, h2⟩ := (h2 : tr_d_X12_mustBe_1 A u x)
    have q9 := hc.2.2.1.rq
    have g9 : OB b A A9 := OB.rq q9
    have rz := hc.2.2.2.2.1
    have pz := hc.2.2.2.2.2.1
    rcases h2 with ⟨c1, z14, hz14, h2⟩ | ⟨c1, rfl⟩
    · have lt := hx (pz (by clear h2; omega)).1
      rw [eb, q9 25 (by decide), ← hz1] at hz14
      obtain ⟨n, hn, hnL⟩ : ∃ n : Nat, z14 = (n : Int) ∧ n < 6 := ⟨z14.toNat, by clear h2; omega, by clear h2; omega⟩
      have ix : (6 * A 0 47 + z14).toNat = 6 * b + n := by rw [hb, hn]; omega
      obtain ⟨z15, A16, hf, A20, e20, z21, A22, hw, z26, _, A27, e27, z28, A29, hk, h2⟩ := h2
      have g16 := g9.cl hf.2.2.1
      rw [ix] at e20 e27
      rw [ix, eb] at h2
      have g20 : OB b A A20 := by rw [e20]; exact (OB.st g16 (show (6 * b + n) / 6 = b by omega))
      have g22 := g20.cl hw.2.2.1
      have g27 : OB b A A27 := by rw [e27]; exact (OB.st g22 (show (6 * b + n) / 6 = b by omega))
      have g29 := g27.cl hk.2.2.1
      rcases h2 with ⟨_, A34, e, hu⟩ | ⟨_, z35, _, A36, e, hu⟩
      · rw [hu, e]; exact (OB.st g29 (show (6 * b + n) / 6 = b by omega))
      · rw [hu, e]; exact (OB.st (OB.st g29 (show (6 * b + n) / 6 = b by omega)) (show b / 1 = b from Nat.div_one b))
    · exact g9
  rcases h2 with ⟨c, h2⟩ | ⟨c, h2⟩
  · exact d1 0 (fun _ => by clear h2; omega) h2
  · exact d1 1 (fun g => absurd g (by decide)) h2
theorem O_door {b : Nat} {A u : St} (hI : IM A) (hb : A 0 47 = (b : Int)) (hq : q_X12_door 0 A u) : OB b A u := by
  have eb : (A 0 47).toNat = b := by rw [hb]; exact Int.toNat_natCast b
  have r2 : (0 : Int) ≤ A 4 b ∧ A 4 b ≤ 10 := hI 4 b
  obtain ⟨z1, hz1, h2⟩ : ∃ z1 : Int, z1 = A 4 ((A 0 47)).toNat ∧ (((¬ z1 = 10) ∧ (d_X12_door_1 A u 0)) ∨ ((z1 = 10) ∧ (d_X12_door_1 A u 1))) := by
    rcases (hq.1 : tr_r_X12_door 0 A u) with ⟨_, h2⟩ | ⟨c, _⟩
    · exact h2
    · exact absurd c (by decide)
  rw [eb] at hz1
  have d1 : ∀ x, (x = 0 → z1 < 10) → d_X12_door_1 A u x → OB b A u := by
    intro x hx h2
    obtain ⟨_, z8, A9, hc, h2⟩ := (h2 : tr_d_X12_door_1 A u x)
    have q9 := hc.2.2.1.rq
    have g9 : OB b A A9 := OB.rq q9
    have rz := hc.2.2.2.2.1
    have pz := hc.2.2.2.2.2.1
    rcases h2 with ⟨c1, z14, hz14, h2⟩ | ⟨c1, rfl⟩
    · have lt := hx (pz (by clear h2; omega)).1
      rw [eb, q9 4 (by decide), ← hz1] at hz14
      obtain ⟨n, hn, hnL⟩ : ∃ n : Nat, z14 = (n : Int) ∧ n < 10 := ⟨z14.toNat, by clear h2; omega, by clear h2; omega⟩
      have ix : (10 * A 0 47 + z14).toNat = 10 * b + n := by rw [hb, hn]; omega
      obtain ⟨z15, A16, hf, A20, e20, z22, A23, hk1, A27, e27, z29, _, A30, hbr, z34, A35, hk2, A39, e39, z41, A42, hk3, h2⟩ := h2
      have g16 := g9.cl hf.2.2.1
      rw [ix] at e20 e27 e39
      rw [ix, eb] at h2
      have g20 : OB b A A20 := by rw [e20]; exact (OB.st g16 (show (10 * b + n) / 10 = b by omega))
      have g23 := g20.cl hk1.2.2.1
      have g27 : OB b A A27 := by rw [e27]; exact (OB.st g23 (show (10 * b + n) / 10 = b by omega))
      have g35 := (g27.cl hbr.2.2.1).cl hk2.2.2.1
      have g39 : OB b A A39 := by rw [e39]; exact (OB.st (OB.st g35 (show (10 * b + n) / 10 = b by omega)) (show (10 * b + n) / 10 = b by omega))
      have g42 := g39.cl hk3.2.2.1
      rcases h2 with ⟨_, A47, e, hu⟩ | ⟨_, z48, _, A49, e, hu⟩
      · rw [hu, e]; exact (OB.st (OB.st g42 (show (10 * b + n) / 10 = b by omega)) (show (10 * b + n) / 10 = b by omega))
      · rw [hu, e]; exact (OB.st (OB.st (OB.st g42 (show (10 * b + n) / 10 = b by omega)) (show (10 * b + n) / 10 = b by omega)) (show b / 1 = b from Nat.div_one b))
    · exact g9
  rcases h2 with ⟨c, h2⟩ | ⟨c, h2⟩
  · exact d1 0 (fun _ => by clear h2; omega) h2
  · exact d1 1 (fun g => absurd g (by decide)) h2
theorem O_box {b : Nat} {A u : St} (hI : IM A) (hb : A 0 47 = (b : Int)) (hq : q_X12_door 1 A u) : OB b A u := by
  have eb : (A 0 47).toNat = b := by rw [hb]; exact Int.toNat_natCast b
  have r2 : (0 : Int) ≤ A 4 b ∧ A 4 b ≤ 10 := hI 4 b
  obtain ⟨z1, hz1, h2⟩ : ∃ z1 : Int, z1 = A 4 ((A 0 47)).toNat ∧ (((¬ z1 = 10) ∧ (d_X12_door_2 A u 0)) ∨ ((z1 = 10) ∧ (d_X12_door_2 A u 1))) := by
    rcases (hq.1 : tr_r_X12_door 1 A u) with ⟨c, _⟩ | ⟨_, h2⟩
    · exact absurd c (by decide)
    · exact h2
  rw [eb] at hz1
  have d1 : ∀ x, (x = 0 → z1 < 10) → d_X12_door_2 A u x → OB b A u := by
    intro x hx h2
    obtain ⟨_, z8, A9, hc, h2⟩ := (h2 : tr_d_X12_door_2 A u x)
    have q9 := hc.2.2.1.rq
    have g9 : OB b A A9 := OB.rq q9
    have rz := hc.2.2.2.2.1
    have pz := hc.2.2.2.2.2.1
    rcases h2 with ⟨c1, z14, hz14, h2⟩ | ⟨c1, rfl⟩
    · have lt := hx (pz (by clear h2; omega)).1
      rw [eb, q9 4 (by decide), ← hz1] at hz14
      obtain ⟨n, hn, hnL⟩ : ∃ n : Nat, z14 = (n : Int) ∧ n < 10 := ⟨z14.toNat, by clear h2; omega, by clear h2; omega⟩
      have ix : (10 * A 0 47 + z14).toNat = 10 * b + n := by rw [hb, hn]; omega
      obtain ⟨z15, A16, hf, A20, e20, A21, hw2, z25, A26, hk2, A80, e80, z83, _, A84, e84, h2⟩ := h2
      have g16 := g9.cl hf.2.2.1
      rw [ix] at e20 e80 e84
      rw [ix, eb] at h2
      have g20 : OB b A A20 := by rw [e20]; exact (OB.st g16 (show (10 * b + n) / 10 = b by omega))
      have g26 := (g20.cl hw2.2.2.1).cl hk2.2.2.1
      have g80 : OB b A A80 := by rw [e80]; exact (OB.st g26 (show (10 * b + n) / 10 = b by omega))
      have g84 : OB b A A84 := by rw [e84]; exact (OB.st (OB.st g80 (show (10 * b + n) / 10 = b by omega)) (show (10 * b + n) / 10 = b by omega))
      rcases h2 with ⟨_, A87, e, hu⟩ | ⟨_, z88, _, A89, e, hu⟩
      · rw [hu, e]; exact (OB.st (OB.st g84 (show (10 * b + n) / 10 = b by omega)) (show (10 * b + n) / 10 = b by omega))
      · rw [hu, e]; exact (OB.st (OB.st (OB.st g84 (show (10 * b + n) / 10 = b by omega)) (show (10 * b + n) / 10 = b by omega)) (show b / 1 = b from Nat.div_one b))
    · exact g9
  rcases h2 with ⟨c, h2⟩ | ⟨c, h2⟩
  · exact d1 0 (fun _ => by clear h2; omega) h2
  · exact d1 1 (fun g => absurd g (by decide)) h2
theorem O_wants {b : Nat} {A u : St} (hI : IM A) (hb : A 0 47 = (b : Int)) (hq : q_X12_wanting A u) : OB b A u := by
  have eb : (A 0 47).toNat = b := by rw [hb]; exact Int.toNat_natCast b
  have r2 : (0 : Int) ≤ A 22 b ∧ A 22 b ≤ 6 := hI 22 b
  obtain ⟨z1, hz1, h2⟩ := (hq.1 : tr_r_X12_wanting A u)
  rw [eb] at hz1
  have d1 : ∀ x, (x = 0 → z1 < 6) → d_X12_wanting_1 A u x → OB b A u := by
    intro x hx h2
    obtain ⟨_, z8, A9, hc, h2⟩ := (h2 : tr_d_X12_wanting_1 A u x)
    have q9 := hc.2.2.1.rq
    have g9 : OB b A A9 := OB.rq q9
    have rz := hc.2.2.2.2.1
    have pz := hc.2.2.2.2.2.1
    rcases h2 with ⟨c1, z14, hz14, h2⟩ | ⟨c1, rfl⟩
    · have lt := hx (pz (by clear h2; omega)).1
      rw [eb, q9 22 (by decide), ← hz1] at hz14
      obtain ⟨n, hn, hnL⟩ : ∃ n : Nat, z14 = (n : Int) ∧ n < 6 := ⟨z14.toNat, by clear h2; omega, by clear h2; omega⟩
      have ix : (6 * A 0 47 + z14).toNat = 6 * b + n := by rw [hb, hn]; omega
      have f7 : ∀ A64 : St, OB b A A64 → d_X12_wanting_7 z14 A A64 u → OB b A u := by
        intro A64 g h3
        obtain ⟨z90, A91, hk, A95, e95, h3⟩ := (h3 : tr_d_X12_wanting_7 z14 A A64 u)
        have g91 := g.cl hk.2.2.1
        rw [ix] at e95
        rw [eb] at h3
        have g95 : OB b A A95 := by rw [e95]; exact (OB.st g91 (show (6 * b + n) / 6 = b by omega))
        rcases h3 with ⟨_, hu⟩ | ⟨_, z97, _, A101, e, hu⟩
        · rw [hu]; exact g95
        · rw [hu, e]; exact (OB.st g95 (show b / 1 = b from Nat.div_one b))
      have f5 : ∀ (nn : Nat) (i : Int) (A64 : St), OB b A A64 → d_X12_wanting_5 z14 A u nn i A64 → OB b A u := by
        intro nn
        induction nn with
        | zero => intro i A64 _ h3; exact h3.elim
        | succ nn ih =>
          intro i A64 g h3
          obtain ⟨_, _, h3⟩ := (h3 : tr_d_X12_wanting_5 z14 A u (fun z62 A64 => d_X12_wanting_5 z14 A u nn z62 A64) i A64)
          rcases h3 with ⟨_, h3⟩ | ⟨_, h3⟩
          · exact f7 A64 g h3
          · rcases h3 with ⟨_, h3⟩ | ⟨_, z77, _, z78, _, h3⟩
            · exact f7 A64 g h3
            · rcases h3 with ⟨_, h3⟩ | ⟨_, z81, _, A82, hbr, h3⟩
              · obtain ⟨_, h3⟩ := (h3 : tr_d_X12_wanting_6 (fun z62 A64 => d_X12_wanting_5 z14 A u nn z62 A64) i u A64)
                exact ih _ _ g h3
              · obtain ⟨_, h3⟩ := (h3 : tr_d_X12_wanting_6 (fun z62 A64 => d_X12_wanting_5 z14 A u nn z62 A64) i u A82)
                exact ih _ _ (g.cl hbr.2.2.1) h3
      have f4 : ∀ A52 : St, OB b A A52 → d_X12_wanting_4 z14 A u A52 → OB b A u := by
        intro A52 g h3
        obtain ⟨_, z55, A56, hk, A60, e60, nn, h3⟩ := (h3 : tr_d_X12_wanting_4 z14 A u A52)
        have g56 := g.cl hk.2.2.1
        rw [ix] at e60
        refine f5 nn _ A60 ?_ h3
        rw [e60]; exact (OB.st g56 (show (6 * b + n) / 6 = b by omega))
      have f3 : ∀ (nn : Nat) (v i zc : Int), d_X12_wanting_3 z14 v A A9 u nn i zc → OB b A u := by
        intro nn
        induction nn with
        | zero => intro v i zc h3; exact h3.elim
        | succ nn ih =>
          intro v i zc h3
          obtain ⟨_, _, h3⟩ := (h3 : tr_d_X12_wanting_3 z14 v A A9 u (fun z30 z31 => d_X12_wanting_3 z14 v A A9 u nn z30 z31) i zc)
          rcases h3 with ⟨_, h3⟩ | ⟨_, z103, _, h3⟩
          · rcases h3 with ⟨_, h3⟩ | ⟨_, h3⟩
            · exact f4 A9 g9 h3
            · rcases h3 with ⟨_, h3⟩ | ⟨_, A48, hbl, h3⟩
              · exact f4 A9 g9 h3
              · exact f4 A48 (g9.cl hbl.2.2.1) h3
          · rcases h3 with ⟨_, h3⟩ | ⟨_, h3⟩
            · obtain ⟨_, h3⟩ := (h3 : tr_d_X12_wanting_8 (fun z30 z31 => d_X12_wanting_3 z14 v A A9 u nn z30 z31) i zc u 0)
              exact ih _ _ _ h3
            · obtain ⟨_, h3⟩ := (h3 : tr_d_X12_wanting_8 (fun z30 z31 => d_X12_wanting_3 z14 v A A9 u nn z30 z31) i zc u 1)
              exact ih _ _ _ h3
      have f2 : ∀ v : Int, d_X12_wanting_2 z14 A A9 u v → OB b A u := by
        intro v h3
        obtain ⟨_, nn, h3⟩ := (h3 : tr_d_X12_wanting_2 z14 A A9 u v)
        exact f3 nn v _ _ h3
      rcases h2 with ⟨_, h2⟩ | ⟨_, h2⟩
      · exact f2 _ h2
      · rcases h2 with ⟨_, h2⟩ | ⟨_, z19, _, h2⟩
        · exact f2 _ h2
        · rcases h2 with ⟨_, h2⟩ | ⟨_, z23, _, h2⟩
          · exact f2 _ h2
          · exact f2 _ h2
    · exact g9
  rcases h2 with ⟨c, h2⟩ | ⟨c, h2⟩
  · exact d1 0 (fun _ => by clear h2; omega) h2
  · exact d1 1 (fun g => absurd g (by decide)) h2
theorem O_bar {b : Nat} {A u : St} (hI : IM A) (hb : A 0 47 = (b : Int)) (hq : q_X12_barring A u) : OB b A u := by
  have eb : (A 0 47).toNat = b := by rw [hb]; exact Int.toNat_natCast b
  have r2 : (0 : Int) ≤ A 29 b ∧ A 29 b ≤ 6 := hI 29 b
  obtain ⟨z1, hz1, h2⟩ := (hq.1 : tr_r_X12_barring A u)
  rw [eb] at hz1
  have d1 : ∀ x, (x = 0 → z1 < 6) → d_X12_barring_1 A u x → OB b A u := by
    intro x hx h2
    obtain ⟨_, z8, A9, hc, h2⟩ := (h2 : tr_d_X12_barring_1 A u x)
    have q9 := hc.2.2.1.rq
    have g9 : OB b A A9 := OB.rq q9
    have rz := hc.2.2.2.2.1
    have pz := hc.2.2.2.2.2.1
    rcases h2 with ⟨c1, z14, hz14, h2⟩ | ⟨c1, rfl⟩
    · have lt := hx (pz (by clear h2; omega)).1
      rw [eb, q9 29 (by decide), ← hz1] at hz14
      obtain ⟨n, hn, hnL⟩ : ∃ n : Nat, z14 = (n : Int) ∧ n < 6 := ⟨z14.toNat, by clear h2; omega, by clear h2; omega⟩
      have ix : (6 * A 0 47 + z14).toNat = 6 * b + n := by rw [hb, hn]; omega
      have f5 : ∀ A76 : St, OB b A A76 → d_X12_barring_5 z14 A u A76 → OB b A u := by
        intro A76 g h3
        obtain ⟨_, A80, e, h3⟩ := (h3 : tr_d_X12_barring_5 z14 A u A76)
        rw [ix] at e
        rw [eb] at h3
        have g80 : OB b A A80 := by rw [e]; exact (OB.st g (show (6 * b + n) / 6 = b by omega))
        rcases h3 with ⟨_, hu⟩ | ⟨_, z97, _, A98, e98, hu⟩
        · rw [hu]; exact g80
        · rw [hu, e98]; exact (OB.st g80 (show b / 1 = b from Nat.div_one b))
      have f4 : ∀ A39 : St, OB b A A39 → d_X12_barring_4 z14 A u A39 → OB b A u := by
        intro A39 g h3
        obtain ⟨_, z41, A42, hk, A46, e46, A47, hwd, A51, e51, h3⟩ := (h3 : tr_d_X12_barring_4 z14 A u A39)
        rw [ix] at e46 e51
        have g42 := g.cl hk.2.2.1
        have g46 : OB b A A46 := by rw [e46]; exact (OB.st g42 (show (6 * b + n) / 6 = b by omega))
        have g47 := g46.cl hwd.2.2.1
        have g51 : OB b A A51 := by rw [e51]; exact (OB.st g47 (show (6 * b + n) / 6 = b by omega))
        rcases h3 with ⟨_, h3⟩ | ⟨_, A71, hre, h3⟩
        · exact f5 A51 g51 h3
        · refine f5 A71 (g51.r32 hre.2.2.1 (fun j h0 h1 => ?_)) h3
          have : ∀ k : Fin 33, ([33, 34, 35, 36, 37, 38, 39, 40] : List Nat).contains k.val = false := by decide
          exact this ⟨j, by omega⟩
      have f3 : ∀ v : Int, d_X12_barring_3 z14 A A9 u v → OB b A u := by
        intro v h3
        obtain ⟨_, h3⟩ := (h3 : tr_d_X12_barring_3 z14 A A9 u v)
        rcases h3 with ⟨_, h3⟩ | ⟨_, z33, _, h3⟩
        · exact f4 A9 g9 h3
        · rcases h3 with ⟨_, h3⟩ | ⟨_, A35, hbl, h3⟩
          · exact f4 A9 g9 h3
          · exact f4 A35 (g9.cl hbl.2.2.1) h3
      rcases h2 with ⟨_, h2⟩ | ⟨_, h2⟩
      · exact f3 (-1) h2
      · rcases h2 with ⟨_, h2⟩ | ⟨_, z20, _, h2⟩
        · exact f3 (-1) h2
        · rcases h2 with ⟨_, h2⟩ | ⟨_, z24, _, h2⟩
          · exact f3 (-1) h2
          · exact f3 _ h2
    · exact g9
  rcases h2 with ⟨c, h2⟩ | ⟨c, h2⟩
  · exact d1 0 (fun _ => by clear h2; omega) h2
  · exact d1 1 (fun g => absurd g (by decide)) h2
theorem O_has {b : Nat} {A u : St} (hb : A 0 47 = (b : Int)) (hq : q_X12_having A u) : OB b A u := by
  obtain ⟨z1, A2, hc, h2⟩ := (hq.1 : tr_r_X12_having A u)
  have g2 : OB b A A2 := OB.rq hc.2.2.1.rq
  rcases h2 with ⟨_, z7, A8, hk, h2⟩ | ⟨_, rfl⟩
  · have g8 := g2.cl hk.2.2.1
    have f3 : ∀ A35 : St, OB b A A35 → d_X12_having_3 z7 A u A35 → OB b A u := by
      intro A35 g h3
      obtain ⟨_, z37, A38, hk2, h3⟩ := (h3 : tr_d_X12_having_3 z7 A u A35)
      have g38 := g.cl hk2.2.2.1
      have p1 := hk2.2.2.2.2.1
      have p2 := hk2.2.2.2.2.2.1
      rcases h3 with ⟨_, hu⟩ | ⟨_, A43, e, hu⟩
      · rw [hu]; exact g38
      · rw [hu, e]
        exact OB.st g38 (show (4 * A 0 47 + z37).toNat / 4 = b by rw [hb]; omega)
    have f2 : ∀ v : Int, d_X12_having_2 z7 A A8 u v → OB b A u := by
      intro v h3
      obtain ⟨_, h3⟩ := (h3 : tr_d_X12_having_2 z7 A A8 u v)
      rcases h3 with ⟨_, h3⟩ | ⟨_, z29, _, h3⟩
      · exact f3 A8 g8 h3
      · rcases h3 with ⟨_, h3⟩ | ⟨_, A31, hbl, h3⟩
        · exact f3 A8 g8 h3
        · exact f3 A31 (g8.cl hbl.2.2.1) h3
    rcases h2 with ⟨_, h2⟩ | ⟨_, h2⟩
    · exact f2 (-1) h2
    · rcases h2 with ⟨_, h2⟩ | ⟨_, z16, _, h2⟩
      · exact f2 (-1) h2
      · rcases h2 with ⟨_, h2⟩ | ⟨_, z20, _, h2⟩
        · exact f2 (-1) h2
        · exact f2 _ h2
  · exact g2
theorem O_lost {b : Nat} {A u : St} (hb : A 0 47 = (b : Int)) (hq : q_X12_losing A u) : OB b A u := by
  obtain ⟨z1, A2, hc, h2⟩ := (hq.1 : tr_r_X12_losing A u)
  have g2 : OB b A A2 := OB.rq hc.2.2.1.rq
  rcases h2 with ⟨_, h2⟩ | ⟨_, rfl⟩
  · have f3 : ∀ A35 : St, OB b A A35 → d_X12_losing_3 A u A35 → OB b A u := by
      intro A35 g h3
      obtain ⟨_, z37, A38, hk2, h3⟩ := (h3 : tr_d_X12_losing_3 A u A35)
      have g38 := g.cl hk2.2.2.1
      have p1 := hk2.2.2.2.2.1
      have p2 := hk2.2.2.2.2.2.1
      rcases h3 with ⟨_, hu⟩ | ⟨_, A43, e, hu⟩
      · rw [hu]; exact g38
      · rw [hu, e]
        exact OB.st g38 (show (10 * A 0 47 + z37).toNat / 10 = b by rw [hb]; omega)
    have f2 : ∀ v : Int, d_X12_losing_2 A A2 u v → OB b A u := by
      intro v h3
      obtain ⟨_, h3⟩ := (h3 : tr_d_X12_losing_2 A A2 u v)
      rcases h3 with ⟨_, h3⟩ | ⟨_, z29, _, h3⟩
      · exact f3 A2 g2 h3
      · rcases h3 with ⟨_, h3⟩ | ⟨_, A31, hbl, h3⟩
        · exact f3 A2 g2 h3
        · exact f3 A31 (g2.cl hbl.2.2.1) h3
    rcases h2 with ⟨_, h2⟩ | ⟨_, h2⟩
    · exact f2 (-1) h2
    · rcases h2 with ⟨_, h2⟩ | ⟨_, z16, _, h2⟩
      · exact f2 (-1) h2
      · rcases h2 with ⟨_, h2⟩ | ⟨_, z20, _, h2⟩
        · exact f2 (-1) h2
        · exact f2 _ h2
  · exact g2
theorem shL_ob {b : Nat} {z7 : Int} {A u B : St} (hb : A 0 47 = (b : Int)) (g : OB b A B) (h : shL z7 A u B) : OB b A u := by
  obtain ⟨z18, A19, hk, h⟩ := h
  have g19 := g.cl hk.2.2.1
  have p1 := hk.2.2.2.2.1
  have p2 := hk.2.2.2.2.2.1
  rcases h with ⟨_, z24, hz24, z25, _, A26, e, hu⟩ | ⟨_, hu⟩
  · have r : (0 : Int) ≤ A19 14 (4 * A 0 47 + z18).toNat ∧ A19 14 (4 * A 0 47 + z18).toNat ≤ 6 := hk.2.1 14 _
    rw [← hz24] at r
    rw [hu, e]
    exact OB.st (OB.st g19 (show (40 * A 0 47 + 10 * z18 + z24).toNat / 40 = b by rw [hb]; omega)) (show (4 * A 0 47 + z18).toNat / 4 = b by rw [hb]; omega)
  · rw [hu]; exact g19
theorem O_shut {b : Nat} {A u : St} (hb : A 0 47 = (b : Int)) (hq : q_X12_shutting A u) : OB b A u := by
  obtain ⟨z1, A2, hc, h2⟩ := (hq.1 : tr_r_X12_shutting A u)
  have g2 : OB b A A2 := OB.rq hc.2.2.1.rq
  rcases h2 with ⟨_, z7, A8, hk, A12, hwd, h2⟩ | ⟨_, rfl⟩
  · have g12 := (g2.cl hk.2.2.1).cl hwd.2.2.1
    rcases h2 with ⟨_, h2⟩ | ⟨_, h2⟩
    · exact shL_ob hb g12 h2
    · rcases h2 with ⟨_, h2⟩ | ⟨_, z38, _, h2⟩
      · exact shL_ob hb g12 h2
      · rcases h2 with ⟨_, h2⟩ | ⟨_, z52, _, h2⟩
        · exact shL_ob hb g12 h2
        · rcases h2 with ⟨_, h2⟩ | ⟨_, z65, _, h2⟩
          · exact shL_ob hb g12 h2
          · rcases h2 with ⟨_, A69, hbl, h2⟩ | ⟨_, z81, _, h2⟩
            · exact shL_ob hb (g12.cl hbl.2.2.1) h2
            · rcases h2 with ⟨_, h2⟩ | ⟨_, A92, hbl, h2⟩
              · exact shL_ob hb g12 h2
              · exact shL_ob hb (g12.cl hbl.2.2.1) h2
  · exact g2
theorem O_others {b : Nat} {A u : St} (hI : IM A) (hb : A 0 47 = (b : Int)) (hq : q_X12_others A u) : OB b A u := by
  obtain ⟨z1, _, h2⟩ := (hq.1 : tr_r_X12_others A u)
  rcases h2 with ⟨_, z5, _, h2⟩ | ⟨_, B, hs, hu⟩
  · rcases h2 with ⟨_, z9, _, h2⟩ | ⟨_, B, hs, hu⟩
    · rcases h2 with ⟨_, z13, _, h2⟩ | ⟨_, B, hs, hu⟩
      · rcases h2 with ⟨_, z17, _, h2⟩ | ⟨_, B, hs, hu⟩
        · rcases h2 with ⟨_, z21, _, h2⟩ | ⟨_, B, hs, hu⟩
          · rcases h2 with ⟨_, B, hs, hu⟩ | ⟨_, B, hs, hu⟩
            · rw [hu]; exact OB.rf.cl hs.2.2.1
            · rw [hu]; exact O_bar hI hb hs
          · rw [hu]; exact O_must hI hb hs
        · rw [hu]; exact O_wants hI hb hs
      · rw [hu]; exact O_thing hI hb hs
    · rw [hu]; exact O_lost hb hs
  · rw [hu]; exact O_shut hb hs
theorem O_statement {b : Nat} {A u : St} (hI : IM A) (hb : A 0 47 = (b : Int)) (hq : q_X12_statement A u) : OB b A u := by
  have fin : ∀ B : St, OB b A B → d_X12_statement_1 u B → OB b A u := by
    intro B g h3
    obtain ⟨_, h3⟩ := (h3 : tr_d_X12_statement_1 u B)
    rcases h3 with ⟨_, hu⟩ | ⟨_, A62, hm, hu⟩
    · rw [hu]; exact g
    · rw [hu]; exact g.cl hm.2.2.1
  obtain ⟨z1, _, h2⟩ := (hq.1 : tr_r_X12_statement A u)
  rcases h2 with ⟨_, z5, _, h2⟩ | ⟨_, B, hs, h3⟩
  · rcases h2 with ⟨_, z9, _, h2⟩ | ⟨_, B, hs, h3⟩
    · rcases h2 with ⟨_, z13, _, h2⟩ | ⟨_, B, hs, h3⟩
      · rcases h2 with ⟨_, z17, _, h2⟩ | ⟨_, B, hs, h3⟩
        · rcases h2 with ⟨_, z21, _, h2⟩ | ⟨_, B, hs, h3⟩
          · rcases h2 with ⟨_, B, hs, h3⟩ | ⟨_, B, hs, h3⟩
            · exact fin B (O_others hI hb hs) h3
            · exact fin B (O_has hb hs) h3
          · exact fin B (O_person hI hb hs) h3
        · exact fin B (O_key hI hb hs) h3
      · exact fin B (O_box hI hb hs) h3
    · exact fin B (O_door hI hb hs) h3
  · exact fin B (O_place hI hb hs) h3
