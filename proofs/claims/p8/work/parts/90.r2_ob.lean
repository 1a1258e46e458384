/-! The reference's other bank is left alone by its reader. -/
def bnkL : List Nat := [1, 1, 1, 8, 1, 10, 10, 10, 10, 10, 10, 1, 4, 4, 4, 40, 1, 3, 3, 1, 4, 4, 1, 6, 6, 1, 6, 6, 6, 1, 6, 6, 6]
def bnk (j : Nat) : Nat := bnkL.getD j 1
def OB (b : Nat) (A u : St) : Prop := ∀ j, j ≠ 0 → j ≤ 32 → ∀ i, ¬ i / bnk j = b → u j i = A j i
theorem OB.rf {b : Nat} {A : St} : OB b A A := fun _ _ _ _ _ => rfl
theorem OB.trans {b : Nat} {A B C : St} (h : OB b A B) (g : OB b B C) : OB b A C := fun j h0 h1 i hi => (g j h0 h1 i hi).trans (h j h0 h1 i hi)
theorem OB.rq {b : Nat} {A u : St} (h : rq u A) : OB b A u := fun j h0 _ i _ => by rw [h j h0]
theorem OB.cl {b : Nat} {A S u : St} {N' : List Nat} (h : OB b A S) (g : fr [] N' S u) : OB b A u := h.trans (OB.rq g.rq)
theorem OB.st {b j i : Nat} {v : Int} {A S : St} (h : OB b A S) (hi : i / bnk j = b) : OB b A (stA S j i v) := by
  intro k h0 h1 m hm
  by_cases e : k = j
  · subst e
    rw [stA_same]
    by_cases e2 : m = i
    · subst e2
      exact absurd hi hm
    · rw [up_ne _ _ e2]
      exact h k h0 h1 m hm
  · rw [stA_ne _ _ e]
    exact h k h0 h1 m hm
theorem OB.s0 {b i : Nat} {v : Int} {A S : St} (h : OB b A S) : OB b A (stA S 0 i v) := by
  intro k h0 h1 m hm
  rw [stA_ne _ _ h0]
  exact h k h0 h1 m hm
theorem OB.r32 {b : Nat} {A S u : St} {M' N' : List Nat} (h : OB b A S) (g : fr M' N' S u) (hM : ∀ j, j ≠ 0 → j ≤ 32 → M'.contains j = false) : OB b A u := by
  intro j h0 h1 i hi
  rw [g.1 j h0 (hM j h0 h1)]
  exact h j h0 h1 i hi
theorem O_place {b : Nat} {A u : St} (hI : IM A) (hb : A 0 47 = (b : Int)) (hq : q_X12_place A u) : OB b A u := by
  have eb : (A 0 47).toNat = b := by rw [hb]; exact Int.toNat_natCast b
  have r2 : (0 : Int) ≤ A 2 b ∧ A 2 b ≤ 8 := hI 2 b
  obtain ⟨z1, hz1, h2⟩ := (hq.1 : tr_r_X12_place A u)
  rw [eb] at hz1
  have d1 : ∀ x, (x = 0 → z1 < 8) → d_X12_place_1 A u x → OB b A u := by
    intro x hx h2
    obtain ⟨_, z8, A9, hc, h2⟩ := (h2 : tr_d_X12_place_1 A u x)
    have q9 := hc.2.2.1.rq
    have g9 : OB b A A9 := OB.rq q9
    have rz := hc.2.2.2.2.1
    have pz := hc.2.2.2.2.2.1
    rcases h2 with ⟨c1, z14, hz14, h2⟩ | ⟨c1, rfl⟩
    · have lt := hx (pz (by clear h2; omega)).1
      rw [eb, q9 2 (by decide), ← hz1] at hz14
      obtain ⟨n, hn, hnL⟩ : ∃ n : Nat, z14 = (n : Int) ∧ n < 8 := ⟨z14.toNat, by clear h2; omega, by clear h2; omega⟩
      have ix : (8 * A 0 47 + z14).toNat = 8 * b + n := by rw [hb, hn]; omega
      obtain ⟨z15, A16, hf, h2⟩ := h2
      have g16 := g9.cl hf.2.2.1
      rw [ix, eb] at h2
      rcases h2 with ⟨_, A21, e, hu⟩ | ⟨_, z22, _, A23, e, hu⟩
      · rw [hu, e]; exact (OB.st g16 (show (8 * b + n) / 8 = b by omega))
      · rw [hu, e]; exact (OB.st (OB.st g16 (show (8 * b + n) / 8 = b by omega)) (show b / 1 = b from Nat.div_one b))
    · exact g9
  rcases h2 with ⟨c, h2⟩ | ⟨c, h2⟩
  · exact d1 0 (fun _ => by clear h2; omega) h2
  · exact d1 1 (fun g => absurd g (by decide)) h2
theorem O_key {b : Nat} {A u : St} (hI : IM A) (hb : A 0 47 = (b : Int)) (hq : q_X12_key A u) : OB b A u := by
  have eb : (A 0 47).toNat = b := by rw [hb]; exact Int.toNat_natCast b
  have r2 : (0 : Int) ≤ A 11 b ∧ A 11 b ≤ 4 := hI 11 b
  obtain ⟨z1, hz1, h2⟩ := (hq.1 : tr_r_X12_key A u)
  rw [eb] at hz1
  have d1 : ∀ x, (x = 0 → z1 < 4) → d_X12_key_1 A u x → OB b A u := by
    intro x hx h2
    obtain ⟨_, z8, A9, hc, h2⟩ := (h2 : tr_d_X12_key_1 A u x)
    have q9 := hc.2.2.1.rq
    have g9 : OB b A A9 := OB.rq q9
    have rz := hc.2.2.2.2.1
    have pz := hc.2.2.2.2.2.1
    rcases h2 with ⟨c1, z14, hz14, h2⟩ | ⟨c1, rfl⟩
    · have lt := hx (pz (by clear h2; omega)).1
      rw [eb, q9 11 (by decide), ← hz1] at hz14
      obtain ⟨n, hn, hnL⟩ : ∃ n : Nat, z14 = (n : Int) ∧ n < 4 := ⟨z14.toNat, by clear h2; omega, by clear h2; omega⟩
      have ix : (4 * A 0 47 + z14).toNat = 4 * b + n := by rw [hb, hn]; omega
      obtain ⟨z15, A16, hf, A20, e20, z21, A22, hw, h2⟩ := h2
      have g16 := g9.cl hf.2.2.1
      rw [ix] at e20
      rw [ix, eb] at h2
      have g20 : OB b A A20 := by rw [e20]; exact (OB.st g16 (show (4 * b + n) / 4 = b by omega))
      have g22 := g20.cl hw.2.2.1
      rcases h2 with ⟨_, A27, e, hu⟩ | ⟨_, z28, _, A29, e, hu⟩
      · rw [hu, e]; exact (OB.st (OB.st g22 (show (4 * b + n) / 4 = b by omega)) (show (4 * b + n) / 4 = b by omega))
      · rw [hu, e]; exact (OB.st (OB.st (OB.st g22 (show (4 * b + n) / 4 = b by omega)) (show (4 * b + n) / 4 = b by omega)) (show b / 1 = b from Nat.div_one b))
    · exact g9
  rcases h2 with ⟨c, h2⟩ | ⟨c, h2⟩
  · exact d1 0 (fun _ => by clear h2; omega) h2
  · exact d1 1 (fun g => absurd g (by decide)) h2
theorem O_thing {b : Nat} {A u : St} (hI : IM A) (hb : A 0 47 = (b : Int)) (hq : q_X12_thing A u) : OB b A u := by
  have eb : (A 0 47).toNat = b := by rw [hb]; exact Int.toNat_natCast b
  have r2 : (0 : Int) ≤ A 19 b ∧ A 19 b ≤ 4 := hI 19 b
  obtain ⟨z1, hz1, h2⟩ := (hq.1 : tr_r_X12_thing A u)
  rw [eb] at hz1
  have d1 : ∀ x, (x = 0 → z1 < 4) → d_X12_thing_1 A u x → OB b A u := by
    intro x hx h2
    obtain ⟨_, z8, A9, hc, h2⟩ := (h2 : tr_d_X12_thing_1 A u x)
    have q9 := hc.2.2.1.rq
    have g9 : OB b A A9 := OB.rq q9
    have rz := hc.2.2.2.2.1
    have pz := hc.2.2.2.2.2.1
    rcases h2 with ⟨c1, z14, hz14, h2⟩ | ⟨c1, rfl⟩
    · have lt := hx (pz (by clear h2; omega)).1
      rw [eb, q9 19 (by decide), ← hz1] at hz14
      obtain ⟨n, hn, hnL⟩ : ∃ n : Nat, z14 = (n : Int) ∧ n < 4 := ⟨z14.toNat, by clear h2; omega, by clear h2; omega⟩
      have ix : (4 * A 0 47 + z14).toNat = 4 * b + n := by rw [hb, hn]; omega
      obtain ⟨z15, A16, hf, A20, e20, z21, A22, hw, h2⟩ := h2
      have g16 := g9.cl hf.2.2.1
      rw [ix] at e20
      rw [ix, eb] at h2
      have g20 : OB b A A20 := by rw [e20]; exact (OB.st g16 (show (4 * b + n) / 4 = b by omega))
      have g22 := g20.cl hw.2.2.1
      rcases h2 with ⟨_, A27, e, hu⟩ | ⟨_, z28, _, A29, e, hu⟩
      · rw [hu, e]; exact (OB.st g22 (show (4 * b + n) / 4 = b by omega))
      · rw [hu, e]; exact (OB.st (OB.st g22 (show (4 * b + n) / 4 = b by omega)) (show b / 1 = b from Nat.div_one b))
    · exact g9
  rcases h2 with ⟨c, h2⟩ | ⟨c, h2⟩
  · exact d1 0 (fun _ => by clear h2; omega) h2
  · exact d1 1 (fun g => absurd g (by decide)) h2
theorem O_person {b : Nat} {A u : St} (hI : IM A) (hb : A 0 47 = (b : Int)) (hq : q_X12_person A u) : OB b A u := by
  have eb : (A 0 47).toNat = b := by rw [hb]; exact Int.toNat_natCast b
  have r2 : (0 : Int) ≤ A 16 b ∧ A 16 b ≤ 3 := hI 16 b
  obtain ⟨z1, hz1, h2⟩ := (hq.1 : tr_r_X12_person A u)
  rw [eb] at hz1
  have d1 : ∀ x, (x = 0 → z1 < 3) → d_X12_person_1 A u x → OB b A u := by
    intro x hx h2
    obtain ⟨_, z8, A9, hc, h2⟩ := (h2 : tr_d_X12_person_1 A u x)
    have q9 := hc.2.2.1.rq
    have g9 : OB b A A9 := OB.rq q9
    have rz := hc.2.2.2.2.1
    have pz := hc.2.2.2.2.2.1
    rcases h2 with ⟨c1, z14, hz14, h2⟩ | ⟨c1, rfl⟩
    · have lt := hx (pz (by clear h2; omega)).1
      rw [eb, q9 16 (by decide), ← hz1] at hz14
      obtain ⟨n, hn, hnL⟩ : ∃ n : Nat, z14 = (n : Int) ∧ n < 3 := ⟨z14.toNat, by clear h2; omega, by clear h2; omega⟩
      have ix : (3 * A 0 47 + z14).toNat = 3 * b + n := by rw [hb, hn]; omega
      obtain ⟨z15, A16, hf, A20, e20, A21, hw, z25, A26, hk, h2⟩ := h2
      have g16 := g9.cl hf.2.2.1
      rw [ix] at e20
      rw [ix, eb] at h2
      have g20 : OB b A A20 := by rw [e20]; exact (OB.st g16 (show (3 * b + n) / 3 = b by omega))
      have g26 := (g20.cl hw.2.2.1).cl hk.2.2.1
      rcases h2 with ⟨_, A27, e, hu⟩ | ⟨_, z28, _, A29, e, hu⟩
      · rw [hu, e]; exact (OB.st g26 (show (3 * b + n) / 3 = b by omega))
      · rw [hu, e]; exact (OB.st (OB.st g26 (show (3 * b + n) / 3 = b by omega)) (show b / 1 = b from Nat.div_one b))
    · exact g9
  rcases h2 with ⟨c, h2⟩ | ⟨c, h2⟩
  · exact d1 0 (fun _ => by clear h2; omega) h2
  · exact d1 1 (fun g => absurd g (by decide)) h2
theorem O_must {b : Nat} {A u : St} (hI : IM A) (hb : A 0 47 = (b : Int)) (hq : q_X12_mustBe A u) : OB b A u := by
  have eb : (A 0 47).toNat = b := by rw [hb]; exact Int.toNat_natCast b
  have r2 : (0 : Int) ≤ A 25 b ∧ A 25 b ≤ 6 := hI 25 b
  obtain ⟨z1, hz1, h2⟩ := (hq.1 : tr_r_X12_mustBe A u)
  rw [eb] at hz1
  have d1 : ∀ x, (x = 0 → z1 < 6) → d_X12_mustBe_1 A u x → OB b A u := by
    intro x hx h2
    obtain ⟨_, z8, A9, hc, h2⟩ := (h2 : tr_d_X12_mustBe_1 A u x)
    have q9 := hc.2.2.1.rq
    have g9 : OB b A A9 := OB.rq q9
    have rz := hc.2.2.2.2.1
    have pz := hc.2.2.2.2.2.1
    rcases h2 with ⟨c1, z14, hz14, h2⟩ | ⟨c1, rfl⟩
    · have lt := hx (pz (by clear h2; omega)).1
      rw [eb, q9 25 (by decide), ← hz1] at hz14
      obtain ⟨n, hn, hnL⟩ : ∃ n : Nat, z14 = (n : Int) ∧ n < 6 := ⟨z14.toNat, by clear h2; omega, by clear h2; omega⟩
      have ix : (6 * A 0 47 + z14).toNat = 6 * b + n := by rw [hb, hn]; omega
      obtain ⟨z15, A16, hf, A20, e20, z21, A22, hw, z26, _, A27, e27, z28, A29, hk, h2⟩ := h2
      have g16 := g9.cl hf.2.2.1
      rw [ix] at e20 e27
      rw [ix, eb] at h2
      have g20 : OB b A A20 := by rw [e20]; exact (OB.st g16 (show (6 * b + n) / 6 = b by omega))
      have g22 := g20.cl hw.2.2.1
      have g27 : OB b A A27 := by rw [e27]; exact (OB.st g22 (show (6 * b + n) / 6 = b by omega))
      have g29 := g27.cl hk.2.2.1
      rcases h2 with ⟨_, A34, e, hu⟩ | ⟨_, z35, _, A36, e, hu⟩
      · rw [hu, e]; exact (OB.st g29 (show (6 * b + n) / 6 = b by omega))
      · rw [hu, e]; exact (OB.st (OB.st g29 (show (6 * b + n) / 6 = b by omega)) (show b / 1 = b from Nat.div_one b))
    · exact g9
  rcases h2 with ⟨c, h2⟩ | ⟨c, h2⟩
  · exact d1 0 (fun _ => by clear h2; omega) h2
  · exact d1 1 (fun g => absurd g (by decide)) h2
theorem O_door {b : Nat} {A u : St} (hI : IM A) (hb : A 0 47 = (b : Int)) (hq : q_X12_door 0 A u) : OB b A u := by
  have eb : (A 0 47).toNat = b := by rw [hb]; exact Int.toNat_natCast b
  have r2 : (0 : Int) ≤ A 4 b ∧ A 4 b ≤ 10 := hI 4 b
  obtain ⟨z1, hz1, h2⟩ : ∃ z1 : Int, z1 = A 4 ((A 0 47)).toNat ∧ (((¬ z1 = 10) ∧ (d_X12_door_1 A u 0)) ∨ ((z1 = 10) ∧ (d_X12_door_1 A u 1))) := by
    rcases (hq.1 : tr_r_X12_door 0 A u) with ⟨_, h2⟩ | ⟨c, _⟩
    · exact h2
    · exact absurd c (by decide)
  rw [eb] at hz1
  have d1 : ∀ x, (x = 0 → z1 < 10) → d_X12_door_1 A u x → OB b A u := by
    intro x hx h2
    obtain ⟨_, z8, A9, hc, h2⟩ := (h2 : tr_d_X12_door_1 A u x)
    have q9 := hc.2.2.1.rq
    have g9 : OB b A A9 := OB.rq q9
    have rz := hc.2.2.2.2.1
    have pz := hc.2.2.2.2.2.1
    rcases h2 with ⟨c1, z14, hz14, h2⟩ | ⟨c1, rfl⟩
    · have lt := hx (pz (by clear h2; omega)).1
      rw [eb, q9 4 (by decide), ← hz1] at hz14
      obtain ⟨n, hn, hnL⟩ : ∃ n : Nat, z14 = (n : Int) ∧ n < 10 := ⟨z14.toNat, by clear h2; omega, by clear h2; omega⟩
      have ix : (10 * A 0 47 + z14).toNat = 10 * b + n := by rw [hb, hn]; omega
      obtain ⟨z15, A16, hf, A20, e20, z22, A23, hk1, A27, e27, z29, _, A30, hbr, z34, A35, hk2, A39, e39, z41, A42, hk3, h2⟩ := h2
      have g16 := g9.cl hf.2.2.1
      rw [ix] at e20 e27 e39
      rw [ix, eb] at h2
      have g20 : OB b A A20 := by rw [e20]; exact (OB.st g16 (show (10 * b + n) / 10 = b by omega))
      have g23 := g20.cl hk1.2.2.1
      have g27 : OB b A A27 := by rw [e27]; exact (OB.st g23 (show (10 * b + n) / 10 = b by omega))
      have g35 := (g27.cl hbr.2.2.1).cl hk2.2.2.1
      have g39 : OB b A A39 := by rw [e39]; exact (OB.st (OB.st g35 (show (10 * b + n) / 10 = b by omega)) (show (10 * b + n) / 10 = b by omega))
      have g42 := g39.cl hk3.2.2.1
      rcases h2 with ⟨_, A47, e, hu⟩ | ⟨_, z48, _, A49, e, hu⟩
      · rw [hu, e]; exact (OB.st (OB.st g42 (show (10 * b + n) / 10 = b by omega)) (show (10 * b + n) / 10 = b by omega))
      · rw [hu, e]; exact (OB.st (OB.st (OB.st g42 (show (10 * b + n) / 10 = b by omega)) (show (10 * b + n) / 10 = b by omega)) (show b / 1 = b from Nat.div_one b))
    · exact g9
  rcases h2 with ⟨c, h2⟩ | ⟨c, h2⟩
  · exact d1 0 (fun _ => by clear h2; omega) h2
  · exact d1 1 (fun g => absurd g (by decide)) h2
theorem O_box {b : Nat} {A u : St} (hI : IM A) (hb : A 0 47 = (b : Int)) (hq : q_X12_door 1 A u) : OB b A u := by
  have eb : (A 0 47).toNat = b := by rw [hb]; exact Int.toNat_natCast b
  have r2 : (0 : Int) ≤ A 4 b ∧ A 4 b ≤ 10 := hI 4 b
  obtain ⟨z1, hz1, h2⟩ : ∃ z1 : Int, z1 = A 4 ((A 0 47)).toNat ∧ (((¬ z1 = 10) ∧ (d_X12_door_2 A u 0)) ∨ ((z1 = 10) ∧ (d_X12_door_2 A u 1))) := by
    rcases (hq.1 : tr_r_X12_door 1 A u) with ⟨c, _⟩ | ⟨_, h2⟩
    · exact absurd c (by decide)
    · exact h2
  rw [eb] at hz1
  have d1 : ∀ x, (x = 0 → z1 < 10) → d_X12_door_2 A u x → OB b A u := by
    intro x hx h2
    obtain ⟨_, z8, A9, hc, h2⟩ := (h2 : tr_d_X12_door_2 A u x)
    have q9 := hc.2.2.1.rq
    have g9 : OB b A A9 := OB.rq q9
    have rz := hc.2.2.2.2.1
    have pz := hc.2.2.2.2.2.1
    rcases h2 with ⟨c1, z14, hz14, h2⟩ | ⟨c1, rfl⟩
    · have lt := hx (pz (by clear h2; omega)).1
      rw [eb, q9 4 (by decide), ← hz1] at hz14
      obtain ⟨n, hn, hnL⟩ : ∃ n : Nat, z14 = (n : Int) ∧ n < 10 := ⟨z14.toNat, by clear h2; omega, by clear h2; omega⟩
      have ix : (10 * A 0 47 + z14).toNat = 10 * b + n := by rw [hb, hn]; omega
      obtain ⟨z15, A16, hf, A20, e20, A21, hw2, z25, A26, hk2, A80, e80, z83, _, A84, e84, h2⟩ := h2
      have g16 := g9.cl hf.2.2.1
      rw [ix] at e20 e80 e84
      rw [ix, eb] at h2
      have g20 : OB b A A20 := by rw [e20]; exact (OB.st g16 (show (10 * b + n) / 10 = b by omega))
      have g26 := (g20.cl hw2.2.2.1).cl hk2.2.2.1
      have g80 : OB b A A80 := by rw [e80]; exact (OB.st g26 (show (10 * b + n) / 10 = b by omega))
      have g84 : OB b A A84 := by rw [e84]; exact (OB.st (OB.st g80 (show (10 * b + n) / 10 = b by omega)) (show (10 * b + n) / 10 = b by omega))
      rcases h2 with ⟨_, A87, e, hu⟩ | ⟨_, z88, _, A89, e, hu⟩
      · rw [hu, e]; exact (OB.st (OB.st g84 (show (10 * b + n) / 10 = b by omega)) (show (10 * b + n) / 10 = b by omega))
      · rw [hu, e]; exact (OB.st (OB.st (OB.st g84 (show (10 * b + n) / 10 = b by omega)) (show (10 * b + n) / 10 = b by omega)) (show b / 1 = b from Nat.div_one b))
    · exact g9
  rcases h2 with ⟨c, h2⟩ | ⟨c, h2⟩
  · exact d1 0 (fun _ => by clear h2; omega) h2
  · exact d1 1 (fun g => absurd g (by decide)) h2
theorem O_wants {b : Nat} {A u : St} (hI : IM A) (hb : A 0 47 = (b : Int)) (hq : q_X12_wanting A u) : OB b A u := by
  have eb : (A 0 47).toNat = b := by rw [hb]; exact Int.toNat_natCast b
  have r2 : (0 : Int) ≤ A 22 b ∧ A 22 b ≤ 6 := hI 22 b
  obtain ⟨z1, hz1, h2⟩ := (hq.1 : tr_r_X12_wanting A u)
  rw [eb] at hz1
  have d1 : ∀ x, (x = 0 → z1 < 6) → d_X12_wanting_1 A u x → OB b A u := by
    intro x hx h2
    obtain ⟨_, z8, A9, hc, h2⟩ := (h2 : tr_d_X12_wanting_1 A u x)
    have q9 := hc.2.2.1.rq
    have g9 : OB b A A9 := OB.rq q9
    have rz := hc.2.2.2.2.1
    have pz := hc.2.2.2.2.2.1
    rcases h2 with ⟨c1, z14, hz14, h2⟩ | ⟨c1, rfl⟩
    · have lt := hx (pz (by clear h2; omega)).1
      rw [eb, q9 22 (by decide), ← hz1] at hz14
      obtain ⟨n, hn, hnL⟩ : ∃ n : Nat, z14 = (n : Int) ∧ n < 6 := ⟨z14.toNat, by clear h2; omega, by clear h2; omega⟩
      have ix : (6 * A 0 47 + z14).toNat = 6 * b + n := by rw [hb, hn]; omega
      have f7 : ∀ A64 : St, OB b A A64 → d_X12_wanting_7 z14 A A64 u → OB b A u := by
        intro A64 g h3
        obtain ⟨z90, A91, hk, A95, e95, h3⟩ := (h3 : tr_d_X12_wanting_7 z14 A A64 u)
        have g91 := g.cl hk.2.2.1
        rw [ix] at e95
        rw [eb] at h3
        have g95 : OB b A A95 := by rw [e95]; exact (OB.st g91 (show (6 * b + n) / 6 = b by omega))
        rcases h3 with ⟨_, hu⟩ | ⟨_, z97, _, A101, e, hu⟩
        · rw [hu]; exact g95
        · rw [hu, e]; exact (OB.st g95 (show b / 1 = b from Nat.div_one b))
      have f5 : ∀ (nn : Nat) (i : Int) (A64 : St), OB b A A64 → d_X12_wanting_5 z14 A u nn i A64 → OB b A u := by
        intro nn
        induction nn with
        | zero => intro i A64 _ h3; exact h3.elim
        | succ nn ih =>
          intro i A64 g h3
          obtain ⟨_, _, h3⟩ := (h3 : tr_d_X12_wanting_5 z14 A u (fun z62 A64 => d_X12_wanting_5 z14 A u nn z62 A64) i A64)
          rcases h3 with ⟨_, h3⟩ | ⟨_, h3⟩
          · exact f7 A64 g h3
          · rcases h3 with ⟨_, h3⟩ | ⟨_, z77, _, z78, _, h3⟩
            · exact f7 A64 g h3
            · rcases h3 with ⟨_, h3⟩ | ⟨_, z81, _, A82, hbr, h3⟩
              · obtain ⟨_, h3⟩ := (h3 : tr_d_X12_wanting_6 (fun z62 A64 => d_X12_wanting_5 z14 A u nn z62 A64) i u A64)
                exact ih _ _ g h3
              · obtain ⟨_, h3⟩ := (h3 : tr_d_X12_wanting_6 (fun z62 A64 => d_X12_wanting_5 z14 A u nn z62 A64) i u A82)
                exact ih _ _ (g.cl hbr.2.2.1) h3
      have f4 : ∀ A52 : St, OB b A A52 → d_X12_wanting_4 z14 A u A52 → OB b A u := by
        intro A52 g h3
        obtain ⟨_, z55, A56, hk, A60, e60, nn, h3⟩ := (h3 : tr_d_X12_wanting_4 z14 A u A52)
        have g56 := g.cl hk.2.2.1
        rw [ix] at e60
        refine f5 nn _ A60 ?_ h3
        rw [e60]; exact (OB.st g56 (show (6 * b + n) / 6 = b by omega))
      have f3 : ∀ (nn : Nat) (v i zc : Int), d_X12_wanting_3 z14 v A A9 u nn i zc → OB b A u := by
        intro nn
        induction nn with
        | zero => intro v i zc h3; exact h3.elim
        | succ nn ih =>
          intro v i zc h3
          obtain ⟨_, _, h3⟩ := (h3 : tr_d_X12_wanting_3 z14 v A A9 u (fun z30 z31 => d_X12_wanting_3 z14 v A A9 u nn z30 z31) i zc)
          rcases h3 with ⟨_, h3⟩ | ⟨_, z103, _, h3⟩
          · rcases h3 with ⟨_, h3⟩ | ⟨_, h3⟩
            · exact f4 A9 g9 h3
            · rcases h3 with ⟨_, h3⟩ | ⟨_, A48, hbl, h3⟩
              · exact f4 A9 g9 h3
              · exact f4 A48 (g9.cl hbl.2.2.1) h3
          · rcases h3 with ⟨_, h3⟩ | ⟨_, h3⟩
            · obtain ⟨_, h3⟩ := (h3 : tr_d_X12_wanting_8 (fun z30 z31 => d_X12_wanting_3 z14 v A A9 u nn z30 z31) i zc u 0)
              exact ih _ _ _ h3
            · obtain ⟨_, h3⟩ := (h3 : tr_d_X12_wanting_8 (fun z30 z31 => d_X12_wanting_3 z14 v A A9 u nn z30 z31) i zc u 1)
              exact ih _ _ _ h3
      have f2 : ∀ v : Int, d_X12_wanting_2 z14 A A9 u v → OB b A u := by
        intro v h3
        obtain ⟨_, nn, h3⟩ := (h3 : tr_d_X12_wanting_2 z14 A A9 u v)
        exact f3 nn v _ _ h3
      rcases h2 with ⟨_, h2⟩ | ⟨_, h2⟩
      · exact f2 _ h2
      · rcases h2 with ⟨_, h2⟩ | ⟨_, z19, _, h2⟩
        · exact f2 _ h2
        · rcases h2 with ⟨_, h2⟩ | ⟨_, z23, _, h2⟩
          · exact f2 _ h2
          · exact f2 _ h2
    · exact g9
  rcases h2 with ⟨c, h2⟩ | ⟨c, h2⟩
  · exact d1 0 (fun _ => by clear h2; omega) h2
  · exact d1 1 (fun g => absurd g (by decide)) h2
theorem O_bar {b : Nat} {A u : St} (hI : IM A) (hb : A 0 47 = (b : Int)) (hq : q_X12_barring A u) : OB b A u := by
  have eb : (A 0 47).toNat = b := by rw [hb]; exact Int.toNat_natCast b
  have r2 : (0 : Int) ≤ A 29 b ∧ A 29 b ≤ 6 := hI 29 b
  obtain ⟨z1, hz1, h2⟩ := (hq.1 : tr_r_X12_barring A u)
  rw [eb] at hz1
  have d1 : ∀ x, (x = 0 → z1 < 6) → d_X12_barring_1 A u x → OB b A u := by
    intro x hx h2
    obtain ⟨_, z8, A9, hc, h2⟩ := (h2 : tr_d_X12_barring_1 A u x)
    have q9 := hc.2.2.1.rq
    have g9 : OB b A A9 := OB.rq q9
    have rz := hc.2.2.2.2.1
    have pz := hc.2.2.2.2.2.1
    rcases h2 with ⟨c1, z14, hz14, h2⟩ | ⟨c1, rfl⟩
    · have lt := hx (pz (by clear h2; omega)).1
      rw [eb, q9 29 (by decide), ← hz1] at hz14
      obtain ⟨n, hn, hnL⟩ : ∃ n : Nat, z14 = (n : Int) ∧ n < 6 := ⟨z14.toNat, by clear h2; omega, by clear h2; omega⟩
      have ix : (6 * A 0 47 + z14).toNat = 6 * b + n := by rw [hb, hn]; omega
      have f5 : ∀ A76 : St, OB b A A76 → d_X12_barring_5 z14 A u A76 → OB b A u := by
        intro A76 g h3
        obtain ⟨_, A80, e, h3⟩ := (h3 : tr_d_X12_barring_5 z14 A u A76)
        rw [ix] at e
        rw [eb] at h3
        have g80 : OB b A A80 := by rw [e]; exact (OB.st g (show (6 * b + n) / 6 = b by omega))
        rcases h3 with ⟨_, hu⟩ | ⟨_, z97, _, A98, e98, hu⟩
        · rw [hu]; exact g80
        · rw [hu, e98]; exact (OB.st g80 (show b / 1 = b from Nat.div_one b))
      have f4 : ∀ A39 : St, OB b A A39 → d_X12_barring_4 z14 A u A39 → OB b A u := by
        intro A39 g h3
        obtain ⟨_, z41, A42, hk, A46, e46, A47, hwd, A51, e51, h3⟩ := (h3 : tr_d_X12_barring_4 z14 A u A39)
        rw [ix] at e46 e51
        have g42 := g.cl hk.2.2.1
        have g46 : OB b A A46 := by rw [e46]; exact (OB.st g42 (show (6 * b + n) / 6 = b by omega))
        have g47 := g46.cl hwd.2.2.1
        have g51 : OB b A A51 := by rw [e51]; exact (OB.st g47 (show (6 * b + n) / 6 = b by omega))
        rcases h3 with ⟨_, h3⟩ | ⟨_, A71, hre, h3⟩
        · exact f5 A51 g51 h3
        · refine f5 A71 (g51.r32 hre.2.2.1 (fun j h0 h1 => ?_)) h3
          have : ∀ k : Fin 33, ([33, 34, 35, 36, 37, 38, 39, 40] : List Nat).contains k.val = false := by decide
          exact this ⟨j, by omega⟩
      have f3 : ∀ v : Int, d_X12_barring_3 z14 A A9 u v → OB b A u := by
        intro v h3
        obtain ⟨_, h3⟩ := (h3 : tr_d_X12_barring_3 z14 A A9 u v)
        rcases h3 with ⟨_, h3⟩ | ⟨_, z33, _, h3⟩
        · exact f4 A9 g9 h3
        · rcases h3 with ⟨_, h3⟩ | ⟨_, A35, hbl, h3⟩
          · exact f4 A9 g9 h3
          · exact f4 A35 (g9.cl hbl.2.2.1) h3
      rcases h2 with ⟨_, h2⟩ | ⟨_, h2⟩
      · exact f3 (-1) h2
      · rcases h2 with ⟨_, h2⟩ | ⟨_, z20, _, h2⟩
        · exact f3 (-1) h2
        · rcases h2 with ⟨_, h2⟩ | ⟨_, z24, _, h2⟩
          · exact f3 (-1) h2
          · exact f3 _ h2
    · exact g9
  rcases h2 with ⟨c, h2⟩ | ⟨c, h2⟩
  · exact d1 0 (fun _ => by clear h2; omega) h2
  · exact d1 1 (fun g => absurd g (by decide)) h2
theorem O_has {b : Nat} {A u : St} (hb : A 0 47 = (b : Int)) (hq : q_X12_having A u) : OB b A u := by
  obtain ⟨z1, A2, hc, h2⟩ := (hq.1 : tr_r_X12_having A u)
  have g2 : OB b A A2 := OB.rq hc.2.2.1.rq
  rcases h2 with ⟨_, z7, A8, hk, h2⟩ | ⟨_, rfl⟩
  · have g8 := g2.cl hk.2.2.1
    have f3 : ∀ A35 : St, OB b A A35 → d_X12_having_3 z7 A u A35 → OB b A u := by
      intro A35 g h3
      obtain ⟨_, z37, A38, hk2, h3⟩ := (h3 : tr_d_X12_having_3 z7 A u A35)
      have g38 := g.cl hk2.2.2.1
      have p1 := hk2.2.2.2.2.1
      have p2 := hk2.2.2.2.2.2.1
      rcases h3 with ⟨_, hu⟩ | ⟨_, A43, e, hu⟩
      · rw [hu]; exact g38
      · rw [hu, e]
        exact OB.st g38 (show (4 * A 0 47 + z37).toNat / 4 = b by rw [hb]; omega)
    have f2 : ∀ v : Int, d_X12_having_2 z7 A A8 u v → OB b A u := by
      intro v h3
      obtain ⟨_, h3⟩ := (h3 : tr_d_X12_having_2 z7 A A8 u v)
      rcases h3 with ⟨_, h3⟩ | ⟨_, z29, _, h3⟩
      · exact f3 A8 g8 h3
      · rcases h3 with ⟨_, h3⟩ | ⟨_, A31, hbl, h3⟩
        · exact f3 A8 g8 h3
        · exact f3 A31 (g8.cl hbl.2.2.1) h3
    rcases h2 with ⟨_, h2⟩ | ⟨_, h2⟩
    · exact f2 (-1) h2
    · rcases h2 with ⟨_, h2⟩ | ⟨_, z16, _, h2⟩
      · exact f2 (-1) h2
      · rcases h2 with ⟨_, h2⟩ | ⟨_, z20, _, h2⟩
        · exact f2 (-1) h2
        · exact f2 _ h2
  · exact g2
theorem O_lost {b : Nat} {A u : St} (hb : A 0 47 = (b : Int)) (hq : q_X12_losing A u) : OB b A u := by
  obtain ⟨z1, A2, hc, h2⟩ := (hq.1 : tr_r_X12_losing A u)
  have g2 : OB b A A2 := OB.rq hc.2.2.1.rq
  rcases h2 with ⟨_, h2⟩ | ⟨_, rfl⟩
  · have f3 : ∀ A35 : St, OB b A A35 → d_X12_losing_3 A u A35 → OB b A u := by
      intro A35 g h3
      obtain ⟨_, z37, A38, hk2, h3⟩ := (h3 : tr_d_X12_losing_3 A u A35)
      have g38 := g.cl hk2.2.2.1
      have p1 := hk2.2.2.2.2.1
      have p2 := hk2.2.2.2.2.2.1
      rcases h3 with ⟨_, hu⟩ | ⟨_, A43, e, hu⟩
      · rw [hu]; exact g38
      · rw [hu, e]
        exact OB.st g38 (show (10 * A 0 47 + z37).toNat / 10 = b by rw [hb]; omega)
    have f2 : ∀ v : Int, d_X12_losing_2 A A2 u v → OB b A u := by
      intro v h3
      obtain ⟨_, h3⟩ := (h3 : tr_d_X12_losing_2 A A2 u v)
      rcases h3 with ⟨_, h3⟩ | ⟨_, z29, _, h3⟩
      · exact f3 A2 g2 h3
      · rcases h3 with ⟨_, h3⟩ | ⟨_, A31, hbl, h3⟩
        · exact f3 A2 g2 h3
        · exact f3 A31 (g2.cl hbl.2.2.1) h3
    rcases h2 with ⟨_, h2⟩ | ⟨_, h2⟩
    · exact f2 (-1) h2
    · rcases h2 with ⟨_, h2⟩ | ⟨_, z16, _, h2⟩
      · exact f2 (-1) h2
      · rcases h2 with ⟨_, h2⟩ | ⟨_, z20, _, h2⟩
        · exact f2 (-1) h2
        · exact f2 _ h2
  · exact g2
theorem shL_ob {b : Nat} {z7 : Int} {A u B : St} (hb : A 0 47 = (b : Int)) (g : OB b A B) (h : shL z7 A u B) : OB b A u := by
  obtain ⟨z18, A19, hk, h⟩ := h
  have g19 := g.cl hk.2.2.1
  have p1 := hk.2.2.2.2.1
  have p2 := hk.2.2.2.2.2.1
  rcases h with ⟨_, z24, hz24, z25, _, A26, e, hu⟩ | ⟨_, hu⟩
  · have r : (0 : Int) ≤ A19 14 (4 * A 0 47 + z18).toNat ∧ A19 14 (4 * A 0 47 + z18).toNat ≤ 6 := hk.2.1 14 _
    rw [← hz24] at r
    rw [hu, e]
    exact OB.st (OB.st g19 (show (40 * A 0 47 + 10 * z18 + z24).toNat / 40 = b by rw [hb]; omega)) (show (4 * A 0 47 + z18).toNat / 4 = b by rw [hb]; omega)
  · rw [hu]; exact g19
theorem O_shut {b : Nat} {A u : St} (hb : A 0 47 = (b : Int)) (hq : q_X12_shutting A u) : OB b A u := by
  obtain ⟨z1, A2, hc, h2⟩ := (hq.1 : tr_r_X12_shutting A u)
  have g2 : OB b A A2 := OB.rq hc.2.2.1.rq
  rcases h2 with ⟨_, z7, A8, hk, A12, hwd, h2⟩ | ⟨_, rfl⟩
  · have g12 := (g2.cl hk.2.2.1).cl hwd.2.2.1
    rcases h2 with ⟨_, h2⟩ | ⟨_, h2⟩
    · exact shL_ob hb g12 h2
    · rcases h2 with ⟨_, h2⟩ | ⟨_, z38, _, h2⟩
      · exact shL_ob hb g12 h2
      · rcases h2 with ⟨_, h2⟩ | ⟨_, z52, _, h2⟩
        · exact shL_ob hb g12 h2
        · rcases h2 with ⟨_, h2⟩ | ⟨_, z65, _, h2⟩
          · exact shL_ob hb g12 h2
          · rcases h2 with ⟨_, A69, hbl, h2⟩ | ⟨_, z81, _, h2⟩
            · exact shL_ob hb (g12.cl hbl.2.2.1) h2
            · rcases h2 with ⟨_, h2⟩ | ⟨_, A92, hbl, h2⟩
              · exact shL_ob hb g12 h2
              · exact shL_ob hb (g12.cl hbl.2.2.1) h2
  · exact g2
theorem O_others {b : Nat} {A u : St} (hI : IM A) (hb : A 0 47 = (b : Int)) (hq : q_X12_others A u) : OB b A u := by
  obtain ⟨z1, _, h2⟩ := (hq.1 : tr_r_X12_others A u)
  rcases h2 with ⟨_, z5, _, h2⟩ | ⟨_, B, hs, hu⟩
  · rcases h2 with ⟨_, z9, _, h2⟩ | ⟨_, B, hs, hu⟩
    · rcases h2 with ⟨_, z13, _, h2⟩ | ⟨_, B, hs, hu⟩
      · rcases h2 with ⟨_, z17, _, h2⟩ | ⟨_, B, hs, hu⟩
        · rcases h2 with ⟨_, z21, _, h2⟩ | ⟨_, B, hs, hu⟩
          · rcases h2 with ⟨_, B, hs, hu⟩ | ⟨_, B, hs, hu⟩
            · rw [hu]; exact OB.rf.cl hs.2.2.1
            · rw [hu]; exact O_bar hI hb hs
          · rw [hu]; exact O_must hI hb hs
        · rw [hu]; exact O_wants hI hb hs
      · rw [hu]; exact O_thing hI hb hs
    · rw [hu]; exact O_lost hb hs
  · rw [hu]; exact O_shut hb hs
theorem O_statement {b : Nat} {A u : St} (hI : IM A) (hb : A 0 47 = (b : Int)) (hq : q_X12_statement A u) : OB b A u := by
  have fin : ∀ B : St, OB b A B → d_X12_statement_1 u B → OB b A u := by
    intro B g h3
    obtain ⟨_, h3⟩ := (h3 : tr_d_X12_statement_1 u B)
    rcases h3 with ⟨_, hu⟩ | ⟨_, A62, hm, hu⟩
    · rw [hu]; exact g
    · rw [hu]; exact g.cl hm.2.2.1
  obtain ⟨z1, _, h2⟩ := (hq.1 : tr_r_X12_statement A u)
  rcases h2 with ⟨_, z5, _, h2⟩ | ⟨_, B, hs, h3⟩
  · rcases h2 with ⟨_, z9, _, h2⟩ | ⟨_, B, hs, h3⟩
    · rcases h2 with ⟨_, z13, _, h2⟩ | ⟨_, B, hs, h3⟩
      · rcases h2 with ⟨_, z17, _, h2⟩ | ⟨_, B, hs, h3⟩
        · rcases h2 with ⟨_, z21, _, h2⟩ | ⟨_, B, hs, h3⟩
          · rcases h2 with ⟨_, B, hs, h3⟩ | ⟨_, B, hs, h3⟩
            · exact fin B (O_others hI hb hs) h3
            · exact fin B (O_has hb hs) h3
          · exact fin B (O_person hI hb hs) h3
        · exact fin B (O_key hI hb hs) h3
      · exact fin B (O_box hI hb hs) h3
    · exact fin B (O_door hI hb hs) h3
  · exact fin B (O_place hI hb hs) h3
/-! What stands fast of both towns: the tables that acts leave alone. -/
def MRs (b : Nat) (A T : St) : Prop := NKA b A T ∧ MCn b A T ∧ TD T ∧ NB b A T ∧ MDr b A T ∧ MLs b A T ∧ MTn b A T ∧ MWn b A T ∧ MMu b A T ∧ MBa b A T
theorem MR.s {b : Nat} {A T : St} (h : MR b A T) : MRs b A T := by
  obtain ⟨h1, h2, h3, h4, h5, h6, _, _, h9, h10, h11, h12⟩ := h
  exact ⟨h1, h2, h3, h4, h5, h6, h9, h10, h11, h12⟩
theorem ct_cg {f g : Nat → Int} {s : Nat} {p : Int} : ∀ n, (∀ k, k < n → f (s + k) = g (s + k)) → ct f s p n = ct g s p n := by
  intro n
  induction n with
  | zero => intro _; rfl
  | succ n ih =>
    intro h
    show ct f s p n + (if f (s + n) = p then 1 else 0) = ct g s p n + (if g (s + n) = p then 1 else 0)
    rw [ih (fun k hk => h k (by omega)), h n (by omega)]
theorem MRs.ob {b o : Nat} {A u T : St} (hI : IM A) (h : MRs o A T) (g : OB b A u) (ne : o ≠ b) : MRs o u T := by
  have e : ∀ (j m k : Nat), j ≠ 0 → j ≤ 32 → bnk j = m → 0 < m → k < m → u j (m * o + k) = A j (m * o + k) := by
    intro j m k h0 h1 hm hp hk
    refine g j h0 h1 _ ?_
    rw [hm, Nat.mul_add_div hp, Nat.div_eq_of_lt hk]
    omega
  have c1 : ∀ j, j ≠ 0 → j ≤ 32 → bnk j = 1 → u j o = A j o := by
    intro j h0 h1 hm
    have := e j 1 0 h0 h1 hm (by decide) (by decide)
    rw [show 1 * o + 0 = o by omega] at this
    exact this
  have r0 : A 2 o ≤ 8 := (hI 2 o).2
  have r1 : A 4 o ≤ 10 := (hI 4 o).2
  have r2 : A 11 o ≤ 4 := (hI 11 o).2
  have r3 : A 16 o ≤ 3 := (hI 16 o).2
  have r4 : A 19 o ≤ 4 := (hI 19 o).2
  have r5 : A 22 o ≤ 6 := (hI 22 o).2
  have r6 : A 25 o ≤ 6 := (hI 25 o).2
  have r7 : A 29 o ≤ 6 := (hI 29 o).2
  obtain ⟨⟨k0, k1, k2, k3, k4⟩, hc, ht, hB, hd, hl, hh, hwn, hm, hb⟩ := h
  have t0 := k0.1
  have t1 := k1.1
  have t2 := k2.1
  have t3 := k3.1
  have t4 := k4.1
  have t5 := hc.1
  have t6 := hc.2.1
  have t7 := hc.2.2
  refine ⟨⟨⟨(c1 2 (by decide) (by decide) rfl).trans t0, ?_⟩, ⟨(c1 4 (by decide) (by decide) rfl).trans t1, ?_⟩, ⟨(c1 11 (by decide) (by decide) rfl).trans t2, ?_⟩, ⟨(c1 16 (by decide) (by decide) rfl).trans t3, ?_⟩, ⟨(c1 19 (by decide) (by decide) rfl).trans t4, ?_⟩⟩, ⟨(c1 22 (by decide) (by decide) rfl).trans t5, (c1 25 (by decide) (by decide) rfl).trans t6, (c1 29 (by decide) (by decide) rfl).trans t7⟩, ht, ?_, ?_, ⟨hl.1, ?_, hl.2.2⟩, ?_, ?_, ?_, ?_⟩
  · intro j hj; rw [e 3 8 j (by decide) (by decide) rfl (by decide) (by omega)]; exact k0.2 j hj
  · intro j hj; rw [e 5 10 j (by decide) (by decide) rfl (by decide) (by omega)]; exact k1.2 j hj
  · intro j hj; rw [e 12 4 j (by decide) (by decide) rfl (by decide) (by omega)]; exact k2.2 j hj
  · intro j hj; rw [e 17 3 j (by decide) (by decide) rfl (by decide) (by omega)]; exact k3.2 j hj
  · intro j hj; rw [e 20 4 j (by decide) (by decide) rfl (by decide) (by omega)]; exact k4.2 j hj
  · intro k hk; rw [e 8 10 k (by decide) (by decide) rfl (by decide) (by omega)]; exact hB k hk
  · intro k hk; rw [e 6 10 k (by decide) (by decide) rfl (by decide) (by omega), e 7 10 k (by decide) (by decide) rfl (by decide) (by omega), e 9 10 k (by decide) (by decide) rfl (by decide) (by omega)]; exact hd k hk
  · intro k hk; rw [e 10 10 k (by decide) (by decide) rfl (by decide) (by omega)]; exact hl.2.1 k hk
  · intro k hk; rw [e 21 4 k (by decide) (by decide) rfl (by decide) (by omega)]; exact hh k hk
  · intro p hp
    have w := hwn p hp
    refine ⟨w.1, ?_, fun t ht4 => ?_⟩
    · rw [ct_cg (g := A 23) _ (fun k hk => e 23 6 k (by decide) (by decide) rfl (by decide) (by omega))]
      exact w.2.1
    · rw [w.2.2 t ht4]
      constructor
      · rintro ⟨i, hi, g1, g2⟩
        exact ⟨i, hi, by rw [e 23 6 i (by decide) (by decide) rfl (by decide) (by omega)]; exact g1, by rw [e 24 6 i (by decide) (by decide) rfl (by decide) (by omega)]; exact g2⟩
      · rintro ⟨i, hi, g1, g2⟩
        rw [e 23 6 i (by decide) (by decide) rfl (by decide) (by omega)] at g1
        rw [e 24 6 i (by decide) (by decide) rfl (by decide) (by omega)] at g2
        exact ⟨i, hi, g1, g2⟩
  · intro k hk; rw [e 26 6 k (by decide) (by decide) rfl (by decide) (by omega), e 27 6 k (by decide) (by decide) rfl (by decide) (by omega), e 28 6 k (by decide) (by decide) rfl (by decide) (by omega)]; exact hm k hk
  · intro k hk; rw [e 30 6 k (by decide) (by decide) rfl (by decide) (by omega)]; exact hb k hk
def statT : List Nat := [1, 3, 4, 5, 6, 7, 8, 9, 10, 11, 12, 13, 14, 15, 16]
def statM : List Nat := [2, 3, 4, 5, 6, 7, 8, 9, 10, 11, 12, 16, 17, 19, 20, 21, 22, 23, 24, 25, 26, 27, 28, 29, 30]
theorem MRs.cg {b : Nat} {A A2 T T2 : St} (h : MRs b A T) (hA : ∀ j, statM.contains j = true → A2 j = A j) (hT : ∀ j, statT.contains j = true → T2 j = T j) (h15 : T2 0 15 = T 0 15) : MRs b A2 T2 := by
  have eA : A2 = fun j => bif statM.contains j then A j else A2 j := by
    funext j
    cases hc : statM.contains j with
    | false => rfl
    | true => exact hA j hc
  have eT : T2 = fun j => bif statT.contains j then T j else T2 j := by
    funext j
    cases hc : statT.contains j with
    | false => rfl
    | true => exact hT j hc
  obtain ⟨h1, h2, h3, h4, h5, h6, h9, h10, h11, h12⟩ := h
  have l : MLs b A2 T2 := by
    unfold MLs
    rw [h15]
    rw [eA, eT]
    exact h6
  have rest : NKA b A2 T2 ∧ MCn b A2 T2 ∧ TD T2 ∧ NB b A2 T2 ∧ MDr b A2 T2 ∧ MTn b A2 T2 ∧ MWn b A2 T2 ∧ MMu b A2 T2 ∧ MBa b A2 T2 := by
    rw [eA, eT]
    exact ⟨h1, h2, h3, h4, h5, h9, h10, h11, h12⟩
  obtain ⟨g1, g2, g3, g4, g5, g9, g10, g11, g12⟩ := rest
  exact ⟨g1, g2, g3, g4, g5, l, g9, g10, g11, g12⟩
/-- the present towns of both have the same tables -/
def PSs (B A : St) : Prop := (B 0 9 + B 0 10 = 1) ∧ MRs (A 0 12).toNat A (tw (51 + 31 * (B 0 9).toNat) B)
def okF (x : Nat × Nat) : Bool := !(Nat.beq x.1 0 && (Nat.beq x.2 9 || Nat.beq x.2 10)) && !((Nat.beq x.1 51 || Nat.beq x.1 82) && Nat.beq x.2 15) && statT.all (fun j => !Nat.beq x.1 (51 + j) && !Nat.beq x.1 (82 + j))
theorem PSs.fr {B A B2 A2 : St} {P : List Nat} {F : List (Nat × Nat)} {M' N' : List Nat} (hIK : IK B) (h : PSs B A) (hf : fk P F B B2) (hP : (P.contains 0 || P.contains 51 || P.contains 82 || statT.any (fun j => P.contains (51 + j) || P.contains (82 + j))) = false) (hF : F.all okF = true) (hg : fr M' N' A A2) (hM : statM.all (fun j => !M'.contains j) = true) (h12 : N'.contains 12 = false) : PSs B2 A2 := by
  have r9 : (0 : Int) ≤ B 0 9 ∧ B 0 9 ≤ 1 := hIK 0 9
  simp only [Bool.or_eq_false_iff] at hP
  obtain ⟨⟨⟨p0, p51⟩, p82⟩, pT⟩ := hP
  have nf : ∀ j k, okF (j, k) = false → fin2 F j k = false := by
    intro j k hk
    cases hc : fin2 F j k with
    | false => rfl
    | true =>
      have := List.all_eq_true.mp hF _ (fin2_iff.mp hc)
      rw [hk] at this
      exact absurd this (by decide)
  have e9 : B2 0 9 = B 0 9 := hf 0 9 p0 (nf 0 9 rfl)
  have e10 : B2 0 10 = B 0 10 := hf 0 10 p0 (nf 0 10 rfl)
  have rowT : ∀ j, statT.contains j = true → ∀ k, B2 (51 + j) k = B (51 + j) k ∧ B2 (82 + j) k = B (82 + j) k := by
    intro j hj k
    have hm := List.contains_iff_mem.mp hj
    have pj : (P.contains (51 + j) || P.contains (82 + j)) = false := by
      cases hc : (P.contains (51 + j) || P.contains (82 + j)) with
      | false => rfl
      | true =>
        have : statT.any (fun j => P.contains (51 + j) || P.contains (82 + j)) = true := List.any_eq_true.mpr ⟨j, hm, hc⟩
        rw [pT] at this
        exact absurd this (by decide)
    rw [Bool.or_eq_false_iff] at pj
    have no : ∀ x, (x = 51 + j ∨ x = 82 + j) → okF (x, k) = false := by
      intro x hx
      have : statT.all (fun j => !Nat.beq x (51 + j) && !Nat.beq x (82 + j)) = false := by
        cases hc : statT.all (fun j => !Nat.beq x (51 + j) && !Nat.beq x (82 + j)) with
        | false => rfl
        | true =>
          have := List.all_eq_true.mp hc j hm
          rcases hx with rfl | rfl
          · simp at this
          · simp at this
      show (_ && _ && statT.all (fun j => !Nat.beq x (51 + j) && !Nat.beq x (82 + j))) = false
      rw [this, Bool.and_false]
    exact ⟨hf _ _ pj.1 (nf _ _ (no _ (Or.inl rfl))), hf _ _ pj.2 (nf _ _ (no _ (Or.inr rfl)))⟩
  have hM : ∀ j, statM.contains j = true → M'.contains j = false := by
    intro j hj
    have := List.all_eq_true.mp hM j (List.contains_iff_mem.mp hj)
    simpa using this
  refine ⟨by rw [e9, e10]; exact h.1, ?_⟩
  rw [hg.2 12 h12, e9]
  refine MRs.cg h.2 (fun j hj => hg.1 j ?_ (hM j hj)) (fun j hj => ?_) ?_
  · intro e0
    subst e0
    exact absurd hj (by decide)
  · funext k
    have r := rowT j hj k
    rcases (show B 0 9 = 0 ∨ B 0 9 = 1 by omega) with e | e
    · rw [e]; exact r.1
    · rw [e]; exact r.2
  · rcases (show B 0 9 = 0 ∨ B 0 9 = 1 by omega) with e | e
    · rw [e]; exact hf 51 15 p51 (nf 51 15 rfl)
    · rw [e]; exact hf 82 15 p82 (nf 82 15 rfl)
theorem O_town2 {b : Nat} {A0 A B u : St} {z i : Int} (g : OB b A B) (hq : d_X12_town_2 i A0 B z u) : OB b A u := by
  rcases (hq : tr_d_X12_town_2 i A0 B z u) with ⟨_, A27, e, _, hu⟩ | ⟨_, A28, e, z29, A30, hr, _, hu⟩
  · rw [hu, e]; exact g.s0.s0.s0.s0
  · have g28 : OB b A A28 := by rw [e]; exact g.s0.s0
    rw [hu]
    refine g28.r32 hr.2.2.1 (fun j h0 h1 => ?_)
    have : ∀ k : Fin 33, ([41] : List Nat).contains k.val = false := by decide
    exact this ⟨j, by omega⟩
theorem O_townL {b : Nat} {A0 A u : St} {z : Int} : ∀ (nn : Nat) (i : Int) (B : St), OB b A B → B 0 47 = (b : Int) → d_X12_town_1 A0 z u nn i B → OB b A u := by
  intro nn
  induction nn with
  | zero => intro i B _ _ hq; exact hq.elim
  | succ nn ih =>
    intro i B g h47 hq
    obtain ⟨hI, _, hq⟩ := (hq : tr_d_X12_town_1 A0 z u (fun z5 A7 => d_X12_town_1 A0 z u nn z5 A7) i B)
    rcases hq with ⟨_, hq⟩ | ⟨_, hq⟩
    · exact O_town2 g hq
    · rcases hq with ⟨_, hq⟩ | ⟨_, A19, hst, z24, _, hq⟩
      · exact O_town2 g hq
      · exact ih _ A19 (g.trans (O_statement hI h47 hst)) ((hst.2.2.1.2 47 rfl).trans h47) hq
theorem O_town {b : Nat} {A u : St} {z : Int} (hb : -(A 0 12) + 1 = (b : Int)) (hq : q_X12_town A z u) : OB b A u := by
  obtain ⟨A1, e1, A2, ha, nn, hq⟩ := (hq.1 : tr_r_X12_town A z u)
  rw [hb, Int.toNat_natCast] at e1
  have b1 : ∀ j, bnk j = 1 → b / bnk j = b := fun j h => by rw [h]; exact Nat.div_one b
  have g1 : OB b A A1 := by
    rw [e1]
    exact (OB.st (OB.st (OB.st (OB.st (OB.st (OB.st (OB.st (OB.st OB.rf.s0.s0.s0.s0.s0.s0 (b1 2 rfl)) (b1 4 rfl)) (b1 11 rfl)) (b1 16 rfl)) (b1 19 rfl)) (b1 22 rfl)) (b1 25 rfl)) (b1 29 rfl)).s0
  have e47 : A1 0 47 = (b : Int) := by rw [e1]; rfl
  exact O_townL nn 0 A2 (g1.cl ha.2.2.1) ((ha.2.2.1.2 47 rfl).trans e47) hq
theorem town2_k {A0 B u : St} {z i : Int} (h : 1 ≤ B 0 8) (hq : d_X12_town_2 i A0 B z u) : u 0 12 = B 0 12 ∧ u 0 75 = B 0 75 := by
  rcases (hq : tr_d_X12_town_2 i A0 B z u) with ⟨c, _⟩ | ⟨_, A28, e, z29, A30, hr, _, hu⟩
  · omega
  · rw [hu, hr.2.2.1.2 12 rfl, hr.2.2.1.2 75 rfl, e]
    exact ⟨rfl, rfl⟩
theorem town1_k {A0 B u : St} {z i : Int} {nn : Nat} (h : 1 ≤ B 0 8) (hq : d_X12_town_1 A0 z u nn i B) : u 0 12 = B 0 12 ∧ u 0 75 = B 0 75 := by
  cases nn with
  | zero => exact hq.elim
  | succ nn =>
    obtain ⟨_, _, hq⟩ := (hq : tr_d_X12_town_1 A0 z u (fun z5 A7 => d_X12_town_1 A0 z u nn z5 A7) i B)
    rcases hq with ⟨_, hq⟩ | ⟨c, _⟩
    · exact town2_k h hq
    · omega
theorem M_townF {f : Nat → Int} {N b : Nat} {A0 u : St} {z : Int} (hz : z = -1) : ∀ (nn i : Nat) (A T : St) (p : Nat), MS f N b p A → MR b A T → T 19 2 ≤ (p : Int) → i ≤ p → (A 0 12 = A0 0 12 ∧ A 0 75 = A0 0 75) → d_X12_town_1 A0 z u nn (i : Int) A → u 0 12 = A0 0 12 ∧ u 0 75 = A0 0 75 := by
  intro nn
  induction nn with
  | zero => intro i A T p _ _ _ _ _ hq; exact hq.elim
  | succ nn ih =>
    intro i A T p h hR hT hip hk hq
    have N16 : N ≤ 1600 := h.1.2.1
    have hpN := h.le
    obtain ⟨hI, _, hq⟩ := (hq : tr_d_X12_town_1 A0 z u (fun z5 A7 => d_X12_town_1 A0 z u nn z5 A7) i A)
    rcases hq with ⟨c, _⟩ | ⟨_, hq⟩
    · exact absurd h.ns c
    · rcases hq with ⟨c0, hq⟩ | ⟨c0, A19, hst, z24, hz24, hq⟩
      · rcases (hq : tr_d_X12_town_2 (i : Int) A0 A z u) with ⟨_, A27, _, hz2, _⟩ | ⟨c, _⟩
        · omega
        · exact absurd (Int.le_of_eq h.ns) c
      · have e24 : z24 = ((i + 1 : Nat) : Int) := by
          rw [hz24]
          exact oWrap_id ⟨by omega, by omega⟩
        have hk2 : A19 0 12 = A0 0 12 ∧ A19 0 75 = A0 0 75 := ⟨(hst.2.2.1.2 12 rfl).trans hk.1, (hst.2.2.1.2 75 rfl).trans hk.2⟩
        rcases M_statement hI h hR hT hst with ⟨_, a, sa, mr, ms, cd, pa⟩ | ⟨f1, _⟩
        · rw [e24] at hq
          exact ih (i + 1) A19 a.1 a.2 ms mr cd (by omega) hk2 hq
        · have := town1_k f1 hq
          exact ⟨this.1.trans hk2.1, this.2.trans hk2.2⟩
theorem M_townK {f : Nat → Int} {N b : Nat} {A u : St} {z : Int} (hN : A 0 1 = (N : Int)) (h16 : N ≤ 1600) (hf : ∀ k, k < N → f k = A 1 k) (hb : -(A 0 12) + 1 = (b : Int)) (hb1 : b ≤ 1) (hz : z = -1) (hq : q_X12_town A z u) : u 0 12 = A 0 12 ∧ u 0 75 = A 0 75 := by
  obtain ⟨A1, e1, A2, ha, nn, hq⟩ := (hq.1 : tr_r_X12_town A z u)
  rw [hb, Int.toNat_natCast] at e1
  have hG : MG f N b 0 A1 := by
    rw [e1]
    exact ⟨⟨hN, h16, hf⟩, rfl, hb1, rfl, by omega, rfl⟩
  have g0 : A2 0 12 = A 0 12 ∧ A2 0 75 = A 0 75 := by
    rw [ha.2.2.1.2 12 rfl, ha.2.2.1.2 75 rfl, e1]
    exact ⟨rfl, rfl⟩
  obtain ⟨mo, q⟩ := hG.ahead ha
  rcases mo with ⟨_, f1⟩ | ⟨_, ms⟩
  · have := town1_k f1 hq
    exact ⟨this.1.trans g0.1, this.2.trans g0.2⟩
  · have mr : MR b A2 (sClear A) := by
      refine MR.rq (MR_0 ?_) q
      rw [e1]
      exact ⟨up_same _ _ _, up_same _ _ _, up_same _ _ _, up_same _ _ _, up_same _ _ _, up_same _ _ _, up_same _ _ _, up_same _ _ _⟩
    exact M_townF hz nn 0 A2 (sClear A) 0 ms mr (by decide : (0 : Int) ≤ 0) (Nat.le_refl 0) g0 hq
/-- the numbers of trials -/
def TRn (B A : St) : Prop := B 22 4 = A 0 75
theorem town_ps {z1 z2 : Int} {B A u1 u2 : St} (hIK : IK B) (hIM : IM A) (he : B 1 1 = A 0 1) (hT : TB B A) (hO : OW B) (hp : PSs B A) (hr : TRn B A) (h1 : r_X11_town B z1 u1) (h2 : q_X12_town A z2 u2) : PSs u1 u2 ∧ TRn u1 u2 := by
  have r01 : (0 : Int) ≤ A 0 1 ∧ A 0 1 ≤ 1600 := hIM 0 1
  have r12 : (0 : Int) ≤ A 0 12 ∧ A 0 12 ≤ 1 := hIM 0 12
  have r10 : (0 : Int) ≤ B 0 10 ∧ B 0 10 ≤ 1 := hIK 0 10
  have r9 : (0 : Int) ≤ B 0 9 ∧ B 0 9 ≤ 1 := hIK 0 9
  have s1 := hp.1
  obtain ⟨N, hN⟩ : ∃ N : Nat, A 0 1 = (N : Int) := ⟨(A 0 1).toNat, by omega⟩
  obtain ⟨b, hb⟩ : ∃ b : Nat, -(A 0 12) + 1 = (b : Int) := ⟨(-(A 0 12) + 1).toNat, by omega⟩
  obtain ⟨t2, ht2, z3, A4, hrd, A7, e7, h1⟩ := (h1 : tr_r_X11_town B z1 u1)
  have hta : isT t2 := by
    rcases (show B 0 10 = 0 ∨ B 0 10 = 1 by omega) with e | e
    · rw [e] at ht2; exact Or.inl ht2
    · rw [e] at ht2; exact Or.inr ht2
  have hE : EK (fun k => B 2 k % 256) N B := ⟨hIK, by rw [he, hN], by omega, fun k _ => rfl, hO⟩
  have cw := C_readTown hta hE hrd
  have mx := M_town (f := fun k => B 2 k % 256) (N := N) (b := b) (T := tw t2 B) hN (by omega) (fun k hk => (hT k (by omega)).symm) hb (by omega) h2
  have ob := O_town hb h2
  unfold CW at cw
  rcases mx with ⟨a, ha, hz, hm, h12⟩ | ⟨ha, hz⟩
  · rw [ha] at cw
    obtain ⟨cz, _, ct⟩ := cw
    rcases h1 with ⟨_, t12, _, A15, e15, A16, e16, A17, e17, _, hu⟩ | ⟨c, _⟩
    · refine ⟨⟨?_, ?_⟩, ?_⟩
      · rw [hu, e17, e16, e15]
        show B 0 10 + B 0 9 = 1
        omega
      · have w9 : u1 0 9 = B 0 10 := by rw [hu, e17, e16, e15]; rfl
        rw [h12, Int.toNat_natCast, w9, ← ht2]
        have et : tw t2 u1 = a.2 := by
          rw [← ct]
          funext j k
          show u1 (t2 + j) k = A4 (t2 + j) k
          have l51 : 51 ≤ t2 := by rcases hta with e | e <;> omega
          rw [hu, e17, stA_ne _ _ (by omega), e16, stA_ne _ _ (by omega), e15, stA_ne _ _ (by omega), e7, stA_ne _ _ (by omega)]
        rw [et]
        exact hm.s
      · have u22 : u1 22 4 = 0 := by rw [hu, e17]; rfl
        unfold TRn
        rw [u22]
        rcases (h2.1 : tr_r_X12_town A z2 u2) with ⟨_, _, _, _, nn, hq⟩
        have hnn : ∀ (nn : Nat) (i : Int) (C : St), 0 ≤ z2 → d_X12_town_1 A z2 u2 nn i C → (0 : Int) = u2 0 75 := by
          intro nn
          induction nn with
          | zero => intro i C _ hq; exact hq.elim
          | succ nn ih =>
            intro i C hz0 hq
            have t2' : d_X12_town_2 i A C z2 u2 → (0 : Int) = u2 0 75 := by
              intro hq
              rcases (hq : tr_d_X12_town_2 i A C z2 u2) with ⟨_, A27, e, _, hu⟩ | ⟨_, A28, _, z29, A30, hf, hz9, _⟩
              · rw [hu, e]; rfl
              · have := hf.2.2.2
                omega
            obtain ⟨_, _, hq⟩ := (hq : tr_d_X12_town_1 A z2 u2 (fun z5 A7 => d_X12_town_1 A z2 u2 nn z5 A7) i C)
            rcases hq with ⟨_, hq⟩ | ⟨_, hq⟩
            · exact t2' hq
            · rcases hq with ⟨_, hq⟩ | ⟨_, A19, _, z24, _, hq⟩
              · exact t2' hq
              · exact ih _ A19 hz0 hq
        exact hnn nn _ _ (by rw [hz]; omega) hq
    · rw [cz] at c
      omega
  · rw [ha] at cw
    have cz : z3 = -1 := cw
    rcases h1 with ⟨c, _⟩ | ⟨_, z22, A23, hf, _, hu⟩
    · exact absurd cz c
    · have htt : TT t2 (51 + 31 * (B 0 9).toNat) := by
        unfold TT
        rcases (show B 0 10 = 0 ∨ B 0 10 = 1 by omega) with e | e
        · have e9 : B 0 9 = 1 := by omega
          rw [e] at ht2
          rw [e9]
          exact Or.inl ⟨ht2, rfl⟩
        · have e9 : B 0 9 = 0 := by omega
          rw [e] at ht2
          rw [e9]
          exact Or.inr ⟨ht2, rfl⟩
      have htb : isT (51 + 31 * (B 0 9).toNat) := by
        rcases (show B 0 9 = 0 ∨ B 0 9 = 1 by omega) with e | e
        · rw [e]; exact Or.inl rfl
        · rw [e]; exact Or.inr rfl
      have ot := ot_r_X5_readTown htb htt OT.rf hrd.1
      have f9 : u1 0 9 = B 0 9 := by
        rw [hu, hf.2.2.1 0 9 rfl rfl, e7]
        exact hrd.2.2.1 0 9 rfl rfl
      have f10 : u1 0 10 = B 0 10 := by
        rw [hu, hf.2.2.1 0 10 rfl rfl, e7]
        exact hrd.2.2.1 0 10 rfl rfl
      have f22 : u1 22 4 = B 22 4 := by
        rw [hu, hf.2.2.1 22 4 rfl rfl, e7]
        exact hrd.2.2.1 22 4 rfl rfl
      have m12 : u2 0 12 = A 0 12 ∧ u2 0 75 = A 0 75 := M_townK (f := fun k => B 2 k % 256) hN (by omega) (fun k hk => (hT k (by omega)).symm) hb (by omega) hz h2
      refine ⟨⟨by rw [f9, f10]; exact s1, ?_⟩, ?_⟩
      · rw [m12.1, f9]
        have ms := MRs.ob hIM hp.2 ob (by omega)
        refine MRs.cg ms (fun j _ => rfl) (fun j hj => ?_) ?_
        · have j31 : j < 31 := by
            have := List.contains_iff_mem.mp hj
            simp [statT] at this
            omega
          funext k
          show u1 (51 + 31 * (B 0 9).toNat + j) k = B (51 + 31 * (B 0 9).toNat + j) k
          have l51 : 51 ≤ 51 + 31 * (B 0 9).toNat + j := by omega
          rw [hu, hf.2.2.1 _ k ?_ ?_, e7, stA_ne _ _ (by omega), ot j j31]
          · have : ([50] : List Nat).contains (51 + 31 * (B 0 9).toNat + j) = false := by
              cases hc : ([50] : List Nat).contains (51 + 31 * (B 0 9).toNat + j) with
              | false => rfl
              | true =>
                have := List.contains_iff_mem.mp hc
                simp at this
                omega
            exact this
          · rfl
        · show u1 (51 + 31 * (B 0 9).toNat + 0) 15 = B (51 + 31 * (B 0 9).toNat + 0) 15
          have o0 := ot 0 (by decide)
          rw [hu, hf.2.2.1 _ 15 ?_ rfl, e7, stA_ne _ _ (by omega), o0]
          cases hc : ([50] : List Nat).contains (51 + 31 * (B 0 9).toNat + 0) with
          | false => rfl
          | true =>
            have := List.contains_iff_mem.mp hc
            simp at this
            omega
      · unfold TRn
        rw [f22, m12.2]
        exact hr
theorem unsay_eq {z1 z2 : Int} {B A u1 u2 : St} (hr : TRn B A) (h1 : r_X11_unsay B z1 u1) (h2 : r_X12_unsay A z2 u2) : z1 = z2 ∧ TRn u1 u2 := by
  have hr : B 22 4 = A 0 75 := hr
  rcases (h1 : tr_r_X11_unsay B z1 u1) with ⟨c, A3, e3, hz, hu⟩ | ⟨c, z5, A6, hf, hz, hu⟩
  · rcases (h2 : tr_r_X12_unsay A z2 u2) with ⟨_, hz2, hu2⟩ | ⟨c2, _⟩
    · refine ⟨by rw [hz, hz2, hr], ?_⟩
      unfold TRn
      rw [hu, e3, hu2]
      show B 22 4 - 1 = A 0 75 - 1
      rw [hr]
    · exact absurd (hr.trans c2) c
  · rcases (h2 : tr_r_X12_unsay A z2 u2) with ⟨c2, _⟩ | ⟨_, z6, A7, hf2, hz2, hu2⟩
    · exact absurd (hr.symm.trans c) c2
    · refine ⟨by rw [hz, hz2, hf.2.2.2, hf2.2.2.2], ?_⟩
      unfold TRn
      rw [hu, hu2, hf.2.2.1 22 4 rfl rfl, hf2.2.2.1.2 75 rfl]
      exact hr
theorem trial_tr {x1 x2 z1 z2 : Int} {B A u1 u2 : St} (hIK : IK B) (hIM : IM A) (hp : PSs B A) (hr : TRn B A) (h1 : r_X11_trial x1 x2 B z1 u1) (h2 : r_X12_trial x1 x2 A z2 u2) : TRn u1 u2 := by
  have hr : B 22 4 = A 0 75 := hr
  have r75 : (0 : Int) ≤ A 0 75 ∧ A 0 75 ≤ 20 := hIM 0 75
  obtain ⟨t2, ht2, z3, hi, h1⟩ := (h1 : tr_r_X11_trial x1 x2 B z1 u1)
  obtain ⟨z4, hd, h2⟩ := (h2 : tr_r_X12_trial x1 x2 A z2 u2)
  have cnt : A 4 (A 0 12).toNat = B (t2 + 1) 1 := by
    rw [ht2]
    exact hp.2.1.2.1.1
  have r4 : A 4 (A 0 12).toNat ≤ 10 := (hIM 4 _).2
  have dI := hd.2.2
  have d01 := hd.2.1
  have kI : (z3 = 0 ∧ ¬ (0 ≤ x1 ∧ x1 < B (t2 + 1) 1)) ∨ (z3 = 1 ∧ 0 ≤ x1 ∧ x1 < B (t2 + 1) 1) := by
    rcases (hi.1 : tr_r_X9_isThere_1_1 t2 x1 B z3) with ⟨c, hz⟩ | ⟨c, z5, hz5, h⟩
    · exact Or.inl ⟨hz, fun g => by omega⟩
    · have hz5 : z5 = B (t2 + 1) 1 := hz5
      rcases h with ⟨c2, hz⟩ | ⟨c2, hz⟩
      · exact Or.inl ⟨hz, fun g => by omega⟩
      · exact Or.inr ⟨hz, by omega, by omega⟩
  have same : z3 = 0 ↔ z4 = 0 := by
    rw [cnt] at dI r4
    constructor
    · intro e
      rcases kI with ⟨_, g⟩ | ⟨g, _⟩
      · by_cases e4 : z4 = 1
        · have := dI.mp e4
          exact absurd ⟨this.1, this.2.1⟩ g
        · omega
      · omega
    · intro e
      rcases kI with ⟨g, _⟩ | ⟨_, g⟩
      · exact g
      · have := dI.mpr ⟨g.1, g.2, r4⟩
        omega
  unfold TRn
  rcases h1 with ⟨c, z7, A8, hf, _, hu⟩ | ⟨c, z11, A12, had, h1⟩
  · rcases h2 with ⟨_, z5, A6, hf2, _, hu2⟩ | ⟨c2, _⟩
    · rw [hu, hu2, hf.2.2.1 22 4 rfl rfl, hf2.2.2.1.2 75 rfl]
      exact hr
    · exact absurd (same.mp c) c2
  · rcases h2 with ⟨c2, _⟩ | ⟨_, h2⟩
    · exact absurd (same.mpr c2) c
    · rcases (had.1 : tr_r_X1_add x1 x2 B z11 A12) with ⟨c3, A4, _, A6, _, A8, e8, hz, e12⟩ | ⟨c3, hz, e12⟩
      · rcases h1 with ⟨_, A17, hs, _, hu⟩ | ⟨c4, _⟩
        · rcases h2 with ⟨_, A10, e10, z11b, A12b, hfi, _, hu2⟩ | ⟨c5, _⟩
          · rw [hu, hu2, hs.2.2.1 22 4 rfl rfl, hfi.2.2.1.2 75 rfl, e12, e8, e10]
            show B 22 4 + 1 = A 0 75 + 1
            rw [hr]
          · omega
        · rw [hz] at c4
          exact absurd c4 (by decide)
      · rcases h1 with ⟨c4, _⟩ | ⟨_, z21, A22, hf, _, hu⟩
        · exact absurd hz c4
        · rcases h2 with ⟨c5, _⟩ | ⟨_, z15, A16, hf2, _, hu2⟩
          · omega
          · rw [hu, hu2, hf.2.2.1 22 4 rfl rfl, hf2.2.2.1.2 75 rfl, e12]
            exact hr
/-! A key that was found: both tell the same rows. -/
theorem oDiv_nat {a b : Int} (ha : 0 ≤ a ∧ a ≤ 2147483647) (hb : 0 < b ∧ b ≤ 2147483647) : oDiv a b = a / b := by
  have ne : iI b ≠ -1 := by
    intro e
    have e2 := congrArg Int32.toInt e
    rw [iI_toInt ⟨by omega, by omega⟩] at e2
    have m1 : (-1 : Int32).toInt = -1 := by decide +kernel
    omega
  unfold oDiv
  rw [Int32.toInt_div_of_ne_right _ _ ne, iI_toInt ⟨by omega, by omega⟩, iI_toInt ⟨by omega, by omega⟩, Int.tdiv_eq_ediv_of_nonneg ha.1]
theorem oRem_nat {a b : Int} (ha : 0 ≤ a ∧ a ≤ 2147483647) (hb : 0 < b ∧ b ≤ 2147483647) : oRem a b = a % b := by
  have d : iI a / iI b = iI (a / b) := by
    rw [← oDiv_nat ha hb]
    exact (iI_of _).symm
  have r : a - a / b * b = a % b := by rw [Int.emod_def, Int.mul_comm]
  have r0 := Int.emod_nonneg a (show b ≠ 0 by omega)
  have r1 := Int.emod_lt_of_pos a hb.1
  unfold oRem
  rw [d, iI_mul, iI_sub, r, iI_toInt ⟨by omega, by omega⟩]
theorem oMul_id {a b : Int} (h : R32 (a * b)) : oMul a b = a * b := by
  unfold oMul
  rw [iI_mul, iI_toInt h]
def dg (D : Nat) : Nat → Nat → List Nat
  | 0, _ => []
  | m + 1, v => (v % D) :: dg D m (v / D)
def gd (L : Nat) : Nat → List Nat → Bool
  | _, [] => true
  | U, x :: r => (L.testBit x && !U.testBit x) && gd L (U ||| 2 ^ x) r
def rf (l : List Nat) (j : Nat) : Int := ((l.getD (l.length - 1 - j) 0 : Nat) : Int)
/-- how many are left behind all trials; -1 where the row does not agree -/
def lf (f td to : Nat → Int) : Nat → Nat → Int → Int
  | 0, _, w => w
  | n + 1, i, w => if 0 < w ∧ f (w - 1).toNat = td i then (if to i = 0 then -1 else lf f td to n (i + 1) (w - 1)) else (if to i = 0 then lf f td to n (i + 1) w else -1)
/-! What a test's codes are worth: both rows of codes, run on a stack. -/
def bdI (x : Int) : Int := if 1000000 < x then 1000000 else if x < -1000000 then -1000000 else x
def jn (w a b : Int) : Int :=
  if w = -7 then (if 0 < a + b then 1 else 0)
  else if w = -8 then a * b
  else if w = -9 then (if a < b then 1 else 0)
  else if w = -10 then (if b < a then 1 else 0)
  else if w = -11 then (if a = b then 1 else 0)
  else if w = -12 then bdI (a + b)
  else if w = -13 then bdI (a - b)
  else if w = -14 then bdI (a * b)
  else if w = -15 then (if b = 0 then 0 else a.fdiv b)
  else if w = -16 then (if b = 0 then 0 else a.fmod b)
  else if w = -17 then (if a < b then a else b)
  else (if b < a then a else b)
def vlE (E : Nat → Int) (w : Int) : Int := if w = -1 then E 1 else if w = -2 then E 2 else if w = -3 then E 3 else if w = -4 then E 4 else if w = -5 then 1 else w
def okV (w a b : Int) : Prop := (-1000000 ≤ a ∧ a ≤ 1000000) ∧ (-1000000 ≤ b ∧ b ≤ 1000000) ∧ (w = -7 ∨ w = -8 → (a = 0 ∨ a = 1) ∧ (b = 0 ∨ b = 1))
def okB (w a b : Int) : Bool := (decide (-1000000 ≤ a) && decide (a ≤ 1000000)) && (decide (-1000000 ≤ b) && decide (b ≤ 1000000)) && (!(decide (w = -7) || decide (w = -8)) || ((decide (a = 0) || decide (a = 1)) && (decide (b = 0) || decide (b = 1))))
theorem okB_iff {w a b : Int} : okB w a b = true ↔ okV w a b := by
  unfold okB okV
  simp only [Bool.and_eq_true, Bool.or_eq_true, Bool.not_eq_true', Bool.or_eq_false_iff, decide_eq_true_eq, decide_eq_false_iff_not]
  constructor
  · rintro ⟨⟨h1, h2⟩, h3⟩
    refine ⟨h1, h2, fun g => ?_⟩
    rcases h3 with h3 | h3
    · rcases g with g | g
      · exact absurd g h3.1
      · exact absurd g h3.2
    · exact h3
  · rintro ⟨h1, h2, h3⟩
    refine ⟨⟨h1, h2⟩, ?_⟩
    by_cases g : w = -7 ∨ w = -8
    · exact Or.inr (h3 g)
    · exact Or.inl ⟨fun e => g (Or.inl e), fun e => g (Or.inr e)⟩
def lfB (L n : Nat) (v : Int) : Bool := decide (n < L) && (decide (-1000000 ≤ v) && decide (v ≤ 1000000))
def step1 (L : Nat) (E : Nat → Int) (w : Int) (s : List Int) : Option (List Int) :=
  if -5 ≤ w then (bif lfB L s.length (vlE E w) then some (vlE E w :: s) else none)
  else if w = -6 then (match s with | x :: r => (bif decide (x = 0) || decide (x = 1) then some ((1 - x) :: r) else none) | [] => none)
  else (match s with | b :: a :: r => (bif okB w a b then some (jn w a b :: r) else none) | _ => none)
def run (L : Nat) (E : Nat → Int) : List Int → List Int → Option (List Int)
  | [], s => some s
  | w :: W, s => (step1 L E w s).bind (run L E W)
theorem run_app {L : Nat} {E : Nat → Int} : ∀ (W V s : List Int), run L E (W ++ V) s = (run L E W s).bind (run L E V) := by
  intro W
  induction W with
  | nil => intro V s; rfl
  | cons w W ih =>
    intro V s
    show (step1 L E w s).bind (run L E (W ++ V)) = ((step1 L E w s).bind (run L E W)).bind (run L E V)
    cases step1 L E w s with
    | none => rfl
    | some t => exact ih V t
def VN (v : Int) : Prop := -1000000 ≤ v ∧ v ≤ 1000000
def V1 (v : Int) : Prop := v = 0 ∨ v = 1
def EB (E : Nat → Int) : Prop := ∀ i, 0 ≤ E i ∧ E i ≤ 1000
/-- both rows of codes give one value more, the same one, with at most k places of the stack -/
def Sem (VB : Int → Prop) (k : Nat) (C R : List Int) : Prop := ∀ E, EB E → ∃ v, VB v ∧ ∀ (L : Nat) (s : List Int), s.length + k ≤ L → run L E C s = some (v :: s) ∧ run L E R s = some (v :: s)
theorem Sem.mono {VB : Int → Prop} {k k' : Nat} {C R : List Int} (h : Sem VB k C R) (hk : k ≤ k') : Sem VB k' C R := by
  intro E hE
  obtain ⟨v, hv, g⟩ := h E hE
  exact ⟨v, hv, fun L s hs => g L s (by omega)⟩
theorem Sem_leaf {w : Int} (h1 : -4 ≤ w) (h2 : w ≤ 9999) : Sem VN 1 [w] [w] := by
  intro E hE
  have e1 := hE 1
  have e2 := hE 2
  have e3 := hE 3
  have e4 := hE 4
  have vb : VN (vlE E w) := by
    unfold vlE VN
    by_cases c1 : w = -1
    · rw [if_pos c1]; omega
    · rw [if_neg c1]
      by_cases c2 : w = -2
      · rw [if_pos c2]; omega
      · rw [if_neg c2]
        by_cases c3 : w = -3
        · rw [if_pos c3]; omega
        · rw [if_neg c3]
          by_cases c4 : w = -4
          · rw [if_pos c4]; omega
          · rw [if_neg c4, if_neg (by omega)]; omega
  refine ⟨vlE E w, vb, fun L s hs => ?_⟩
  · have g : run L E [w] s = some (vlE E w :: s) := by
      show (step1 L E w s).bind (run L E []) = _
      have lb : lfB L s.length (vlE E w) = true := by
        unfold lfB
        simp only [Bool.and_eq_true, decide_eq_true_eq]
        exact ⟨by omega, vb⟩
      unfold step1
      rw [if_pos (by omega), lb]
      rfl
    exact ⟨g, g⟩
theorem Sem_all : Sem V1 1 [-5] [-5] := by
  intro E _
  refine ⟨1, Or.inr rfl, fun L s hs => ?_⟩
  have g : run L E [-5] s = some (1 :: s) := by
    show (step1 L E (-5) s).bind (run L E []) = _
    have lb : lfB L s.length (vlE E (-5)) = true := by
      unfold lfB
      simp only [Bool.and_eq_true, decide_eq_true_eq]
      exact ⟨by omega, (⟨by decide, by decide⟩ : (-1000000 : Int) ≤ 1 ∧ (1 : Int) ≤ 1000000)⟩
    unfold step1
    rw [if_pos (by decide), lb]
    rfl
  exact ⟨g, g⟩
theorem run_op {L : Nat} {E : Nat → Int} {w a b : Int} {s : List Int} (hw : w < -6) (ok : okV w a b) : run L E [w] (b :: a :: s) = some (jn w a b :: s) := by
  show (step1 L E w (b :: a :: s)).bind (run L E []) = _
  unfold step1
  rw [if_neg (by omega), if_neg (by omega)]
  show ((bif okB w a b then some (jn w a b :: s) else none).bind (run L E [])) = _
  rw [okB_iff.mpr ok]
  rfl
theorem Sem_bin {VA VB : Int → Prop} {k1 k2 k : Nat} {C1 R1 C2 R2 : List Int} {w : Int} (h1 : Sem VA k1 C1 R1) (h2 : Sem VA k2 C2 R2) (hw : w < -6) (hk : k1 ≤ k ∧ k2 + 1 ≤ k) (hv : ∀ a b, VA a → VA b → VB (jn w a b) ∧ okV w a b) : Sem VB k (C1 ++ C2 ++ [w]) (R1 ++ R2 ++ [w]) := by
  intro E hE
  obtain ⟨v1, b1, g1⟩ := h1 E hE
  obtain ⟨v2, b2, g2⟩ := h2 E hE
  refine ⟨jn w v1 v2, (hv v1 v2 b1 b2).1, fun L s hs => ?_⟩
  have a1 := g1 L s (by omega)
  have a2 := g2 L (v1 :: s) (by show s.length + 1 + k2 ≤ L; omega)
  constructor
  · rw [run_app, run_app, a1.1]
    show ((run L E C2 (v1 :: s)).bind (run L E [w])) = _
    rw [a2.1]
    exact run_op hw (hv v1 v2 b1 b2).2
  · rw [run_app, run_app, a1.2]
    show ((run L E R2 (v1 :: s)).bind (run L E [w])) = _
    rw [a2.2]
    exact run_op hw (hv v1 v2 b1 b2).2
theorem bdI_vn {x : Int} : VN (bdI x) := by
  unfold bdI VN
  split
  · omega
  · split <;> omega
theorem fdiv_vn {a b : Int} (ha : VN a) (_ : ¬ b = 0) : VN (a.fdiv b) := by
  have g := Int.natAbs_fdiv_le_natAbs a b
  obtain ⟨a1, a2⟩ := ha
  unfold VN
  omega
theorem fmod_vn {a b : Int} (hb : VN b) (nb : ¬ b = 0) : VN (a.fmod b) := by
  obtain ⟨b1, b2⟩ := hb
  unfold VN
  rcases Int.lt_or_gt_of_ne nb with g | g
  · have e := Int.fmod_eq_emod (a := a) (b := b)
    have r0 := Int.emod_nonneg a nb
    have r1 := Int.emod_lt_of_pos a (show 0 < -b by omega)
    rw [Int.emod_neg] at r1
    rw [e]
    split <;> omega
  · have r0 := Int.fmod_nonneg_of_pos a g
    have r1 := Int.fmod_lt_of_pos a g
    omega
theorem jn_vn {w a b : Int} (hw : -18 ≤ w ∧ w ≤ -12) (ha : VN a) (hb : VN b) : VN (jn w a b) ∧ okV w a b := by
  refine ⟨?_, ha, hb, fun g => by omega⟩
  unfold jn
  rw [if_neg (by omega), if_neg (by omega), if_neg (by omega), if_neg (by omega), if_neg (by omega)]
  by_cases c1 : w = -12
  · rw [if_pos c1]; exact bdI_vn
  · rw [if_neg c1]
    by_cases c2 : w = -13
    · rw [if_pos c2]; exact bdI_vn
    · rw [if_neg c2]
      by_cases c3 : w = -14
      · rw [if_pos c3]; exact bdI_vn
      · rw [if_neg c3]
        by_cases c4 : w = -15
        · rw [if_pos c4]
          split
          · exact ⟨by decide, by decide⟩
          · rename_i nb
            obtain ⟨a1, a2⟩ := ha
            obtain ⟨b1, b2⟩ := hb
            refine fdiv_vn ⟨a1, a2⟩ nb
        · rw [if_neg c4]
          by_cases c5 : w = -16
          · rw [if_pos c5]
            split
            · exact ⟨by decide, by decide⟩
            · rename_i nb
              exact fmod_vn hb nb
          · rw [if_neg c5]
            by_cases c6 : w = -17
            · rw [if_pos c6]
              split
              · exact ha
              · exact hb
            · rw [if_neg c6]
              split
              · exact ha
              · exact hb
theorem jn_v1c {w a b : Int} (hw : w = -9 ∨ w = -10 ∨ w = -11) (ha : VN a) (hb : VN b) : V1 (jn w a b) ∧ okV w a b := by
  refine ⟨?_, ha, hb, fun g => by omega⟩
  unfold jn V1
  rcases hw with rfl | rfl | rfl
  · rw [if_neg (by decide), if_neg (by decide), if_pos rfl]
    split
    · exact Or.inr rfl
    · exact Or.inl rfl
  · rw [if_neg (by decide), if_neg (by decide), if_neg (by decide), if_pos rfl]
    split
    · exact Or.inr rfl
    · exact Or.inl rfl
  · rw [if_neg (by decide), if_neg (by decide), if_neg (by decide), if_neg (by decide), if_pos rfl]
    split
    · exact Or.inr rfl
    · exact Or.inl rfl
theorem jn_v1l {w a b : Int} (hw : w = -7 ∨ w = -8) (ha : V1 a) (hb : V1 b) : V1 (jn w a b) ∧ okV w a b := by
  have bb : ∀ x : Int, V1 x → -1000000 ≤ x ∧ x ≤ 1000000 := by
    intro x hx
    rcases hx with rfl | rfl <;> decide
  refine ⟨?_, bb a ha, bb b hb, fun _ => ⟨ha, hb⟩⟩
  rcases hw with rfl | rfl
  · rcases ha with rfl | rfl <;> rcases hb with rfl | rfl
    · exact Or.inl (by decide)
    · exact Or.inr (by decide)
    · exact Or.inr (by decide)
    · exact Or.inr (by decide)
  · rcases ha with rfl | rfl <;> rcases hb with rfl | rfl
    · exact Or.inl (by decide)
    · exact Or.inl (by decide)
    · exact Or.inl (by decide)
    · exact Or.inr (by decide)
theorem run_not {L : Nat} {E : Nat → Int} {x : Int} {s : List Int} (hx : V1 x) : run L E [-6] (x :: s) = some ((1 - x) :: s) := by
  rcases hx with rfl | rfl <;> rfl
theorem nots_run {L : Nat} {E : Nat → Int} {s : List Int} : ∀ (j : Nat) (x : Int), V1 x → run L E (List.replicate j (-6)) (x :: s) = some ((if j % 2 = 0 then x else 1 - x) :: s) := by
  intro j
  induction j with
  | zero => intro x _; rfl
  | succ j ih =>
    intro x hx
    have e : run L E (List.replicate (j + 1) (-6)) (x :: s) = run L E (List.replicate j (-6)) ((1 - x) :: s) := by
      rcases hx with rfl | rfl <;> rfl
    have h1 : V1 (1 - x) := by
      rcases hx with rfl | rfl
      · exact Or.inr rfl
      · exact Or.inl rfl
    rw [e, ih (1 - x) h1]
    by_cases c : j % 2 = 0
    · rw [if_pos c, if_neg (by omega)]
    · rw [if_neg c, if_pos (by omega), show 1 - (1 - x) = x by omega]
/-- nots: the class tells at most one of them -/
theorem Sem_nots {k : Nat} {C R N1 : List Int} (h : Sem V1 k C R) (j : Nat) (hN : N1 = if j % 2 = 0 then [] else [-6]) : Sem V1 k (C ++ N1) (R ++ List.replicate j (-6)) := by
  intro E hE
  obtain ⟨v, hv, g⟩ := h E hE
  refine ⟨if j % 2 = 0 then v else 1 - v, ?_, fun L s hs => ?_⟩
  · split
    · exact hv
    · rcases hv with rfl | rfl
      · exact Or.inr (by decide)
      · exact Or.inl (by decide)
  · have a := g L s hs
    constructor
    · rw [run_app, a.1, hN]
      by_cases c : j % 2 = 0
      · rw [if_pos c, if_pos c]; rfl
      · rw [if_neg c, if_neg c]; exact run_not hv
    · rw [run_app, a.2]
      exact nots_run j v hv
/-! The reference's codes: what a turn writes. -/
def sc (s : Int) : Int := if s = 22 then -6 else if s = 21 then -7 else if s = 20 then -8 else if s = 17 then -9 else if s = 18 then -10 else if s = 19 then -11 else if s = 9 then -5 else if s < 5 then -s else -2 - s
def ENC (s v w : Int) : Prop := (s = 0 ∧ w = v ∧ 0 ≤ v ∧ v ≤ 9999) ∨ (¬ s = 0 ∧ w = sc s ∧ (1 ≤ s ∧ s ≤ 22) ∧ (s ≤ 4 ∨ 9 ≤ s))
def CSm (A v : St) : Prop := v 33 = A 33 ∧ v 34 = A 34 ∧ v 38 = A 38 ∧ v 39 = A 39 ∧ v 40 = A 40 ∧ v 0 46 = A 0 46 ∧ v 0 56 = A 0 56
theorem CSm.rf {A : St} : CSm A A := ⟨rfl, rfl, rfl, rfl, rfl, rfl, rfl⟩
theorem CSm.trans {A B C : St} (h : CSm A B) (g : CSm B C) : CSm A C := ⟨g.1.trans h.1, g.2.1.trans h.2.1, g.2.2.1.trans h.2.2.1, g.2.2.2.1.trans h.2.2.2.1, g.2.2.2.2.1.trans h.2.2.2.2.1, g.2.2.2.2.2.1.trans h.2.2.2.2.2.1, g.2.2.2.2.2.2.trans h.2.2.2.2.2.2⟩
theorem ahead_cs {A v : St} (h : q_X12_ahead A v) : CSm A v := ⟨h.2.2.1.1 33 (by decide) rfl, h.2.2.1.1 34 (by decide) rfl, h.2.2.1.1 38 (by decide) rfl, h.2.2.1.1 39 (by decide) rfl, h.2.2.1.1 40 (by decide) rfl, h.2.2.1.2 46 rfl, h.2.2.1.2 56 rfl⟩
/-- the codes W are written behind those that were there -/
def EW (b : Nat) (A A' : St) (W : List Int) : Prop := A' 0 46 = A 0 46 + (W.length : Int) ∧ (∀ k : Nat, (k : Int) < 1600 * (b : Int) + A 0 46 → A' 33 k = A 33 k ∧ A' 34 k = A 34 k) ∧ ∀ i, i < W.length → ENC (A' 33 (1600 * b + (A 0 46).toNat + i)) (A' 34 (1600 * b + (A 0 46).toNat + i)) (W.getD i 0)
theorem EW.rf {b : Nat} {A : St} : EW b A A [] := ⟨by show A 0 46 = A 0 46 + ((0 : Nat) : Int); omega, fun _ _ => ⟨rfl, rfl⟩, fun i hi => absurd hi (Nat.not_lt_zero i)⟩
theorem EW.cs {b : Nat} {A B C : St} {W : List Int} (h : EW b A B W) (g : CSm B C) : EW b A C W := by
  obtain ⟨g1, g2, _, _, _, g6, _⟩ := g
  unfold EW
  rw [g1, g2, g6]
  exact h
theorem getD_app {V : List Int} {i : Nat} : ∀ W : List Int, (W ++ V).getD i 0 = if i < W.length then W.getD i 0 else V.getD (i - W.length) 0 := by
  intro W
  induction W generalizing i with
  | nil => rw [if_neg (show ¬ i < ([] : List Int).length from Nat.not_lt_zero i)]; rfl
  | cons w W ih =>
    cases i with
    | zero => rw [if_pos (show 0 < (w :: W).length from Nat.succ_pos _)]; rfl
    | succ i =>
      show (W ++ V).getD i 0 = if i + 1 < W.length + 1 then W.getD i 0 else V.getD (i + 1 - (W.length + 1)) 0
      rw [ih]
      by_cases c : i < W.length
      · rw [if_pos c, if_pos (by omega)]
      · rw [if_neg c, if_neg (by omega), show i + 1 - (W.length + 1) = i - W.length by omega]
theorem EW.trans {b : Nat} {A B C : St} {W V : List Int} (h0 : 0 ≤ A 0 46) (h : EW b A B W) (g : EW b B C V) : EW b A C (W ++ V) := by
  obtain ⟨h1, h2, h3⟩ := h
  obtain ⟨g1, g2, g3⟩ := g
  refine ⟨by rw [List.length_append]; omega, fun k hk => ?_, fun i hi => ?_⟩
  · have a := h2 k hk
    have c := g2 k (by omega)
    exact ⟨c.1.trans a.1, c.2.trans a.2⟩
  · rw [List.length_append] at hi
    rw [getD_app]
    by_cases c : i < W.length
    · rw [if_pos c]
      have e := g2 (1600 * b + (A 0 46).toNat + i) (by omega)
      rw [e.1, e.2]
      exact h3 i c
    · rw [if_neg c]
      have e := g3 (i - W.length) (by omega)
      rw [show 1600 * b + (B 0 46).toNat + (i - W.length) = 1600 * b + (A 0 46).toNat + i by omega] at e
      exact e
theorem EW.nn {b : Nat} {A B : St} {W : List Int} (h0 : 0 ≤ A 0 46) (h : EW b A B W) : 0 ≤ B 0 46 := by
  have := h.1
  omega
theorem add_ew {b : Nat} {A u : St} {s v w : Int} (hb : A 0 47 = (b : Int)) (h0 : 0 ≤ A 0 46) (he : ENC s v w) (h : q_X12_add s v A u) : EW b A u [w] ∧ u 38 = A 38 ∧ u 39 = A 39 ∧ u 40 = A 40 ∧ u 0 56 = A 0 56 ∧ u 0 47 = A 0 47 := by
  obtain ⟨A1, e1, e2⟩ := (h.1 : tr_r_X12_add s v A u)
  rw [hb, show (1600 * (b : Int) + A 0 46).toNat = 1600 * b + (A 0 46).toNat by omega] at e1
  rw [e2, e1]
  refine ⟨⟨rfl, fun k hk => ?_, fun i hi => ?_⟩, rfl, rfl, rfl, rfl, rfl⟩
  · show up (A 33) _ s k = A 33 k ∧ up (A 34) _ v k = A 34 k
    rw [up_ne _ _ (by omega), up_ne _ _ (by omega)]
    exact ⟨rfl, rfl⟩
  · have i0 : i = 0 := by
      have : i < 1 := hi
      omega
    subst i0
    show ENC (up (A 33) _ s (1600 * b + (A 0 46).toNat)) (up (A 34) _ v (1600 * b + (A 0 46).toNat)) w
    rw [up_same, up_same]
    exact he
/-- operations held back, the top one first, from m on -/
def PD (m : Nat) (g : Nat → Int) : List Int → Prop
  | [] => True
  | x :: P => g (m + P.length) = x ∧ PD m g P
theorem PD.cg {m : Nat} {g h : Nat → Int} : ∀ P : List Int, (∀ i, m ≤ i → i < m + P.length → h i = g i) → PD m g P → PD m h P := by
  intro P
  induction P with
  | nil => intro _ _; exact True.intro
  | cons x P ih =>
    intro e p
    exact ⟨(e _ (by omega) (by show m + P.length < m + (P.length + 1); omega)).trans p.1, ih (fun i h1 h2 => e i h1 (by show i < m + (P.length + 1); omega)) p.2⟩
theorem PD.snoc {m : Nat} {g : Nat → Int} {x : Int} : ∀ P : List Int, PD (m + 1) g P → g m = x → PD m g (P ++ [x]) := by
  intro P
  induction P with
  | nil => intro _ h; exact ⟨h, True.intro⟩
  | cons y P ih =>
    intro p h
    refine ⟨?_, ih p.2 h⟩
    show g (m + (P ++ [x]).length) = y
    rw [List.length_append, show m + (P.length + [x].length) = m + 1 + P.length by show m + (P.length + 1) = m + 1 + P.length; omega]
    exact p.1
def RG (lo : Int) (P : List Int) : Prop := ∀ x ∈ P, lo ≤ rk x ∧ 10 ≤ x ∧ x ≤ 22
theorem RG.mono {lo lo' : Int} {P : List Int} (h : RG lo P) (g : lo' ≤ lo) : RG lo' P := fun x hx => ⟨Int.le_trans g (h x hx).1, (h x hx).2⟩
theorem RG.app {lo : Int} {P Q : List Int} (h : RG lo P) (g : RG lo Q) : RG lo (P ++ Q) := fun x hx => (List.mem_append.mp hx).elim (h x) (g x)
theorem RG.one {lo x : Int} (h : lo ≤ rk x ∧ 10 ≤ x ∧ x ≤ 22) : RG lo [x] := fun y hy => by rw [List.mem_singleton.mp hy]; exact h
theorem enc_op {x : Int} (h : 10 ≤ x ∧ x ≤ 22) : ENC x 0 (sc x) := Or.inr ⟨by omega, rfl, ⟨by omega, h.2⟩, Or.inr (by omega)⟩
/-- what is held back from m on goes out, and no more -/
theorem joins_ew {b m D : Nat} {lo : Int} {A0 u : St} (hD : A0 0 53 = (D : Int)) (h1 : 1 ≤ D) : ∀ (nn : Nat) (P : List Int) (A : St), A 0 47 = (b : Int) → 0 ≤ A 0 46 → A 0 56 = ((m + P.length : Nat) : Int) → PD m (A 40) P → RG lo P → (A 39 (D - 1) = (m : Int) ∨ (A 39 (D - 1) < (m : Int) ∧ rk (A 40 (m - 1)) < lo)) → d_X12_joins_1 lo A0 u nn A → EW b A u (P.map sc) ∧ u 38 = A 38 ∧ u 39 = A 39 ∧ u 40 = A 40 ∧ u 0 56 = (m : Int) ∧ u 0 47 = A 0 47 := by
  intro nn
  induction nn with
  | zero => intro P A _ _ _ _ _ _ h; exact h.elim
  | succ nn ih =>
    intro P A hb h0 h56 hP hR hL h
    obtain ⟨_, z10, e10, h⟩ := (h : tr_d_X12_joins_1 lo A0 u (fun A2 => d_X12_joins_1 lo A0 u nn A2) A)
    rw [show (A0 0 53 - 1).toNat = D - 1 by omega] at e10
    cases P with
    | nil =>
      have h56 : A 0 56 = (m : Int) := h56
      rcases h with ⟨_, hu⟩ | ⟨c, z14, e14, z15, hr, h⟩
      · rw [hu]; exact ⟨EW.rf, rfl, rfl, rfl, h56, rfl⟩
      · rcases hL with g | ⟨g1, g2⟩
        · omega
        · rcases h with ⟨_, hu⟩ | ⟨c2, _⟩
          · rw [hu]; exact ⟨EW.rf, rfl, rfl, rfl, h56, rfl⟩
          · rw [hr.2.2.2, e14, show (A 0 56 - 1).toNat = m - 1 by omega] at c2
            exact absurd g2 c2
    | cons x P =>
      have h56 : A 0 56 = ((m + (P.length + 1) : Nat) : Int) := h56
      have hx := hR x List.mem_cons_self
      have px := hP.1
      rcases h with ⟨c, _⟩ | ⟨_, z14, e14, z15, hr, h⟩
      · rcases hL with g | ⟨g1, _⟩ <;> omega
      · have ei : (A 0 56 - 1).toNat = m + P.length := by omega
        rw [ei, px] at e14
        rcases h with ⟨c2, _⟩ | ⟨_, z21, e21, A22, e22, A23, ha, h⟩
        · rw [hr.2.2.2, e14] at c2
          omega
        · have e21 : z21 = x := by
            rw [e21, ei]
            exact px
          rw [e21] at ha
          have b22 : A22 0 47 = (b : Int) := by rw [e22]; exact hb
          have n22 : A22 0 46 = A 0 46 := by rw [e22]; rfl
          have ad := add_ew b22 (by rw [n22]; exact h0) (enc_op hx.2) ha
          obtain ⟨w1, w2, w3, w4, w5, w6⟩ := ad
          have r38 : A22 38 = A 38 := by rw [e22]; rfl
          have r39 : A22 39 = A 39 := by rw [e22]; rfl
          have r40 : A22 40 = A 40 := by rw [e22]; rfl
          have e56 : A22 0 56 = A 0 56 - 1 := by rw [e22]; rfl
          have w0 : EW b A A23 [sc x] := by
            have k33 : A22 33 = A 33 := by rw [e22]; rfl
            have k34 : A22 34 = A 34 := by rw [e22]; rfl
            unfold EW at w1 ⊢
            rw [n22, k33, k34] at w1
            exact w1
          have g := ih P A23 (by rw [w6]; exact b22) (w0.nn h0) (by rw [w5, e56]; omega) (by rw [w4, r40]; exact hP.2) (fun y hy => hR y (List.mem_cons_of_mem _ hy)) (by rw [w3, r39, w4, r40]; exact hL) h
          refine ⟨EW.trans h0 w0 g.1, g.2.1.trans (w2.trans r38), g.2.2.1.trans (w3.trans r39), g.2.2.2.1.trans (w4.trans r40), g.2.2.2.2.1, g.2.2.2.2.2.trans (w6.trans ?_)⟩
          rw [e22]; rfl
theorem q_joins_ew {b m D : Nat} {lo : Int} {P : List Int} {A u : St} (hD : A 0 53 = (D : Int)) (h1 : 1 ≤ D) (hb : A 0 47 = (b : Int)) (h0 : 0 ≤ A 0 46) (h56 : A 0 56 = ((m + P.length : Nat) : Int)) (hP : PD m (A 40) P) (hR : RG lo P) (hL : A 39 (D - 1) = (m : Int) ∨ (A 39 (D - 1) < (m : Int) ∧ rk (A 40 (m - 1)) < lo)) (h : q_X12_joins lo A u) : EW b A u (P.map sc) ∧ u 38 = A 38 ∧ u 39 = A 39 ∧ u 40 = A 40 ∧ u 0 56 = (m : Int) ∧ u 0 47 = A 0 47 := by
  obtain ⟨nn, h⟩ := (h.1 : tr_r_X12_joins lo A u)
  exact joins_ew hD h1 nn P A hb h0 h56 hP hR hL h
theorem q_holds_ew {b m : Nat} {x : Int} {A u : St} (h56 : A 0 56 = (m : Int)) (h : q_X12_holdsBack x A u) : EW b A u [] ∧ u 38 = A 38 ∧ u 39 = A 39 ∧ u 40 = up (A 40) m x ∧ u 0 56 = ((m + 1 : Nat) : Int) := by
  obtain ⟨A1, e1, e2⟩ := (h.1 : tr_r_X12_holdsBack x A u)
  rw [h56, Int.toNat_natCast] at e1
  rw [e2, e1]
  exact ⟨EW.rf, rfl, rfl, rfl, rfl⟩
/-- what stands below is of another kind -/
def LO (lo : Int) (m D : Nat) (A : St) : Prop := 0 ≤ A 0 46 ∧ A 0 56 = (m : Int) ∧ (A 39 (D - 1) = (m : Int) ∨ (1 ≤ m ∧ A 39 (D - 1) < (m : Int) ∧ rk (A 40 (m - 1)) < lo))
theorem LO.mono {lo lo' : Int} {m D : Nat} {A : St} (h : LO lo m D A) (g : lo ≤ lo') : LO lo' m D A := ⟨h.1, h.2.1, h.2.2.elim Or.inl (fun x => Or.inr ⟨x.1, x.2.1, by have := x.2.2; omega⟩)⟩
/-- codes onto the class's row -/
def apT (T : St) : List Int → St
  | [] => T
  | w :: W => apT (stA (stA T 20 (T 19 2).toNat w) 19 2 (T 19 2 + 1)) W
theorem apT_app {V : List Int} : ∀ (W : List Int) (T : St), apT T (W ++ V) = apT (apT T W) V := by
  intro W
  induction W with
  | nil => intro T; rfl
  | cons w W ih => intro T; exact ih _
theorem apT_sz : ∀ (W : List Int) (T : St), apT T W 19 2 = T 19 2 + (W.length : Int) := by
  intro W
  induction W with
  | nil => intro T; show T 19 2 = T 19 2 + ((0 : Nat) : Int); omega
  | cons w W ih =>
    intro T
    show apT _ W 19 2 = T 19 2 + ((W.length + 1 : Nat) : Int)
    rw [ih]
    show T 19 2 + 1 + (W.length : Int) = _
    omega
theorem apT_lo {k : Nat} : ∀ (W : List Int) (T : St), (k : Int) < T 19 2 → apT T W 20 k = T 20 k := by
  intro W
  induction W with
  | nil => intro T _; rfl
  | cons w W ih =>
    intro T h
    have g := ih (stA (stA T 20 (T 19 2).toNat w) 19 2 (T 19 2 + 1)) (by show (k : Int) < T 19 2 + 1; omega)
    refine g.trans ?_
    show up (T 20) (T 19 2).toNat w k = T 20 k
    exact up_ne _ _ (by omega)
theorem apT_at {i : Nat} : ∀ (W : List Int) (T : St), 0 ≤ T 19 2 → i < W.length → apT T W 20 ((T 19 2).toNat + i) = W.getD i 0 := by
  intro W
  induction W generalizing i with
  | nil => intro T _ h; exact absurd h (Nat.not_lt_zero i)
  | cons w W ih =>
    intro T h0 h
    cases i with
    | zero =>
      have g := apT_lo (k := (T 19 2).toNat) W (stA (stA T 20 (T 19 2).toNat w) 19 2 (T 19 2 + 1)) (by show ((T 19 2).toNat : Int) < T 19 2 + 1; omega)
      refine g.trans ?_
      show up (T 20) (T 19 2).toNat w (T 19 2).toNat = w
      exact up_same _ _ _
    | succ i =>
      have g := ih (i := i) (stA (stA T 20 (T 19 2).toNat w) 19 2 (T 19 2 + 1)) (by show 0 ≤ T 19 2 + 1; omega) (Nat.lt_of_succ_lt_succ h)
      have e : (stA (stA T 20 (T 19 2).toNat w) 19 2 (T 19 2 + 1) 19 2).toNat + i = (T 19 2).toNat + (i + 1) := by
        show (T 19 2 + 1).toNat + i = _
        omega
      rw [e] at g
      exact g
theorem sAd2_ap {T : St} {e : Nat} {x : Int} (h : T 19 2 < 1600) : sAd2 (some (T, e)) x = some (apT T [x], e) := by
  unfold sAd2
  show ((sAdC T x).bind fun t => some (t, e)) = _
  unfold sAdC
  rw [if_pos h]
  rfl
/-- both rows of codes grew by what is worth the same -/
def CX (b D m : Nat) (lo : Int) (k : Nat) (VB : Int → Prop) (A A' T T' : St) : Prop := ∃ R P C : List Int, EW b A A' R ∧ A' 0 56 = ((m + P.length : Nat) : Int) ∧ PD m (A' 40) P ∧ RG lo P ∧ (∀ i, i < m → A' 40 i = A 40 i) ∧ (∀ i, i < D → A' 39 i = A 39 i ∧ A' 38 i = A 38 i) ∧ T' = apT T C ∧ Sem VB k C (R ++ P.map sc)
theorem CX.mono {b D m k k' : Nat} {lo lo' : Int} {VB : Int → Prop} {A A' T T' : St} (h : CX b D m lo k VB A A' T T') (hl : lo' ≤ lo) (hk : k ≤ k') : CX b D m lo' k' VB A A' T T' := by
  obtain ⟨R, P, C, h1, h2, h3, h4, h5, h6, h7, h8⟩ := h
  exact ⟨R, P, C, h1, h2, h3, h4.mono hl, h5, h6, h7, h8.mono hk⟩
/-- an operation between two parts: what was held back goes out, the operation is held back -/
theorem CX_turn {b D m k k2 k' : Nat} {l x lo lo2 lo' : Int} {VA VB : Int → Prop} {A0 A B B1 v A' T0 T T2 : St} (hb : A 0 47 = (b : Int)) (hD : A 0 53 = (D : Int)) (h1 : 1 ≤ D) (hL : LO l m D A0) (hx : 10 ≤ x ∧ x ≤ 22) (h : CX b D m lo k VA A0 A T0 T) (hl : l ≤ lo) (hj : q_X12_joins l A B) (hh : q_X12_holdsBack x B B1) (hc : CSm B1 v) : (∀ lo3, rk x < lo3 → LO lo3 (m + 1) D v) ∧ (CX b D (m + 1) lo2 k2 VA v A' T T2 → lo' ≤ lo2 ∧ lo' ≤ rk x → k ≤ k' ∧ k2 + 1 ≤ k' → sc x < -6 → (∀ a c, VA a → VA c → VB (jn (sc x) a c) ∧ okV (sc x) a c) → CX b D m lo' k' VB A0 A' T0 (apT T2 [sc x])) := by
  obtain ⟨R, P, C, e1, e2, e3, e4, e5, e6, e7, e8⟩ := h
  obtain ⟨l0, l1, l2⟩ := hL
  have a39 := (e6 (D - 1) (by omega)).1
  have n46 := e1.nn l0
  have hLA : A 39 (D - 1) = (m : Int) ∨ (A 39 (D - 1) < (m : Int) ∧ rk (A 40 (m - 1)) < l) := by
    rcases l2 with g | ⟨g1, g2, g3⟩
    · exact Or.inl (a39.trans g)
    · exact Or.inr ⟨by omega, by rw [e5 (m - 1) (by omega)]; exact g3⟩
  obtain ⟨j1, j2, j3, j4, j5, _⟩ := q_joins_ew hD h1 hb n46 e2 e3 (e4.mono hl) hLA hj
  obtain ⟨w1, w2, w3, w4, w5⟩ := q_holds_ew (b := b) j5 hh
  have wv : EW b A v (P.map sc) := by
    have g := EW.trans n46 j1 (w1.cs hc)
    rw [List.append_nil] at g
    exact g
  obtain ⟨_, _, c38, c39, c40, c46, c56⟩ := hc
  have v39 : v 39 = A 39 := c39.trans (w3.trans j3)
  have v38 : v 38 = A 38 := c38.trans (w2.trans j2)
  have v40 : v 40 = up (A 40) m x := by rw [c40, w4, j4]
  have v56 : v 0 56 = ((m + 1 : Nat) : Int) := c56.trans w5
  have nv := wv.nn n46
  refine ⟨fun lo3 hr => ⟨nv, v56, Or.inr ⟨by omega, ?_, ?_⟩⟩, ?_⟩
  · rw [v39]
    rcases hLA with g | ⟨g, _⟩ <;> omega
  · rw [v40, show m + 1 - 1 = m by omega, up_same]
    exact hr
  · rintro ⟨R2, P2, C2, f1, f2, f3, f4, f5, f6, f7, f8⟩ hlo hk hw hv
    refine ⟨R ++ P.map sc ++ R2, P2 ++ [x], C ++ C2 ++ [sc x], ?_, ?_, ?_, ?_, fun i hi => ?_, fun i hi => ?_, ?_, ?_⟩
    · exact EW.trans l0 (EW.trans l0 e1 wv) f1
    · rw [f2, List.length_append]
      show ((m + 1 + P2.length : Nat) : Int) = ((m + (P2.length + 1) : Nat) : Int)
      omega
    · refine PD.snoc P2 f3 ?_
      rw [f5 m (by omega), v40, up_same]
    · exact (f4.mono hlo.1).app (RG.one ⟨hlo.2, hx⟩)
    · rw [f5 i (by omega), v40, up_ne _ _ (by omega)]
      exact e5 i hi
    · have g := f6 i hi
      rw [g.1, g.2, v39, v38]
      exact e6 i hi
    · rw [apT_app, apT_app, ← e7, f7]
    · have g := Sem_bin (VB := VB) (k := k') e8 f8 hw hk hv
      have e : R ++ P.map sc ++ R2 ++ (P2 ++ [x]).map sc = (R ++ P.map sc) ++ (R2 ++ P2.map sc) ++ [sc x] := by
        rw [List.map_append]
        simp only [List.append_assoc, List.map_cons, List.map_nil]
      rw [e]
      exact g
/-! The reference's turns once more: what they write. -/
theorem cs57 {A : St} {x : Int} : CSm A (stA A 0 57 x) := ⟨rfl, rfl, rfl, rfl, rfl, rfl, rfl⟩
theorem isS_no {f : Nat → Int} {N b p : Nat} {A : St} {c z : Int} (h : MS f N b p A) (hq : q_X12_isSign c A z) (hz : z = 0) : ¬ tsg f N p c := by
  rcases h.isS hq with ⟨g, _⟩ | ⟨_, g⟩
  · omega
  · exact g
theorem isS_yes {f : Nat → Int} {N b p : Nat} {A : St} {c z : Int} (h : MS f N b p A) (hq : q_X12_isSign c A z) (hz : ¬ z = 0) : tsg f N p c := by
  rcases h.isS hq with ⟨_, g⟩ | ⟨g, _⟩
  · exact g
  · exact absurd g hz
theorem J_arith {f : Nat → Int} {N b p D : Nat} {A v : St} {z : Int} (h : MS f N b p A) (hD : A 0 53 = (D : Int)) (h1 : 1 ≤ D) (hph : A 36 (D - 1) < 2) (ha : tari f N p) (hq : q_X12_goesOn A z v) : ∃ (l x : Int) (B B1 : St), ((tsg f N p 43 ∧ l = 5 ∧ x = 10) ∨ (tsg f N p 45 ∧ l = 5 ∧ x = 11) ∨ (tsg f N p 42 ∧ l = 6 ∧ x = 12) ∨ (tsg f N p 47 ∧ l = 6 ∧ x = 13) ∨ (tsg f N p 37 ∧ l = 6 ∧ x = 14)) ∧ q_X12_joins l A B ∧ q_X12_holdsBack x B B1 ∧ CSm B1 v := by
  have ix : (A 0 53 - 1).toNat = D - 1 := by omega
  obtain ⟨z1, hz1, z2, ht, z5, hz5, h2⟩ := (hq.1 : tr_r_X12_goesOn A z v)
  rw [ix] at hz1 hz5
  have d1 : d_X12_goesOn_1 A z v z1 z2 → ∃ (l x : Int) (B B1 : St), ((tsg f N p 43 ∧ l = 5 ∧ x = 10) ∨ (tsg f N p 45 ∧ l = 5 ∧ x = 11) ∨ (tsg f N p 42 ∧ l = 6 ∧ x = 12) ∨ (tsg f N p 47 ∧ l = 6 ∧ x = 13) ∨ (tsg f N p 37 ∧ l = 6 ∧ x = 14)) ∧ q_X12_joins l A B ∧ q_X12_holdsBack x B B1 ∧ CSm B1 v := by
    intro h2
    have end1 : ∀ (B1 A' A49 : St), q_X12_ahead B1 A' → A49 = stA A' 0 57 0 → v = A49 → CSm B1 v := by
      intro B1 A' A49 h1 h2 h3
      rw [h3, h2]
      exact (ahead_cs h1).trans cs57
    obtain ⟨z30, i43, h2⟩ := (h2 : tr_d_X12_goesOn_1 A z v z1 z2)
    rcases h2 with ⟨c, A34, hj, z39, _, A43, hh, A46, ha2, A49, e, _, hv⟩ | ⟨c, z78, i45, h2⟩
    · exact ⟨5, 10, A34, A43, Or.inl ⟨isS_yes h i43 c, rfl, rfl⟩, hj, hh, end1 _ _ _ ha2 e hv⟩
    · have n43 := isS_no h i43 c
      rcases h2 with ⟨c2, A82, hj, z87, _, z91, _, z95, i42, h2⟩ | ⟨c2, A208, hj, z213, _, z217, _, A221, hh, A224, ha2, A227, e, _, hv⟩
      · have n45 := isS_no h i45 c2
        have s82 := h.sb (q_joins_sb hj)
        rcases h2 with ⟨c3, z99, i47, h2⟩ | ⟨c3, A173, hh, A176, ha2, A179, e, _, hv⟩
        · have n42 := isS_no s82 i42 c3
          rcases h2 with ⟨c4, A103, hh, A106, ha2, A109, e, _, hv⟩ | ⟨c4, A138, hh, A141, ha2, A144, e, _, hv⟩
          · have n47 := isS_no s82 i47 c4
            have y37 : tsg f N p 37 := by
              rcases ha with g | g | g | g | g
              · exact absurd g n43
              · exact absurd g n45
              · exact absurd g n42
              · exact absurd g n47
              · exact g
            exact ⟨6, 14, A82, A103, Or.inr (Or.inr (Or.inr (Or.inr ⟨y37, rfl, rfl⟩))), hj, hh, end1 _ _ _ ha2 e hv⟩
          · exact ⟨6, 13, A82, A138, Or.inr (Or.inr (Or.inr (Or.inl ⟨isS_yes s82 i47 c4, rfl, rfl⟩))), hj, hh, end1 _ _ _ ha2 e hv⟩
        · exact ⟨6, 12, A82, A173, Or.inr (Or.inr (Or.inl ⟨isS_yes s82 i42 c3, rfl, rfl⟩)), hj, hh, end1 _ _ _ ha2 e hv⟩
      · exact ⟨5, 11, A208, A221, Or.inr (Or.inl ⟨isS_yes h i45 c2, rfl, rfl⟩), hj, hh, end1 _ _ _ ha2 e hv⟩
  rcases h2 with ⟨c, _⟩ | ⟨c, z8, i43, h2⟩
  · omega
  · rcases h2 with ⟨_, h2⟩ | ⟨c1, z13, i45, h2⟩
    · exact d1 h2
    · rcases h2 with ⟨_, h2⟩ | ⟨c2, z17, i42, h2⟩
      · exact d1 h2
      · rcases h2 with ⟨_, h2⟩ | ⟨c3, z21, i47, h2⟩
        · exact d1 h2
        · rcases h2 with ⟨_, h2⟩ | ⟨c4, z25, i37, h2⟩
          · exact d1 h2
          · rcases h2 with ⟨c5, _⟩ | ⟨_, h2⟩
            · rcases ha with g | g | g | g | g
              · exact absurd g (isS_no h i43 c1)
              · exact absurd g (isS_no h i45 c2)
              · exact absurd g (isS_no h i42 c3)
              · exact absurd g (isS_no h i47 c4)
              · exact absurd g (isS_no h i37 c5)
            · exact d1 h2
theorem J_cmp {f : Nat → Int} {N b p D : Nat} {A v : St} {z z2 k : Int} (h : MS f N b p A) (hD : A 0 53 = (D : Int)) (h1 : 1 ≤ D) (e2 : z2 = 1) (hp : A 36 (D - 1) = 0) (hc : tcmp f N p) (hq : d_X12_goesOn_2 A z v k z2) : ∃ (x : Int) (B B1 : St), ((tsg f N p 60 ∧ x = 17) ∨ (tsg f N p 62 ∧ x = 18) ∨ (tsg f N p 61 ∧ x = 19)) ∧ q_X12_joins 5 A B ∧ q_X12_holdsBack x B B1 ∧ CSm B1 v := by
  have ix : (A 0 53 - 1).toNat = D - 1 := by omega
  have d3 : d_X12_goesOn_3 A z v k z2 → ∃ (x : Int) (B B1 : St), ((tsg f N p 60 ∧ x = 17) ∨ (tsg f N p 62 ∧ x = 18) ∨ (tsg f N p 61 ∧ x = 19)) ∧ q_X12_joins 5 A B ∧ q_X12_holdsBack x B B1 ∧ CSm B1 v := by
    intro h2
    have end1 : ∀ (B1 B2 A' A49 : St) (j : Nat) (y : Int), B2 = stA B1 36 j y → q_X12_ahead B2 A' → A49 = stA A' 0 57 0 → v = A49 → CSm B1 v := by
      intro B1 B2 A' A49 j y e1 h1 h2 h3
      rw [h3, h2]
      have g : CSm B1 B2 := by rw [e1]; exact ⟨rfl, rfl, rfl, rfl, rfl, rfl, rfl⟩
      exact (g.trans (ahead_cs h1)).trans cs57
    obtain ⟨A275, hj, z280, i60, h2⟩ := (h2 : tr_d_X12_goesOn_3 A z v k z2)
    have s := h.sb (q_joins_sb hj)
    rcases h2 with ⟨c1, z284, i62, h2⟩ | ⟨c1, A378, hh, A381, e, A382, ha2, A385, e5, _, hv⟩
    · rcases h2 with ⟨c2, A288, hh, A291, e, A292, ha2, A295, e5, _, hv⟩ | ⟨c2, A333, hh, A336, e, A337, ha2, A340, e5, _, hv⟩
      · have y61 : tsg f N p 61 := by
          rcases hc with g | g | g
          · exact absurd g (isS_no s i60 c1)
          · exact absurd g (isS_no s i62 c2)
          · exact g
        exact ⟨19, A275, A288, Or.inr (Or.inr ⟨y61, rfl⟩), hj, hh, end1 _ _ _ _ _ _ e ha2 e5 hv⟩
      · exact ⟨18, A275, A333, Or.inr (Or.inl ⟨isS_yes s i62 c2, rfl⟩), hj, hh, end1 _ _ _ _ _ _ e ha2 e5 hv⟩
    · exact ⟨17, A275, A378, Or.inl ⟨isS_yes s i60 c1, rfl⟩, hj, hh, end1 _ _ _ _ _ _ e ha2 e5 hv⟩
  rcases (hq : tr_d_X12_goesOn_2 A z v k z2) with ⟨c, _⟩ | ⟨c, z259, hz, h2⟩
  · exact absurd (e2.symm.trans c) (by decide)
  · rw [ix, hp] at hz
    rcases h2 with ⟨c1, _⟩ | ⟨_, z261, i60, h2⟩
    · exact absurd hz c1
    · rcases h2 with ⟨_, h2⟩ | ⟨c2, z266, i62, h2⟩
      · exact d3 h2
      · rcases h2 with ⟨_, h2⟩ | ⟨c3, z270, i61, h2⟩
        · exact d3 h2
        · rcases h2 with ⟨c4, _⟩ | ⟨_, h2⟩
          · rcases hc with g | g | g
            · exact absurd g (isS_no h i60 c2)
            · exact absurd g (isS_no h i62 c3)
            · exact absurd g (isS_no h i61 c4)
          · exact d3 h2
theorem J_andor {f : Nat → Int} {N b p D : Nat} {A v : St} {z z2 k : Int} (h : MS f N b p A) (hD : A 0 53 = (D : Int)) (h1 : 1 ≤ D) (e2 : z2 = 1) (hp : ¬ A 36 (D - 1) = 0) (hw : tow f N p 17 ∨ tow f N p 16) (hq : d_X12_goesOn_4 A z v k z2) : ∃ (l x : Int) (B B1 : St), ((tow f N p 17 ∧ l = 2 ∧ x = 20) ∨ (tow f N p 16 ∧ l = 1 ∧ x = 21)) ∧ q_X12_joins l A B ∧ q_X12_holdsBack x B B1 ∧ CSm B1 v := by
  have ix : (A 0 53 - 1).toNat = D - 1 := by omega
  have d5 : d_X12_goesOn_5 A z v k z2 → ∃ (l x : Int) (B B1 : St), ((tow f N p 17 ∧ l = 2 ∧ x = 20) ∨ (tow f N p 16 ∧ l = 1 ∧ x = 21)) ∧ q_X12_joins l A B ∧ q_X12_holdsBack x B B1 ∧ CSm B1 v := by
    intro h2
    have end1 : ∀ (B1 B2 A' A49 : St) (j j' : Nat) (y y' : Int), B2 = stA (stA B1 36 j y) 37 j' y' → q_X12_ahead B2 A' → A49 = stA A' 0 57 0 → v = A49 → CSm B1 v := by
      intro B1 B2 A' A49 j j' y y' e1 h1 h2 h3
      rw [h3, h2]
      have g : CSm B1 B2 := by rw [e1]; exact ⟨rfl, rfl, rfl, rfl, rfl, rfl, rfl⟩
      exact (g.trans (ahead_cs h1)).trans cs57
    obtain ⟨z436, hz, h2⟩ := (h2 : tr_d_X12_goesOn_5 A z v k z2)
    rw [ix] at hz
    rcases h2 with ⟨_, h2⟩ | ⟨c, _⟩
    · obtain ⟨_, h2⟩ := (h2 : tr_d_X12_goesOn_6 A z v k z2 A)
      rcases h2 with ⟨_, z445, ia, h2⟩ | ⟨c, _⟩
      · have ia := h.isW (WR_own17 : WR 6385252 4545) ia
        rcases h2 with ⟨c1, A449, hj, A455, hh, A458, e, A459, ha2, A462, e5, _, hv⟩ | ⟨c1, A499, hj, A505, hh, A508, e, A509, ha2, A512, e5, _, hv⟩
        · have y16 : tow f N p 16 := by
            rcases hw with g | g
            · rcases ia with ⟨g2, _⟩ | ⟨_, g2⟩
              · exact absurd (g2.symm.trans c1) (by decide)
              · exact absurd g g2
            · exact g
          exact ⟨1, 21, A449, A455, Or.inr ⟨y16, rfl, rfl⟩, hj, hh, end1 _ _ _ _ _ _ _ _ e ha2 e5 hv⟩
        · have y17 : tow f N p 17 := by
            rcases ia with ⟨_, g⟩ | ⟨g, _⟩
            · exact g
            · exact absurd g c1
          exact ⟨2, 20, A499, A505, Or.inl ⟨y17, rfl, rfl⟩, hj, hh, end1 _ _ _ _ _ _ _ _ e ha2 e5 hv⟩
      · exact absurd (Int.le_of_eq h.ns) c
    · exact absurd (hz.symm.trans c) hp
  rcases (hq : tr_d_X12_goesOn_4 A z v k z2) with ⟨c, _⟩ | ⟨c, z426, ia, h2⟩
  · exact absurd (e2.symm.trans c) (by decide)
  · have ia := h.isW (WR_own17 : WR 6385252 4545) ia
    rcases h2 with ⟨_, h2⟩ | ⟨c1, z431, io, h2⟩
    · exact d5 h2
    · have io := h.isW (WR_own16 : WR 28530 591) io
      rcases h2 with ⟨c2, _⟩ | ⟨_, h2⟩
      · rcases hw with g | g
        · rcases ia with ⟨g2, _⟩ | ⟨_, g2⟩
          · exact absurd (g2.symm.trans c1) (by decide)
          · exact absurd g g2
        · rcases io with ⟨g2, _⟩ | ⟨_, g2⟩
          · exact absurd (g2.symm.trans c2) (by decide)
          · exact absurd g g2
      · exact d5 h2
theorem J_k1 {A v : St} {z k : Int} (hk : k < 2) (h8 : A 0 8 = 0) (h : d_X12_goesOn_8 A z v k A) : q_X12_joins 1 A v := by
  obtain ⟨_, h⟩ := (h : tr_d_X12_goesOn_8 A z v k A)
  rcases h with ⟨c, _⟩ | ⟨_, h⟩
  · omega
  · rcases h with ⟨c, _⟩ | ⟨_, A754, hj, _, hv⟩
    · exact absurd h8 c
    · rw [hv]; exact hj
theorem J_k3 {f : Nat → Int} {N b p : Nat} {A v : St} {z : Int} (h : MS f N b p A) (y : tsg f N p 44) (hq : d_X12_goesOn_8 A z v 3 A) : ∃ B, q_X12_joins 1 A B ∧ CSm B v := by
  obtain ⟨_, hq⟩ := (hq : tr_d_X12_goesOn_8 A z v 3 A)
  rcases hq with ⟨_, hq⟩ | ⟨c, _⟩
  · rcases hq with ⟨c, _⟩ | ⟨_, z703, is, hq⟩
    · exact absurd rfl c
    · rcases hq with ⟨_, hq⟩ | ⟨c1, _⟩
      · obtain ⟨_, hq⟩ := (hq : tr_d_X12_goesOn_11 A z v A)
        rcases hq with ⟨_, A716, hj, A721, e, A722, ha2, A725, e2, _, hv⟩ | ⟨c, _⟩
        · refine ⟨A716, hj, ?_⟩
          rw [hv, e2]
          have g : CSm A716 A721 := by rw [e]; exact ⟨rfl, rfl, rfl, rfl, rfl, rfl, rfl⟩
          exact (g.trans (ahead_cs ha2)).trans cs57
        · exact absurd (Int.le_of_eq h.ns) c
      · exact absurd y (isS_no h is c1)
  · exact absurd c (by decide)
theorem J_kc {f : Nat → Int} {N b p D : Nat} {A v : St} {z k x : Int} (hk : (k = 2 ∧ x = 41) ∨ (k = 4 ∧ x = 41) ∨ (k = 5 ∧ x = 93)) (h : MS f N b p A) (hD : A 0 53 = (D : Int)) (h1 : 2 ≤ D) (y : tsg f N p x) (hq : d_X12_goesOn_8 A z v k A) : ∃ B B', q_X12_joins 1 A B ∧ CSm B B' ∧ B' 0 47 = B 0 47 ∧ ((¬ k = 4 ∧ CSm B' v) ∨ (k = 4 ∧ ∃ B2, q_X12_add (B 38 (D - 1)) 0 B' B2 ∧ CSm B2 v)) := by
  have ix1 : (A 0 53 - 1).toNat = D - 1 := by omega
  obtain ⟨_, hq⟩ := (hq : tr_d_X12_goesOn_8 A z v k A)
  have d9 : d_X12_goesOn_9 k A A z v x := by
    rcases hq with ⟨_, hq⟩ | ⟨c, _⟩
    · rcases hq with ⟨c, hq⟩ | ⟨c, _⟩
      · rcases hq with ⟨c2, hq⟩ | ⟨c2, hq⟩
        · rcases hk with ⟨_, hx⟩ | ⟨_, hx⟩ | ⟨hk, _⟩
          · rw [hx]; exact hq
          · rw [hx]; exact hq
          · exact absurd hk c2
        · rcases hk with ⟨hk, _⟩ | ⟨hk, _⟩ | ⟨_, hx⟩
          · rw [hk] at c2; exact absurd c2 (by decide)
          · rw [hk] at c2; exact absurd c2 (by decide)
          · rw [hx]; exact hq
      · rcases hk with ⟨hk, _⟩ | ⟨hk, _⟩ | ⟨hk, _⟩ <;> · rw [hk] at c; exact absurd c (by decide)
    · rcases hk with ⟨hk, _⟩ | ⟨hk, _⟩ | ⟨hk, _⟩ <;> · rw [hk] at c; exact absurd c (by decide)
  obtain ⟨_, z567, is, hq⟩ := (d9 : tr_d_X12_goesOn_9 k A A z v x)
  rcases hq with ⟨_, hq⟩ | ⟨c1, _⟩
  · obtain ⟨_, hq⟩ := (hq : tr_d_X12_goesOn_10 A z v k A)
    rw [ix1] at hq
    rcases hq with ⟨_, A579, hj, A584, e, hq⟩ | ⟨c, _⟩
    · have g : CSm A579 A584 := by rw [e]; exact ⟨rfl, rfl, rfl, rfl, rfl, rfl, rfl⟩
      refine ⟨A579, A584, hj, g, by rw [e]; rfl, ?_⟩
      rcases hq with ⟨k4, hq⟩ | ⟨k4, z657, e7, A658, had, A663, ha2, _, hv⟩
      · refine Or.inl ⟨k4, ?_⟩
        rcases hq with ⟨_, A587, ha2, _, hv⟩ | ⟨_, A616, e6, A617, ha2, _, hv⟩
        · rw [hv]; exact ahead_cs ha2
        · rw [hv]
          have g6 : CSm A584 A616 := by rw [e6]; exact ⟨rfl, rfl, rfl, rfl, rfl, rfl, rfl⟩
          exact g6.trans (ahead_cs ha2)
      · refine Or.inr ⟨k4, A658, ?_, by rw [hv]; exact ahead_cs ha2⟩
        rw [← g.2.2.1, ← e7]
        exact had
    · exact absurd (Int.le_of_eq h.ns) c
  · exact absurd y (isS_no h is c1)
/-- behind an opening bracket nothing is written, and what is held back begins anew -/
def COp (D : Nat) (A v : St) : Prop := v 33 = A 33 ∧ v 34 = A 34 ∧ v 38 = A 38 ∧ v 39 = up (A 39) D (A 0 56) ∧ v 40 = A 40 ∧ v 0 46 = A 0 46 ∧ v 0 56 = A 0 56
theorem J_opens {A v : St} {k : Int} {D : Nat} (h8 : A 0 8 = 0) (h54 : ¬ A 0 54 = 8) (hD : A 0 53 = (D : Int)) (hq : q_X12_opens k A v) : COp D A v := by
  rcases (hq.1 : tr_r_X12_opens k A v) with ⟨_, h2⟩ | ⟨c, _⟩
  · obtain ⟨_, h2⟩ := (h2 : tr_d_X12_opens_1 k A v A)
    rcases h2 with ⟨_, A11, e11, A12, ha, A15, hp, hv⟩ | ⟨c2, _⟩
    · have g : CSm A A11 := by rw [e11]; exact ⟨rfl, rfl, rfl, rfl, rfl, rfl, rfl⟩
      obtain ⟨g1, g2, g3, g4, g5, g6, g7⟩ := g.trans (ahead_cs ha)
      have d12 : A12 0 53 = (D : Int) := by
        rw [ha.2.2.1.2 53 rfl, e11]
        exact hD
      obtain ⟨A1, e1, e2⟩ := (hp.1 : tr_r_X12_pushes k A12 A15)
      rw [d12, Int.toNat_natCast] at e1
      rw [hv, e2, e1]
      refine ⟨g1, g2, g3, ?_, g5, g6, g7⟩
      show up (A12 39) D (A12 0 56) = up (A 39) D (A 0 56)
      rw [g4, g7]
    · omega
  · exact absurd c h54
theorem J_leaf {f : Nat → Int} {N b p : Nat} {A B v : St} {z : Int} (h : MS f N b p B) (hA : A 0 3 = B 0 3) (hl : tlf f N p) (hq : d_X12_operand_5 A B z v) : ∃ (x : Int) (C : St), ((tKind f N p = 2 ∧ x = 0) ∨ (tow f N p 20 ∧ x = 1) ∨ (tow f N p 21 ∧ x = 2) ∨ (tow f N p 22 ∧ x = 3) ∨ (tow f N p 23 ∧ x = 4)) ∧ q_X12_add x (A 0 6) B C ∧ CSm C v := by
  have d6 : ∀ x : Int, ¬ x = -1 → d_X12_operand_6 A B z v x → ∃ C, q_X12_add x (A 0 6) B C ∧ CSm C v := by
    intro x hx h2
    obtain ⟨_, h2⟩ := (h2 : tr_d_X12_operand_6 A B z v x)
    rcases h2 with ⟨_, h2⟩ | ⟨c, _⟩
    · obtain ⟨_, h2⟩ := (h2 : tr_d_X12_operand_7 x A z v B)
      rcases h2 with ⟨_, A166, had, A170, ha, _, hv⟩ | ⟨c, _⟩
      · exact ⟨A166, had, by rw [hv]; exact ahead_cs ha⟩
      · exact absurd (Int.le_of_eq h.ns) c
    · exact absurd c hx
  have nt : ∀ {k : Nat}, tow f N p k → tsg f N p 40 → False := fun g1 g2 => by have := g1.1; have := g2.1; omega
  have l40 : tsg f N p 40 → False := by
    intro g2
    rcases hl with g | g | g | g | g
    · have := g2.1; omega
    · exact nt g g2
    · exact nt g g2
    · exact nt g g2
    · exact nt g g2
  have lmm : ∀ {k : Nat}, k < 26 → 24 ≤ k → tow f N p k → False := by
    intro k hk hk2 g2
    rcases hl with g | g | g | g | g
    · have := g2.1; omega
    · exact tow_ne g (by decide) hk (by omega) g2
    · exact tow_ne g (by decide) hk (by omega) g2
    · exact tow_ne g (by decide) hk (by omega) g2
    · exact tow_ne g (by decide) hk (by omega) g2
  have no : ∀ {k : Nat} {z0 : Int}, (z0 = 1 ∧ tow f N p k) ∨ (z0 = 0 ∧ ¬ tow f N p k) → z0 = 0 → ¬ tow f N p k := by
    intro k z0 i hz
    rcases i with ⟨g, _⟩ | ⟨_, g⟩
    · exact absurd (g.symm.trans hz) (by decide)
    · exact g
  have yes : ∀ {k : Nat} {z0 : Int}, (z0 = 1 ∧ tow f N p k) ∨ (z0 = 0 ∧ ¬ tow f N p k) → ¬ z0 = 0 → tow f N p k := by
    intro k z0 i hz
    rcases i with ⟨_, g⟩ | ⟨g, _⟩
    · exact g
    · exact absurd g hz
  obtain ⟨z120, i40, h2⟩ := (hq : tr_d_X12_operand_5 A B z v)
  rcases h2 with ⟨_, z124, im, h2⟩ | ⟨c1, _⟩
  · have im := h.isW (WR_own24 : WR 7170414 14637) im
    rcases h2 with ⟨c2, _⟩ | ⟨_, z129, ix, h2⟩
    · exact (lmm (by decide) (by decide) (yes (k := 24) im c2)).elim
    · have ix := h.isW (WR_own25 : WR 7168376 24621) ix
      rcases h2 with ⟨_, h2⟩ | ⟨c3, _⟩
      · rcases h2 with ⟨c4, z135, i20, h2⟩ | ⟨c4, h2⟩
        · have n2 : ¬ tKind f N p = 2 := fun g => c4 (by rw [hA, h.sg]; exact g)
          have i20 := h.isW (WR_own20 : WR 7825519 15639) i20
          rcases h2 with ⟨c5, z139, i21, h2⟩ | ⟨c5, h2⟩
          · have n20 := no (k := 20) i20 c5
            have i21 := h.isW (WR_own21 : WR 1936748404 671251) i21
            rcases h2 with ⟨c6, z143, i22, h2⟩ | ⟨c6, h2⟩
            · have n21 := no (k := 21) i21 c6
              have i22 := h.isW (WR_own22 : WR 1801812339 648363) i22
              rcases h2 with ⟨c7, z147, i23, h2⟩ | ⟨c7, h2⟩
              · have n22 := no (k := 22) i22 c7
                have i23 := h.isW (WR_own23 : WR 109317377451364 140098947) i23
                rcases h2 with ⟨c8, _⟩ | ⟨c8, h2⟩
                · have n23 := no (k := 23) i23 c8
                  rcases hl with g | g | g | g | g
                  · exact absurd g n2
                  · exact absurd g n20
                  · exact absurd g n21
                  · exact absurd g n22
                  · exact absurd g n23
                · obtain ⟨C, e1, e2⟩ := d6 _ (by decide) h2
                  exact ⟨4, C, Or.inr (Or.inr (Or.inr (Or.inr ⟨yes (k := 23) i23 c8, rfl⟩))), e1, e2⟩
              · obtain ⟨C, e1, e2⟩ := d6 _ (by decide) h2
                exact ⟨3, C, Or.inr (Or.inr (Or.inr (Or.inl ⟨yes (k := 22) i22 c7, rfl⟩))), e1, e2⟩
            · obtain ⟨C, e1, e2⟩ := d6 _ (by decide) h2
              exact ⟨2, C, Or.inr (Or.inr (Or.inl ⟨yes (k := 21) i21 c6, rfl⟩)), e1, e2⟩
          · obtain ⟨C, e1, e2⟩ := d6 _ (by decide) h2
            exact ⟨1, C, Or.inr (Or.inl ⟨yes (k := 20) i20 c5, rfl⟩), e1, e2⟩
        · have t2 : tKind f N p = 2 := by rw [← h.sg, ← hA]; exact c4
          obtain ⟨C, e1, e2⟩ := d6 _ (by decide) h2
          exact ⟨0, C, Or.inl ⟨t2, rfl⟩, e1, e2⟩
      · exact (lmm (by decide) (by decide) (yes (k := 25) ix c3)).elim
  · exact (l40 (isS_yes h i40 c1)).elim
theorem J_mm {f : Nat → Int} {N b p D : Nat} {A B v : St} {z : Int} (h : MS f N b p B) (hD : B 0 53 = (D : Int)) (hm : tow f N p 24 ∨ tow f N p 25) (h8 : v 0 8 = 0) (h54 : ¬ B 0 54 = 8) (hq : d_X12_operand_5 A B z v) : ∃ (x : Int) (C E : St), ((tow f N p 24 ∧ x = 15) ∨ (tow f N p 25 ∧ x = 16)) ∧ CSm B C ∧ COp D C E ∧ v = stA E 38 D x := by
  have d8 : d_X12_operand_8 B z v → ∃ (x : Int) (C E : St), ((tow f N p 24 ∧ x = 15) ∨ (tow f N p 25 ∧ x = 16)) ∧ CSm B C ∧ COp D C E ∧ v = stA E 38 D x := by
    intro h2
    have d9 : ∀ x : Int, d_X12_operand_9 B z v x → ∃ C E : St, CSm B C ∧ COp D C E ∧ v = stA E 38 D x := by
      intro x h2
      obtain ⟨_, A204, ha, z215, is, h2⟩ := (h2 : tr_d_X12_operand_9 B z v x)
      have d10f : ∀ A224 : St, 1 ≤ A224 0 8 → d_X12_operand_10 x z v A224 → False := by
        intro A224 f1 h2
        obtain ⟨_, A227, ho, h2⟩ := (h2 : tr_d_X12_operand_10 x z v A224)
        have f2 := X_opens f1 ho
        rcases h2 with ⟨_, _, hv⟩ | ⟨c, _⟩
        · rw [hv] at h8; omega
        · omega
      obtain ⟨g1, _, g3, g4, _⟩ := leafA h.go ha
      rcases h2 with ⟨_, h2⟩ | ⟨_, A220, hb, h2⟩
      · rcases g1 with ⟨_, f1⟩ | ⟨_, s⟩
        · exact (d10f A204 f1 h2).elim
        · obtain ⟨_, A227, ho, h2⟩ := (h2 : tr_d_X12_operand_10 x z v A204)
          have op := J_opens (D := D) s.ns (by rw [g4]; exact h54) (g3.trans hD) ho
          rcases O_opens (D := D) s (g3.trans hD) ho with ⟨o8, _⟩ | ⟨_, _, o2, _⟩
          · exact absurd (g4.symm.trans o8) h54
          · rcases h2 with ⟨c, _, hv⟩ | ⟨_, A231, e, _, hv⟩
            · rw [hv] at h8; exact absurd h8 c
            · refine ⟨A204, A227, ahead_cs ha, op, ?_⟩
              rw [hv, e, show (A227 0 53 - 1).toNat = D by omega]
      · exact (d10f A220 hb.2.2.2 h2).elim
    obtain ⟨z195, im, h2⟩ := (h2 : tr_d_X12_operand_8 B z v)
    have im := h.isW (WR_own24 : WR 7170414 14637) im
    rcases h2 with ⟨c, h2⟩ | ⟨c, h2⟩
    · obtain ⟨C, E, g⟩ := d9 _ h2
      refine ⟨16, C, E, Or.inr ⟨?_, rfl⟩, g⟩
      rcases hm with g | g
      · rcases im with ⟨g2, _⟩ | ⟨_, g2⟩
        · exact absurd (g2.symm.trans c) (by decide)
        · exact absurd g g2
      · exact g
    · obtain ⟨C, E, g⟩ := d9 _ h2
      refine ⟨15, C, E, Or.inl ⟨?_, rfl⟩, g⟩
      rcases im with ⟨_, g2⟩ | ⟨g2, _⟩
      · exact g2
      · exact absurd g2 c
  have t1 : tKind f N p = 1 := by rcases hm with g | g <;> exact g.1
  obtain ⟨z120, i40, h2⟩ := (hq : tr_d_X12_operand_5 A B z v)
  rcases h2 with ⟨_, z124, im, h2⟩ | ⟨c1, _⟩
  · have im := h.isW (WR_own24 : WR 7170414 14637) im
    rcases h2 with ⟨_, h2⟩ | ⟨c2, z129, ix, h2⟩
    · exact d8 h2
    · have ix := h.isW (WR_own25 : WR 7168376 24621) ix
      rcases h2 with ⟨c3, _⟩ | ⟨_, h2⟩
      · rcases hm with g | g
        · rcases im with ⟨g2, _⟩ | ⟨_, g2⟩
          · exact absurd (g2.symm.trans c2) (by decide)
          · exact absurd g g2
        · rcases ix with ⟨g2, _⟩ | ⟨_, g2⟩
          · exact absurd (g2.symm.trans c3) (by decide)
          · exact absurd g g2
      · exact d8 h2
  · have := (isS_yes h i40 c1).1
    omega
/-- a not; all -/
theorem J_first {f : Nat → Int} {N b p D : Nat} {A v : St} {z : Int} (h : MS f N b p A) (hD : A 0 53 = (D : Int)) (h1 : 1 ≤ D) (hf : fst1 D A) (hq : q_X12_operand A z v) : (tow f N p 18 → ∃ B, q_X12_holdsBack 22 A B ∧ CSm B v) ∧ (tow f N p 19 → ∃ B, q_X12_add 9 0 (stA A 37 (D - 1) 0) B ∧ CSm B v) := by
  have ix : (A 0 53 - 1).toNat = D - 1 := by omega
  have s49 : MS f N b p (stA A 37 (D - 1) 0) := h.fr rfl (fun _ _ => rfl)
  obtain ⟨z1, hz1, z2, ht, h2⟩ := (hq.1 : tr_r_X12_operand A z v)
  rw [ix] at hz1
  have ht := isTest_iff ht
  rw [hz1] at ht
  rcases h2 with ⟨c, _⟩ | ⟨_, z8, hz8, h2⟩
  · rcases ht with ⟨g2, _⟩ | ⟨_, g2⟩
    · exact absurd (g2.symm.trans c) (by decide)
    · exact absurd hf.1 g2
  · rw [ix] at hz8
    rcases h2 with ⟨c2, _⟩ | ⟨_, h2⟩
    · exact absurd (hz8.symm.trans c2) hf.2
    · obtain ⟨_, h2⟩ := (h2 : tr_d_X12_operand_2 A z v 1)
      rcases h2 with ⟨c3, _⟩ | ⟨_, z18, i18, h2⟩
      · exact absurd c3 (by decide)
      · have i18 := h.isW (WR_own18 : WR 7237492 20974) i18
        rcases h2 with ⟨c4, h2⟩ | ⟨c4, A22, hh, A25, ha, _, hv⟩
        · have n18 : ¬ tow f N p 18 := by
            rcases i18 with ⟨g, _⟩ | ⟨_, g⟩
            · exact absurd (g.symm.trans c4) (by decide)
            · exact g
          refine ⟨fun g => absurd g n18, fun y => ?_⟩
          obtain ⟨A49, e, h2⟩ := (h2 : tr_d_X12_operand_3 1 A z v)
          rw [ix] at e
          rw [← e] at s49 ⊢
          rcases h2 with ⟨c5, _⟩ | ⟨_, z59, i91, h2⟩
          · exact absurd c5 (by decide)
          · rcases h2 with ⟨_, h2⟩ | ⟨c6, _⟩
            · rcases (h2 : tr_d_X12_operand_4 1 A A49 z v) with ⟨c7, _⟩ | ⟨_, z76, i19, h2⟩
              · exact absurd c7 (by decide)
              · have i19 := s49.isW (WR_own19 : WR 6384748 12673) i19
                rcases h2 with ⟨c8, _⟩ | ⟨_, A80, had, A84, e84, A85, ha, _, hv⟩
                · rcases i19 with ⟨g, _⟩ | ⟨_, g⟩
                  · exact absurd (g.symm.trans c8) (by decide)
                  · exact absurd y g
                · refine ⟨A80, had, ?_⟩
                  rw [hv]
                  have g : CSm A80 A84 := by rw [e84]; exact ⟨rfl, rfl, rfl, rfl, rfl, rfl, rfl⟩
                  exact g.trans (ahead_cs ha)
            · have := (isS_yes s49 i91 c6).1
              have := y.1
              omega
        · have y18 : tow f N p 18 := by
            rcases i18 with ⟨_, g⟩ | ⟨g, _⟩
            · exact g
            · exact absurd g c4
          exact ⟨fun _ => ⟨A22, hh, by rw [hv]; exact ahead_cs ha⟩, fun y => absurd y (tow_ne y18 (by decide) (by decide) (by decide))⟩
