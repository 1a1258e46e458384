/-! The class's tests: sums. -/
theorem CP.pos {f : Nat → Int} {N ta p : Nat} {B u : St} {r : Option Nat} {z : Int} (h : CP f N ta p B r z u) (hz : ¬ z = 0) : ∃ e, r = some e ∧ CS f N e u ∧ tw ta u = tw ta B := by
  cases r with
  | none => exact absurd h.1 hz
  | some e => exact ⟨e, rfl, h.2⟩
theorem CP.neg {f : Nat → Int} {N ta p : Nat} {B u : St} {r : Option Nat} {z : Int} (h : CP f N ta p B r z u) (hz : z = 0) : r = none ∧ EK f N u ∧ LX1 f N p u ∧ tw ta u = tw ta B := by
  cases r with
  | none => exact ⟨rfl, h.2⟩
  | some e => exact absurd (h.1.symm.trans hz) (by decide)
theorem CQ.pos {f : Nat → Int} {N ta : Nat} {B u : St} {r : Option Nat} {z : Int} (h : CQ f N ta B r z u) (hz : ¬ z = 0) : ∃ e, r = some e ∧ CS f N e u ∧ tw ta u = tw ta B := by
  cases r with
  | none => exact absurd h hz
  | some e => exact ⟨e, rfl, h.2⟩
theorem CQ.neg {f : Nat → Int} {N ta : Nat} {B u : St} {r : Option Nat} {z : Int} (h : CQ f N ta B r z u) (hz : z = 0) : r = none := by
  cases r with
  | none => rfl
  | some e => exact absurd (h.1.symm.trans hz) (by decide)
/-- an answer of a reader of a test -/
def CA (f : Nat → Int) (N ta : Nat) (r : Option (St × Nat)) (z : Int) (u : St) : Prop := match r with
  | none => z = 0
  | some a => z = 1 ∧ EK f N u ∧ LXA f N a.2 u ∧ tw ta u = a.1
theorem CA.pos {f : Nat → Int} {N ta : Nat} {u : St} {r : Option (St × Nat)} {z : Int} (h : CA f N ta r z u) (hz : ¬ z = 0) : ∃ a, r = some a ∧ EK f N u ∧ LXA f N a.2 u ∧ tw ta u = a.1 := by
  cases r with
  | none => exact absurd h hz
  | some e => exact ⟨e, rfl, h.2⟩
theorem CA.neg {f : Nat → Int} {N ta : Nat} {u : St} {r : Option (St × Nat)} {z : Int} (h : CA f N ta r z u) (hz : z = 0) : r = none := by
  cases r with
  | none => rfl
  | some e => exact absurd (h.1.symm.trans hz) (by decide)
theorem LXA.fr {f : Nat → Int} {N p : Nat} {A u : St} (h : LXA f N p A) (g : ∀ k, u 5 k = A 5 k) : LXA f N p u := by
  rcases h with h | h
  · left
    unfold LX0
    rw [g 6, g 1, g 5]
    exact h
  · right
    unfold LX1 LV
    rw [g 6, g 2, g 1, g 5, g 4]
    exact h
def sAdC (T : St) (x : Int) : Option St := if T 19 2 < 1600 then some (stA (stA T 20 (T 19 2).toNat x) 19 2 (T 19 2 + 1)) else none
theorem C_adC {f : Nat → Int} {N ta p : Nat} {x z : Int} {A u : St} (hE : EK f N A) (hX : LXA f N p A) (h : q_X8_add (ta + 19) x A z u) : (z = 0 ∧ sAdC (tw ta A) x = none) ∨ (z = 1 ∧ EK f N u ∧ LXA f N p u ∧ sAdC (tw ta A) x = some (tw ta u)) := by
  have hE2 : EK f N u := hE.fr h.2.1 h.2.2.1 rfl rfl rfl rfl (fun _ => rfl) (fun _ => rfl)
  have hX2 : LXA f N p u := hX.fr (fun k => h.2.2.1 5 k rfl rfl)
  unfold sAdC
  rcases (h.1 : tr_r_X8_add (ta + 19) x A z u) with ⟨c, A4, hA4, A6, hA6, hz, hu⟩ | ⟨c, hz, _⟩
  · have c : tw ta A 19 2 < 1600 := c
    rw [if_pos c]
    refine Or.inr ⟨hz, hE2, hX2, ?_⟩
    have hA4 : A4 = stA A (ta + 20) (tw ta A 19 2).toNat x := hA4
    have hA6 : A6 = stA A4 (ta + 19) 2 (tw ta A 19 2 + 1) := hA6
    rw [hu, hA6, tw_st, hA4, tw_st]
  · have c : ¬ tw ta A 19 2 < 1600 := c
    rw [if_neg c]
    exact Or.inl ⟨hz, rfl⟩
theorem C_enter {f : Nat → Int} {N ta p : Nat} (hta : isT ta) {z : Int} {A u : St} (hE : EK f N A) (hX : LXA f N p A) (h : q_X5_enter A z u) : (z = 0 ∧ ¬ A 3 4 < 8) ∨ (z = 1 ∧ A 3 4 < 8 ∧ EK f N u ∧ LXA f N p u ∧ tw ta u = tw ta A ∧ u 3 4 = A 3 4 + 1) := by
  have hE2 : EK f N u := hE.fr h.2.1 h.2.2.1 rfl rfl rfl rfl (fun _ => rfl) (fun _ => rfl)
  have hX2 : LXA f N p u := hX.fr (fun k => h.2.2.1 5 k rfl rfl)
  have ht : tw ta u = tw ta A := tw_fk hta h.2.2.1 rfl
  have h4 := h.2.2.2.2
  rcases (h.1 : tr_r_X5_enter A z u) with ⟨c, A3, hA3, hz, hu⟩ | ⟨c, z5, A6, hb, hz, _⟩
  · exact Or.inr ⟨hz, c, hE2, hX2, ht, (h4 hz).1⟩
  · exact Or.inl ⟨hz.trans hb.2.2.2.2, c⟩
theorem C_leave {f : Nat → Int} {N ta p : Nat} (hta : isT ta) {z : Int} {A u : St} (hE : EK f N A) (hX : LXA f N p A) (h : q_X5_leave A z u) : EK f N u ∧ LXA f N p u ∧ tw ta u = tw ta A := ⟨hE.fr h.2.1 h.2.2.1 rfl rfl rfl rfl (fun _ => rfl) (fun _ => rfl), hX.fr (fun k => h.2.2.1 5 k rfl rfl), tw_fk hta h.2.2.1 rfl⟩
abbrev PT := St → Nat → Option (St × Nat)
def sPair (f : Nat → Int) (N n : Nat) (S : PT) : PT := fun T p => (sSign f N 40 p).bind fun p1 => if n = 0 then none else (S T p1).bind fun a => (sSign f N 44 a.2).bind fun p2 => (S a.1 p2).bind fun b => (sSign f N 41 b.2).bind fun p3 => some (b.1, p3)
def sAd2 (r : Option (St × Nat)) (x : Int) : Option (St × Nat) := r.bind fun a => (sAdC a.1 x).bind fun t => some (t, a.2)
def sPart (f : Nat → Int) (N n : Nat) (S : PT) : PT := fun T p =>
  if tKind f N p = 2 then sAd2 (some (T, tEnd f N p)) (nv f N p)
  else match sSign f N 40 p with
  | some p1 => if n = 0 then none else (S T p1).bind fun a => (sSign f N 41 a.2).bind fun p2 => some (a.1, p2)
  | none => match sOwn f N 20 p with
    | some e => sAd2 (some (T, e)) (-1)
    | none => match sOwn f N 21 p with
      | some e => sAd2 (some (T, e)) (-2)
      | none => match sOwn f N 22 p with
        | some e => sAd2 (some (T, e)) (-3)
        | none => match sOwn f N 23 p with
          | some e => sAd2 (some (T, e)) (-4)
          | none => match sOwn f N 24 p with
            | some e => sAd2 (sPair f N n S T e) (-17)
            | none => match sOwn f N 25 p with
              | some e => sAd2 (sPair f N n S T e) (-18)
              | none => none
/-- what the relation of a deeper reader says of its spec -/
def HS (f : Nat → Int) (N ta : Nat) (m : Int) (SS : St → Int → St → Prop) (S : PT) : Prop := ∀ (A : St) (z : Int) (u : St) (p : Nat), EK f N A → LXA f N p A → A 3 4 = m → q_SS_sum SS A z u → CA f N ta (S (tw ta A) p) z u
theorem C_pair {f : Nat → Int} {N ta n b : Nat} (hta : isT ta) (hn : n + b = 8) {SS : St → Int → St → Prop} {S : PT} (hS : 0 < n → HS f N ta ((b : Int) + 1) SS S) {A u : St} {z : Int} {p : Nat} (hE : EK f N A) (hX : LXA f N p A) (h4 : A 3 4 = (b : Int)) (h : q_X5_readPair SS b (ta + 19) A z u) : CA f N ta (sPair f N n S (tw ta A) p) z u := by
  obtain ⟨z1, A2, hq, h⟩ := (h.1 : tr_r_X5_readPair SS b (ta + 19) A z u)
  have h1 := C_sign hta (by decide) hE hX hq
  unfold sPair
  rcases h with ⟨c, hz, _⟩ | ⟨c, z10, A11, hq2, h⟩
  · rw [h1.neg c]
    exact hz
  · obtain ⟨p1, r1, hC, ht⟩ := h1.pos c
    have g4 : A2 3 4 = (b : Int) := (hq.2.2.1 3 4 rfl rfl).trans h4
    rw [r1]
    show CA f N ta (if n = 0 then none else _) z u
    rcases C_enter hta hC.1 (Or.inl hC.2) hq2 with ⟨e1, e2⟩ | ⟨e1, e2, hE3, hX3, ht3, g43⟩
    · rw [if_pos (by omega)]
      rcases h with ⟨_, hz, _⟩ | ⟨c, _⟩
      · exact hz
      · exact absurd e1 c
    · rw [if_neg (by omega)]
      rcases h with ⟨c, _⟩ | ⟨_, z16, A17, hq3, h⟩
      · omega
      · have h3 := hS (by omega) A11 z16 A17 p1 hE3 hX3 (by omega) hq3
        rw [ht3, ht] at h3
        rcases h with ⟨c, hz, _⟩ | ⟨c, z22, A23, hq4, h⟩
        · rw [h3.neg c]
          exact hz
        · obtain ⟨a, r3, hE4, hX4, ht4⟩ := h3.pos c
          rw [r3]
          have z16e : z16 = 1 := by have := hq3.2.2.2.1; omega
          have g5 : A17 3 4 = A11 3 4 := hq3.2.2.2.2 z16e
          have h5 := C_sign hta (by decide) hE4 hX4 hq4
          show CA f N ta ((sSign f N 44 a.2).bind _) z u
          rcases h with ⟨c, hz, _⟩ | ⟨c, z29, A30, hq5, h⟩
          · rw [h5.neg c]
            exact hz
          · obtain ⟨p2, r5, hC5, ht5⟩ := h5.pos c
            rw [r5]
            have g6 : A23 3 4 = A17 3 4 := hq4.2.2.1 3 4 rfl rfl
            have h6 := hS (by omega) A23 z29 A30 p2 hC5.1 (Or.inl hC5.2) (by omega) hq5
            rw [ht5, ht4] at h6
            show CA f N ta ((S a.1 p2).bind _) z u
            rcases h with ⟨c, hz, _⟩ | ⟨c, z35, A36, hq6, h⟩
            · rw [h6.neg c]
              exact hz
            · obtain ⟨b6, r6, hE6, hX6, ht6⟩ := h6.pos c
              rw [r6]
              have h7 := C_sign hta (by decide) hE6 hX6 hq6
              show CA f N ta ((sSign f N 41 b6.2).bind _) z u
              rcases h with ⟨c, hz, _⟩ | ⟨c, z42, A43, hq7, hz, hu⟩
              · rw [h7.neg c]
                exact hz
              · obtain ⟨p3, r7, hC7, ht7⟩ := h7.pos c
                rw [r7]
                obtain ⟨k1, k2, k3⟩ := C_leave hta hC7.1 (Or.inl hC7.2) hq7
                rw [hu]
                exact ⟨hz, k1, k2, by rw [k3, ht7, ht6]⟩
theorem C_ad2 {f : Nat → Int} {N ta : Nat} {x z z2 : Int} {A u u2 : St} {a : St × Nat} (hE : EK f N A) (hX : LXA f N a.2 A) (ht : tw ta A = a.1) (h : q_X8_add (ta + 19) x A z u) (hz : z2 = z) (hu : u2 = u) : CA f N ta (sAd2 (some a) x) z2 u2 := by
  unfold sAd2
  show CA f N ta ((sAdC a.1 x).bind _) z2 u2
  rw [← ht]
  rcases C_adC hE hX h with ⟨e1, e2⟩ | ⟨e1, e2, e3, e4⟩
  · rw [e2]
    exact hz.trans e1
  · rw [e4, hu]
    exact ⟨hz.trans e1, e2, e3, rfl⟩
theorem C_part {f : Nat → Int} {N ta n b : Nat} (hta : isT ta) (hn : n + b = 8) {SS : St → Int → St → Prop} {S : PT} (hS : 0 < n → HS f N ta ((b : Int) + 1) SS S) {A u : St} {z : Int} {p : Nat} (hE : EK f N A) (hX : LXA f N p A) (h4 : A 3 4 = (b : Int)) (h : q_X5_readPart SS b (ta + 19) A z u) : CA f N ta (sPart f N n S (tw ta A) p) z u := by
  obtain ⟨A1, hq, h⟩ := (h.1 : tr_r_X5_readPart SS b (ta + 19) A z u)
  obtain ⟨hE1, hX1⟩ := lookA hE hX hq
  have ht1 : tw ta A1 = tw ta A := tw_fk hta hq.2.2.1 rfl
  have g1 : A1 3 4 = (b : Int) := (hq.2.2.1 3 4 rfl rfl).trans h4
  have k2 := hX1.2.2.1
  unfold sPart
  rcases h with ⟨c, z6, A7, hq1, h⟩ | ⟨c, A168, hp, z173, A174, hq1, hz, hu⟩
  · rw [if_neg (by omega)]
    have h1 := C_passesSign hta (by decide) hE1 (Or.inr hX1) hq1
    have g7 : A7 3 4 = (b : Int) := (hq1.2.2.1 3 4 rfl rfl).trans g1
    have ad : ∀ {k : Nat} {x zz : Int} {B u' : St} {e : Nat}, CS f N e B → tw ta B = tw ta A → q_X8_add (ta + 19) x B zz u' → z = zz → u = u' → CA f N ta (sAd2 (some (tw ta A, e)) x) z u := fun hC ht hq hz hu => C_ad2 hC.1 (Or.inl hC.2) ht hq hz hu
    have pr : ∀ {x z1 : Int} {B B1 : St} {e : Nat}, CS f N e B → tw ta B = tw ta A → B 3 4 = (b : Int) → q_X5_readPair SS b (ta + 19) B z1 B1 → ((z1 = 0 ∧ z = 0 ∧ u = B1) ∨ (¬ z1 = 0 ∧ ∃ (z2 : Int) (B2 : St), q_X8_add (ta + 19) x B1 z2 B2 ∧ ((z2 = 0 ∧ z = 0 ∧ u = B2) ∨ (¬ z2 = 0 ∧ z = 1 ∧ u = B2)))) → CA f N ta (sAd2 (sPair f N n S (tw ta A) e) x) z u := by
      intro x z1 B B1 e hC ht hb hq h
      have h1 := C_pair hta hn hS hC.1 (Or.inl hC.2) hb hq
      rw [ht] at h1
      rcases h with ⟨c, hz, _⟩ | ⟨c, z2, B2, hq2, h⟩
      · unfold sAd2
        rw [h1.neg c]
        exact hz
      · obtain ⟨a, r, hE2, hX2, ht2⟩ := h1.pos c
        rw [r]
        have b2 := hq2.2.2.2
        rcases h with ⟨c, hz, hu⟩ | ⟨c, hz, hu⟩
        · exact C_ad2 hE2 hX2 ht2 hq2 (hz.trans c.symm) hu
        · exact C_ad2 hE2 hX2 ht2 hq2 (by omega) hu
    rcases h with ⟨c1, z11, A12, hq2, h⟩ | ⟨c1, z143, A144, hq2, h⟩
    · obtain ⟨r1, hE2, hX2, ht2⟩ := h1.neg c1
      rw [r1]
      have h2 := C_passesWord hta (k := 20) (by decide) rfl hE2 (Or.inr hX2) hq2
      have g12 : A12 3 4 = (b : Int) := (hq2.2.2.1 3 4 rfl rfl).trans g7
      rcases h with ⟨c2, z16, A17, hq3, h⟩ | ⟨c2, z131, A132, hq3, hz, hu⟩
      · obtain ⟨r2, hE3, hX3, ht3⟩ := h2.neg c2
        rw [r2]
        have h3 := C_passesWord hta (k := 21) (by decide) rfl hE3 (Or.inr hX3) hq3
        have g17 : A17 3 4 = (b : Int) := (hq3.2.2.1 3 4 rfl rfl).trans g12
        rcases h with ⟨c3, z21, A22, hq4, h⟩ | ⟨c3, z121, A122, hq4, hz, hu⟩
        · obtain ⟨r3, hE4, hX4, ht4⟩ := h3.neg c3
          rw [r3]
          have h5 := C_passesWord hta (k := 22) (by decide) rfl hE4 (Or.inr hX4) hq4
          have g22 : A22 3 4 = (b : Int) := (hq4.2.2.1 3 4 rfl rfl).trans g17
          rcases h with ⟨c4, z26, A27, hq5, h⟩ | ⟨c4, z110, A111, hq5, hz, hu⟩
          · obtain ⟨r4, hE5, hX5, ht5⟩ := h5.neg c4
            rw [r4]
            have h6 := C_passesWord hta (k := 23) (by decide) rfl hE5 (Or.inr hX5) hq5
            have g27 : A27 3 4 = (b : Int) := (hq5.2.2.1 3 4 rfl rfl).trans g22
            rcases h with ⟨c5, z31, A32, hq6, h⟩ | ⟨c5, z98, A99, hq6, hz, hu⟩
            · obtain ⟨r5, hE6, hX6, ht6⟩ := h6.neg c5
              rw [r5]
              have h7 := C_passesWord hta (k := 24) (by decide) rfl hE6 (Or.inr hX6) hq6
              have g32 : A32 3 4 = (b : Int) := (hq6.2.2.1 3 4 rfl rfl).trans g27
              rcases h with ⟨c6, z36, A37, hq7, h⟩ | ⟨c6, z85, A86, hq7, h⟩
              · obtain ⟨r6, hE7, hX7, ht7⟩ := h7.neg c6
                rw [r6]
                have h8 := C_passesWord hta (k := 25) (by decide) rfl hE7 (Or.inr hX7) hq7
                have g37 : A37 3 4 = (b : Int) := (hq7.2.2.1 3 4 rfl rfl).trans g32
                rcases h with ⟨c7, z41, A42, hb, hz, _⟩ | ⟨c7, z64, A65, hq8, h⟩
                · rw [(h8.neg c7).1]
                  exact hz.trans hb.2.2.2.2
                · obtain ⟨e, r7, hC, ht⟩ := h8.pos c7
                  rw [r7]
                  exact pr hC (by rw [ht, ht7, ht6, ht5, ht4, ht3, ht2, ht1]) g37 hq8 h
              · obtain ⟨e, r6, hC, ht⟩ := h7.pos c6
                rw [r6]
                exact pr hC (by rw [ht, ht6, ht5, ht4, ht3, ht2, ht1]) g32 hq7 h
            · obtain ⟨e, r5, hC, ht⟩ := h6.pos c5
              rw [r5]
              exact C_ad2 hC.1 (Or.inl hC.2) (by rw [ht, ht5, ht4, ht3, ht2, ht1]) hq6 hz hu
          · obtain ⟨e, r4, hC, ht⟩ := h5.pos c4
            rw [r4]
            exact C_ad2 hC.1 (Or.inl hC.2) (by rw [ht, ht4, ht3, ht2, ht1]) hq5 hz hu
        · obtain ⟨e, r3, hC, ht⟩ := h3.pos c3
          rw [r3]
          exact C_ad2 hC.1 (Or.inl hC.2) (by rw [ht, ht3, ht2, ht1]) hq4 hz hu
      · obtain ⟨e, r2, hC, ht⟩ := h2.pos c2
        rw [r2]
        exact C_ad2 hC.1 (Or.inl hC.2) (by rw [ht, ht2, ht1]) hq3 hz hu
    · obtain ⟨p1, r1, hC, ht⟩ := h1.pos c1
      rw [r1]
      show CA f N ta (if n = 0 then none else _) z u
      rcases C_enter hta hC.1 (Or.inl hC.2) hq2 with ⟨e1, e2⟩ | ⟨e1, e2, hE3, hX3, ht3, g43⟩
      · rw [if_pos (by omega)]
        rcases h with ⟨_, hz, _⟩ | ⟨c, _⟩
        · exact hz
        · exact absurd e1 c
      · rw [if_neg (by omega)]
        rcases h with ⟨c, _⟩ | ⟨_, z149, A150, hq3, h⟩
        · omega
        · have h3 := hS (by omega) A144 z149 A150 p1 hE3 hX3 (by omega) hq3
          rw [ht3, ht, ht1] at h3
          rcases h with ⟨c, hz, _⟩ | ⟨c, z155, A156, hq4, h⟩
          · rw [h3.neg c]
            exact hz
          · obtain ⟨a, r3, hE4, hX4, ht4⟩ := h3.pos c
            rw [r3]
            have h5 := C_sign hta (by decide) hE4 hX4 hq4
            show CA f N ta ((sSign f N 41 a.2).bind _) z u
            rcases h with ⟨c, hz, _⟩ | ⟨c, z162, A163, hq5, hz, hu⟩
            · rw [h5.neg c]
              exact hz
            · obtain ⟨p2, r5, hC5, ht5⟩ := h5.pos c
              rw [r5]
              obtain ⟨k1, k2, k3⟩ := C_leave hta hC5.1 (Or.inl hC5.2) hq5
              rw [hu]
              exact ⟨hz, k1, k2, by rw [k3, ht5, ht4]⟩
  · have tk : tKind f N p = 2 := by omega
    rw [if_pos tk]
    have hv : A1 5 4 = nv f N p := hX1.2.2.2.2.2.1 tk
    have hP := passX hE1 hX1 (by omega) hp
    rw [hv] at hq1
    exact C_ad2 hP.1 (Or.inl hP.2.1) ((tw_fk hta hp.2.2.1 rfl).trans ht1) hq1 hz hu
