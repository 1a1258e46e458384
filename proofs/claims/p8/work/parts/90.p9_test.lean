/-! The class's tests: sums. -/
theorem CP.pos {f : Nat → Int} {N ta p : Nat} {B u : St} {r : Option Nat} {z : Int} (h : CP f N ta p B r z u) (hz : ¬ z = 0) : ∃ e, r = some e ∧ CS f N e u ∧ tw ta u = tw ta B := by
  cases r with
  | none => exact absurd h.1 hz
  | some e => exact ⟨e, rfl, h.2⟩
theorem CP.neg {f : Nat → Int} {N ta p : Nat} {B u : St} {r : Option Nat} {z : Int} (h : CP f N ta p B r z u) (hz : z = 0) : r = none ∧ EK f N u ∧ LX1 f N p u ∧ tw ta u = tw ta B := by
  cases r with
  | none => exact ⟨rfl, h.2⟩
  | some e => exact absurd (h.1.symm.trans hz) (by decide)
theorem CQ.pos {f : Nat → Int} {N ta : Nat} {B u : St} {r : Option Nat} {z : Int} (h : CQ f N ta B r z u) (hz : ¬ z = 0) : ∃ e, r = some e ∧ CS f N e u ∧ tw ta u = tw ta B := by
  cases r with
  | none => exact absurd h hz
  | some e => exact ⟨e, rfl, h.2⟩
theorem CQ.neg {f : Nat → Int} {N ta : Nat} {B u : St} {r : Option Nat} {z : Int} (h : CQ f N ta B r z u) (hz : z = 0) : r = none := by
  cases r with
  | none => rfl
  | some e => exact absurd (h.1.symm.trans hz) (by decide)
/-- an answer of a reader of a test -/
def CA (f : Nat → Int) (N ta : Nat) (r : Option (St × Nat)) (z : Int) (u : St) : Prop := match r with
  | none => z = 0
  | some a => z = 1 ∧ EK f N u ∧ LXA f N a.2 u ∧ tw ta u = a.1
theorem CA.pos {f : Nat → Int} {N ta : Nat} {u : St} {r : Option (St × Nat)} {z : Int} (h : CA f N ta r z u) (hz : ¬ z = 0) : ∃ a, r = some a ∧ EK f N u ∧ LXA f N a.2 u ∧ tw ta u = a.1 := by
  cases r with
  | none => exact absurd h hz
  | some e => exact ⟨e, rfl, h.2⟩
theorem CA.neg {f : Nat → Int} {N ta : Nat} {u : St} {r : Option (St × Nat)} {z : Int} (h : CA f N ta r z u) (hz : z = 0) : r = none := by
  cases r with
  | none => rfl
  | some e => exact absurd (h.1.symm.trans hz) (by decide)
theorem LXA.fr {f : Nat → Int} {N p : Nat} {A u : St} (h : LXA f N p A) (g : ∀ k, u 5 k = A 5 k) : LXA f N p u := by
  rcases h with h | h
  · left
    unfold LX0
    rw [g 6, g 1, g 5]
    exact h
  · right
    unfold LX1 LV
    rw [g 6, g 2, g 1, g 5, g 4]
    exact h
def sAdC (T : St) (x : Int) : Option St := if T 19 2 < 1600 then some (stA (stA T 20 (T 19 2).toNat x) 19 2 (T 19 2 + 1)) else none
theorem C_adC {f : Nat → Int} {N ta p : Nat} {x z : Int} {A u : St} (hE : EK f N A) (hX : LXA f N p A) (h : q_X8_add (ta + 19) x A z u) : (z = 0 ∧ sAdC (tw ta A) x = none) ∨ (z = 1 ∧ EK f N u ∧ LXA f N p u ∧ sAdC (tw ta A) x = some (tw ta u)) := by
  have hE2 : EK f N u := hE.fr h.2.1 h.2.2.1 rfl rfl rfl rfl (fun _ => rfl) (fun _ => rfl)
  have hX2 : LXA f N p u := hX.fr (fun k => h.2.2.1 5 k rfl rfl)
  unfold sAdC
  rcases (h.1 : tr_r_X8_add (ta + 19) x A z u) with ⟨c, A4, hA4, A6, hA6, hz, hu⟩ | ⟨c, hz, _⟩
  · have c : tw ta A 19 2 < 1600 := c
    rw [if_pos c]
    refine Or.inr ⟨hz, hE2, hX2, ?_⟩
    have hA4 : A4 = stA A (ta + 20) (tw ta A 19 2).toNat x := hA4
    have hA6 : A6 = stA A4 (ta + 19) 2 (tw ta A 19 2 + 1) := hA6
    rw [hu, hA6, tw_st, hA4, tw_st]
  · have c : ¬ tw ta A 19 2 < 1600 := c
    rw [if_neg c]
    exact Or.inl ⟨hz, rfl⟩
theorem C_enter {f : Nat → Int} {N ta p : Nat} (hta : isT ta) {z : Int} {A u : St} (hE : EK f N A) (hX : LXA f N p A) (h : q_X5_enter A z u) : (z = 0 ∧ ¬ A 3 4 < 8) ∨ (z = 1 ∧ A 3 4 < 8 ∧ EK f N u ∧ LXA f N p u ∧ tw ta u = tw ta A ∧ u 3 4 = A 3 4 + 1) := by
  have hE2 : EK f N u := hE.fr h.2.1 h.2.2.1 rfl rfl rfl rfl (fun _ => rfl) (fun _ => rfl)
  have hX2 : LXA f N p u := hX.fr (fun k => h.2.2.1 5 k rfl rfl)
  have ht : tw ta u = tw ta A := tw_fk hta h.2.2.1 rfl
  have h4 := h.2.2.2.2
  rcases (h.1 : tr_r_X5_enter A z u) with ⟨c, A3, hA3, hz, hu⟩ | ⟨c, z5, A6, hb, hz, _⟩
  · exact Or.inr ⟨hz, c, hE2, hX2, ht, (h4 hz).1⟩
  · exact Or.inl ⟨hz.trans hb.2.2.2.2, c⟩
theorem C_leave {f : Nat → Int} {N ta p : Nat} (hta : isT ta) {z : Int} {A u : St} (hE : EK f N A) (hX : LXA f N p A) (h : q_X5_leave A z u) : EK f N u ∧ LXA f N p u ∧ tw ta u = tw ta A := ⟨hE.fr h.2.1 h.2.2.1 rfl rfl rfl rfl (fun _ => rfl) (fun _ => rfl), hX.fr (fun k => h.2.2.1 5 k rfl rfl), tw_fk hta h.2.2.1 rfl⟩
abbrev PT := St → Nat → Option (St × Nat)
def sPair (f : Nat → Int) (N n : Nat) (S : PT) : PT := fun T p => (sSign f N 40 p).bind fun p1 => if n = 0 then none else (S T p1).bind fun a => (sSign f N 44 a.2).bind fun p2 => (S a.1 p2).bind fun b => (sSign f N 41 b.2).bind fun p3 => some (b.1, p3)
def sAd2 (r : Option (St × Nat)) (x : Int) : Option (St × Nat) := r.bind fun a => (sAdC a.1 x).bind fun t => some (t, a.2)
def sPart (f : Nat → Int) (N n : Nat) (S : PT) : PT := fun T p =>
  if tKind f N p = 2 then sAd2 (some (T, tEnd f N p)) (nv f N p)
  else match sSign f N 40 p with
  | some p1 => if n = 0 then none else (S T p1).bind fun a => (sSign f N 41 a.2).bind fun p2 => some (a.1, p2)
  | none => match sOwn f N 20 p with
    | some e => sAd2 (some (T, e)) (-1)
    | none => match sOwn f N 21 p with
      | some e => sAd2 (some (T, e)) (-2)
      | none => match sOwn f N 22 p with
        | some e => sAd2 (some (T, e)) (-3)
        | none => match sOwn f N 23 p with
          | some e => sAd2 (some (T, e)) (-4)
          | none => match sOwn f N 24 p with
            | some e => sAd2 (sPair f N n S T e) (-17)
            | none => match sOwn f N 25 p with
              | some e => sAd2 (sPair f N n S T e) (-18)
              | none => none
/-- what the relation of a deeper reader says of its spec -/
def HS (f : Nat → Int) (N ta : Nat) (m : Int) (SS : St → Int → St → Prop) (S : PT) : Prop := ∀ (A : St) (z : Int) (u : St) (p : Nat), EK f N A → LXA f N p A → A 3 4 = m → q_SS_sum SS A z u → CA f N ta (S (tw ta A) p) z u
theorem C_pair {f : Nat → Int} {N ta n b : Nat} (hta : isT ta) (hn : n + b = 8) {SS : St → Int → St → Prop} {S : PT} (hS : 0 < n → HS f N ta ((b : Int) + 1) SS S) {A u : St} {z : Int} {p : Nat} (hE : EK f N A) (hX : LXA f N p A) (h4 : A 3 4 = (b : Int)) (h : q_X5_readPair SS b (ta + 19) A z u) : CA f N ta (sPair f N n S (tw ta A) p) z u := by
  obtain ⟨z1, A2, hq, h⟩ := (h.1 : tr_r_X5_readPair SS b (ta + 19) A z u)
  have h1 := C_sign hta (by decide) hE hX hq
  unfold sPair
  rcases h with ⟨c, hz, _⟩ | ⟨c, z10, A11, hq2, h⟩
  · rw [h1.neg c]
    exact hz
  · obtain ⟨p1, r1, hC, ht⟩ := h1.pos c
    have g4 : A2 3 4 = (b : Int) := (hq.2.2.1 3 4 rfl rfl).trans h4
    rw [r1]
    show CA f N ta (if n = 0 then none else _) z u
    rcases C_enter hta hC.1 (Or.inl hC.2) hq2 with ⟨e1, e2⟩ | ⟨e1, e2, hE3, hX3, ht3, g43⟩
    · rw [if_pos (by omega)]
      rcases h with ⟨_, hz, _⟩ | ⟨c, _⟩
      · exact hz
      · exact absurd e1 c
    · rw [if_neg (by omega)]
      rcases h with ⟨c, _⟩ | ⟨_, z16, A17, hq3, h⟩
      · omega
      · have h3 := hS (by omega) A11 z16 A17 p1 hE3 hX3 (by omega) hq3
        rw [ht3, ht] at h3
        rcases h with ⟨c, hz, _⟩ | ⟨c, z22, A23, hq4, h⟩
        · rw [h3.neg c]
          exact hz
        · obtain ⟨a, r3, hE4, hX4, ht4⟩ := h3.pos c
          rw [r3]
          have z16e : z16 = 1 := by have := hq3.2.2.2.1; omega
          have g5 : A17 3 4 = A11 3 4 := hq3.2.2.2.2 z16e
          have h5 := C_sign hta (by decide) hE4 hX4 hq4
          show CA f N ta ((sSign f N 44 a.2).bind _) z u
          rcases h with ⟨c, hz, _⟩ | ⟨c, z29, A30, hq5, h⟩
          · rw [h5.neg c]
            exact hz
          · obtain ⟨p2, r5, hC5, ht5⟩ := h5.pos c
            rw [r5]
            have g6 : A23 3 4 = A17 3 4 := hq4.2.2.1 3 4 rfl rfl
            have h6 := hS (by omega) A23 z29 A30 p2 hC5.1 (Or.inl hC5.2) (by omega) hq5
            rw [ht5, ht4] at h6
            show CA f N ta ((S a.1 p2).bind _) z u
            rcases h with ⟨c, hz, _⟩ | ⟨c, z35, A36, hq6, h⟩
            · rw [h6.neg c]
              exact hz
            · obtain ⟨b6, r6, hE6, hX6, ht6⟩ := h6.pos c
              rw [r6]
              have h7 := C_sign hta (by decide) hE6 hX6 hq6
              show CA f N ta ((sSign f N 41 b6.2).bind _) z u
              rcases h with ⟨c, hz, _⟩ | ⟨c, z42, A43, hq7, hz, hu⟩
              · rw [h7.neg c]
                exact hz
              · obtain ⟨p3, r7, hC7, ht7⟩ := h7.pos c
                rw [r7]
                obtain ⟨k1, k2, k3⟩ := C_leave hta hC7.1 (Or.inl hC7.2) hq7
                rw [hu]
                exact ⟨hz, k1, k2, by rw [k3, ht7, ht6]⟩
theorem C_ad2 {f : Nat → Int} {N ta : Nat} {x z z2 : Int} {A u u2 : St} {a : St × Nat} (hE : EK f N A) (hX : LXA f N a.2 A) (ht : tw ta A = a.1) (h : q_X8_add (ta + 19) x A z u) (hz : z2 = z) (hu : u2 = u) : CA f N ta (sAd2 (some a) x) z2 u2 := by
  unfold sAd2
  show CA f N ta ((sAdC a.1 x).bind _) z2 u2
  rw [← ht]
  rcases C_adC hE hX h with ⟨e1, e2⟩ | ⟨e1, e2, e3, e4⟩
  · rw [e2]
    exact hz.trans e1
  · rw [e4, hu]
    exact ⟨hz.trans e1, e2, e3, rfl⟩
theorem C_part {f : Nat → Int} {N ta n b : Nat} (hta : isT ta) (hn : n + b = 8) {SS : St → Int → St → Prop} {S : PT} (hS : 0 < n → HS f N ta ((b : Int) + 1) SS S) {A u : St} {z : Int} {p : Nat} (hE : EK f N A) (hX : LXA f N p A) (h4 : A 3 4 = (b : Int)) (h : q_X5_readPart SS b (ta + 19) A z u) : CA f N ta (sPart f N n S (tw ta A) p) z u := by
  obtain ⟨A1, hq, h⟩ := (h.1 : tr_r_X5_readPart SS b (ta + 19) A z u)
  obtain ⟨hE1, hX1⟩ := lookA hE hX hq
  have ht1 : tw ta A1 = tw ta A := tw_fk hta hq.2.2.1 rfl
  have g1 : A1 3 4 = (b : Int) := (hq.2.2.1 3 4 rfl rfl).trans h4
  have k2 := hX1.2.2.1
  unfold sPart
  rcases h with ⟨c, z6, A7, hq1, h⟩ | ⟨c, A168, hp, z173, A174, hq1, hz, hu⟩
  · rw [if_neg (by omega)]
    have h1 := C_passesSign hta (by decide) hE1 (Or.inr hX1) hq1
    have g7 : A7 3 4 = (b : Int) := (hq1.2.2.1 3 4 rfl rfl).trans g1
    have ad : ∀ {k : Nat} {x zz : Int} {B u' : St} {e : Nat}, CS f N e B → tw ta B = tw ta A → q_X8_add (ta + 19) x B zz u' → z = zz → u = u' → CA f N ta (sAd2 (some (tw ta A, e)) x) z u := fun hC ht hq hz hu => C_ad2 hC.1 (Or.inl hC.2) ht hq hz hu
    have pr : ∀ {x z1 : Int} {B B1 : St} {e : Nat}, CS f N e B → tw ta B = tw ta A → B 3 4 = (b : Int) → q_X5_readPair SS b (ta + 19) B z1 B1 → ((z1 = 0 ∧ z = 0 ∧ u = B1) ∨ (¬ z1 = 0 ∧ ∃ (z2 : Int) (B2 : St), q_X8_add (ta + 19) x B1 z2 B2 ∧ ((z2 = 0 ∧ z = 0 ∧ u = B2) ∨ (¬ z2 = 0 ∧ z = 1 ∧ u = B2)))) → CA f N ta (sAd2 (sPair f N n S (tw ta A) e) x) z u := by
      intro x z1 B B1 e hC ht hb hq h
      have h1 := C_pair hta hn hS hC.1 (Or.inl hC.2) hb hq
      rw [ht] at h1
      rcases h with ⟨c, hz, _⟩ | ⟨c, z2, B2, hq2, h⟩
      · unfold sAd2
        rw [h1.neg c]
        exact hz
      · obtain ⟨a, r, hE2, hX2, ht2⟩ := h1.pos c
        rw [r]
        have b2 := hq2.2.2.2
        rcases h with ⟨c, hz, hu⟩ | ⟨c, hz, hu⟩
        · exact C_ad2 hE2 hX2 ht2 hq2 (hz.trans c.symm) hu
        · exact C_ad2 hE2 hX2 ht2 hq2 (by omega) hu
    rcases h with ⟨c1, z11, A12, hq2, h⟩ | ⟨c1, z143, A144, hq2, h⟩
    · obtain ⟨r1, hE2, hX2, ht2⟩ := h1.neg c1
      rw [r1]
      have h2 := C_passesWord hta (k := 20) (by decide) rfl hE2 (Or.inr hX2) hq2
      have g12 : A12 3 4 = (b : Int) := (hq2.2.2.1 3 4 rfl rfl).trans g7
      rcases h with ⟨c2, z16, A17, hq3, h⟩ | ⟨c2, z131, A132, hq3, hz, hu⟩
      · obtain ⟨r2, hE3, hX3, ht3⟩ := h2.neg c2
        rw [r2]
        have h3 := C_passesWord hta (k := 21) (by decide) rfl hE3 (Or.inr hX3) hq3
        have g17 : A17 3 4 = (b : Int) := (hq3.2.2.1 3 4 rfl rfl).trans g12
        rcases h with ⟨c3, z21, A22, hq4, h⟩ | ⟨c3, z121, A122, hq4, hz, hu⟩
        · obtain ⟨r3, hE4, hX4, ht4⟩ := h3.neg c3
          rw [r3]
          have h5 := C_passesWord hta (k := 22) (by decide) rfl hE4 (Or.inr hX4) hq4
          have g22 : A22 3 4 = (b : Int) := (hq4.2.2.1 3 4 rfl rfl).trans g17
          rcases h with ⟨c4, z26, A27, hq5, h⟩ | ⟨c4, z110, A111, hq5, hz, hu⟩
          · obtain ⟨r4, hE5, hX5, ht5⟩ := h5.neg c4
            rw [r4]
            have h6 := C_passesWord hta (k := 23) (by decide) rfl hE5 (Or.inr hX5) hq5
            have g27 : A27 3 4 = (b : Int) := (hq5.2.2.1 3 4 rfl rfl).trans g22
            rcases h with ⟨c5, z31, A32, hq6, h⟩ | ⟨c5, z98, A99, hq6, hz, hu⟩
            · obtain ⟨r5, hE6, hX6, ht6⟩ := h6.neg c5
              rw [r5]
              have h7 := C_passesWord hta (k := 24) (by decide) rfl hE6 (Or.inr hX6) hq6
              have g32 : A32 3 4 = (b : Int) := (hq6.2.2.1 3 4 rfl rfl).trans g27
              rcases h with ⟨c6, z36, A37, hq7, h⟩ | ⟨c6, z85, A86, hq7, h⟩
              · obtain ⟨r6, hE7, hX7, ht7⟩ := h7.neg c6
                rw [r6]
                have h8 := C_passesWord hta (k := 25) (by decide) rfl hE7 (Or.inr hX7) hq7
                have g37 : A37 3 4 = (b : Int) := (hq7.2.2.1 3 4 rfl rfl).trans g32
                rcases h with ⟨c7, z41, A42, hb, hz, _⟩ | ⟨c7, z64, A65, hq8, h⟩
                · rw [(h8.neg c7).1]
                  exact hz.trans hb.2.2.2.2
                · obtain ⟨e, r7, hC, ht⟩ := h8.pos c7
                  rw [r7]
                  exact pr hC (by rw [ht, ht7, ht6, ht5, ht4, ht3, ht2, ht1]) g37 hq8 h
              · obtain ⟨e, r6, hC, ht⟩ := h7.pos c6
                rw [r6]
                exact pr hC (by rw [ht, ht6, ht5, ht4, ht3, ht2, ht1]) g32 hq7 h
            · obtain ⟨e, r5, hC, ht⟩ := h6.pos c5
              rw [r5]
              exact C_ad2 hC.1 (Or.inl hC.2) (by rw [ht, ht5, ht4, ht3, ht2, ht1]) hq6 hz hu
          · obtain ⟨e, r4, hC, ht⟩ := h5.pos c4
            rw [r4]
            exact C_ad2 hC.1 (Or.inl hC.2) (by rw [ht, ht4, ht3, ht2, ht1]) hq5 hz hu
        · obtain ⟨e, r3, hC, ht⟩ := h3.pos c3
          rw [r3]
          exact C_ad2 hC.1 (Or.inl hC.2) (by rw [ht, ht3, ht2, ht1]) hq4 hz hu
      · obtain ⟨e, r2, hC, ht⟩ := h2.pos c2
        rw [r2]
        exact C_ad2 hC.1 (Or.inl hC.2) (by rw [ht, ht2, ht1]) hq3 hz hu
    · obtain ⟨p1, r1, hC, ht⟩ := h1.pos c1
      rw [r1]
      show CA f N ta (if n = 0 then none else _) z u
      rcases C_enter hta hC.1 (Or.inl hC.2) hq2 with ⟨e1, e2⟩ | ⟨e1, e2, hE3, hX3, ht3, g43⟩
      · rw [if_pos (by omega)]
        rcases h with ⟨_, hz, _⟩ | ⟨c, _⟩
        · exact hz
        · exact absurd e1 c
      · rw [if_neg (by omega)]
        rcases h with ⟨c, _⟩ | ⟨_, z149, A150, hq3, h⟩
        · omega
        · have h3 := hS (by omega) A144 z149 A150 p1 hE3 hX3 (by omega) hq3
          rw [ht3, ht, ht1] at h3
          rcases h with ⟨c, hz, _⟩ | ⟨c, z155, A156, hq4, h⟩
          · rw [h3.neg c]
            exact hz
          · obtain ⟨a, r3, hE4, hX4, ht4⟩ := h3.pos c
            rw [r3]
            have h5 := C_sign hta (by decide) hE4 hX4 hq4
            show CA f N ta ((sSign f N 41 a.2).bind _) z u
            rcases h with ⟨c, hz, _⟩ | ⟨c, z162, A163, hq5, hz, hu⟩
            · rw [h5.neg c]
              exact hz
            · obtain ⟨p2, r5, hC5, ht5⟩ := h5.pos c
              rw [r5]
              obtain ⟨k1, k2, k3⟩ := C_leave hta hC5.1 (Or.inl hC5.2) hq5
              rw [hu]
              exact ⟨hz, k1, k2, by rw [k3, ht5, ht4]⟩
  · have tk : tKind f N p = 2 := by omega
    rw [if_pos tk]
    have hv : A1 5 4 = nv f N p := hX1.2.2.2.2.2.1 tk
    have hP := passX hE1 hX1 (by omega) hp
    rw [hv] at hq1
    exact C_ad2 hP.1 (Or.inl hP.2.1) ((tw_fk hta hp.2.2.1 rfl).trans ht1) hq1 hz hu
/-! The class's tests: products, sums, facts. -/
def sProdL (f : Nat → Int) (N n : Nat) (S : PT) : Nat → PT
  | 0 => fun _ _ => none
  | k + 1 => fun T p => match sSign f N 47 p with
    | some e => (sAd2 (sPart f N n S T e) (-15)).bind fun a => sProdL f N n S k a.1 a.2
    | none => match sSign f N 37 p with
      | some e => (sAd2 (sPart f N n S T e) (-16)).bind fun a => sProdL f N n S k a.1 a.2
      | none => match sSign f N 42 p with
        | some e => (sAd2 (sPart f N n S T e) (-14)).bind fun a => sProdL f N n S k a.1 a.2
        | none => some (T, p)
def sProd (f : Nat → Int) (N n : Nat) (S : PT) : PT := fun T p => (sPart f N n S T p).bind fun a => sProdL f N n S 1600 a.1 a.2
def sSumL (f : Nat → Int) (N n : Nat) (S : PT) : Nat → PT
  | 0 => fun _ _ => none
  | k + 1 => fun T p => match sSign f N 45 p with
    | some e => (sAd2 (sProd f N n S T e) (-13)).bind fun a => sSumL f N n S k a.1 a.2
    | none => match sSign f N 43 p with
      | some e => (sAd2 (sProd f N n S T e) (-12)).bind fun a => sSumL f N n S k a.1 a.2
      | none => some (T, p)
def sSum (f : Nat → Int) (N n : Nat) (S : PT) : PT := fun T p => (sProd f N n S T p).bind fun a => sSumL f N n S 1600 a.1 a.2
def sSumN (f : Nat → Int) (N : Nat) : Nat → PT
  | 0 => sSum f N 0 (fun _ _ => none)
  | n + 1 => sSum f N (n + 1) (sSumN f N n)
/-- a turn of a loop: a reader, then a code -/
theorem C_turn {f : Nat → Int} {N ta k : Nat} {x z1 z z2 : Int} {B1 B2 u : St} {r : Option (St × Nat)} (h1 : CA f N ta r z1 B1) (c : ¬ z1 = 0) (hq : q_X8_add (ta + 19) x B1 z2 B2) : (z2 = 0 ∧ sAd2 r x = none) ∨ (z2 = 1 ∧ ∃ a, sAd2 r x = some a ∧ EK f N B2 ∧ LXA f N a.2 B2 ∧ tw ta B2 = a.1) := by
  obtain ⟨a, r1, hE, hX, ht⟩ := h1.pos c
  have h2 := C_ad2 (x := x) hE hX ht hq rfl rfl
  rw [r1]
  have b := hq.2.2.2
  by_cases c2 : z2 = 0
  · exact Or.inl ⟨c2, h2.neg c2⟩
  · exact Or.inr ⟨by omega, h2.pos c2⟩
theorem sAd2_none {x : Int} : sAd2 none x = none := rfl
theorem C_prodL {f : Nat → Int} {N ta n b : Nat} (hta : isT ta) (hn : n + b = 8) {SS : St → Int → St → Prop} {S : PT} (hS : 0 < n → HS f N ta ((b : Int) + 1) SS S) {u : St} {z : Int} : ∀ nn (i : Nat) (A : St) (p : Nat), i ≤ 1600 → EK f N A → LXA f N p A → A 3 4 = (b : Int) → d_X5_readProduct_1 SS b (ta + 19) z u nn (i : Int) A → CA f N ta (sProdL f N n S (1600 - i) (tw ta A) p) z u := by
  intro nn
  induction nn with
  | zero => intro i A p _ _ _ _ h; exact h.elim
  | succ m ih =>
    intro i A p hi hE hX h4 h
    obtain ⟨_, _, h⟩ := (h : tr_d_X5_readProduct_1 SS b (ta + 19) z u (fun z8 A10 => d_X5_readProduct_1 SS b (ta + 19) z u m z8 A10) i A)
    rcases h with ⟨c, hz, _⟩ | ⟨c, z19, A20, hq1, h⟩
    · rw [show 1600 - i = 0 by omega]
      exact hz
    · obtain ⟨k, hk⟩ : ∃ k, 1600 - i = k + 1 := ⟨1600 - i - 1, by omega⟩
      rw [hk]
      unfold sProdL
      have turn : ∀ {x : Int} {B : St} {e : Nat}, CS f N e B → tw ta B = tw ta A → B 3 4 = (b : Int) → d_X5_readProduct_2 (fun z8 A10 => d_X5_readProduct_1 SS b (ta + 19) z u m z8 A10) SS b (ta + 19) i z u x B → CA f N ta ((sAd2 (sPart f N n S (tw ta A) e) x).bind fun a => sProdL f N n S k a.1 a.2) z u := by
        intro x B e hC ht hb h
        obtain ⟨_, _, z45, A46, hq, h⟩ := (h : tr_d_X5_readProduct_2 _ SS b (ta + 19) i z u x B)
        have h1 := C_part hta hn hS hC.1 (Or.inl hC.2) hb hq
        rw [ht] at h1
        rcases h with ⟨c, hz, _⟩ | ⟨c, z51, A52, hq2, h⟩
        · rw [h1.neg c, sAd2_none]
          exact hz
        · have z45e : z45 = 1 := by have := hq.2.2.2.1; omega
          rcases C_turn (k := 0) (z := 0) (u := u) h1 c hq2 with ⟨e1, e2⟩ | ⟨e1, a, e2, hE2, hX2, ht2⟩
          · rw [e2]
            rcases h with ⟨c, _⟩ | ⟨_, hz, _⟩
            · exact absurd e1 c
            · exact hz
          · rw [e2]
            rcases h with ⟨_, h⟩ | ⟨c, _⟩
            · have := ih (i + 1) A52 a.2 (by omega) hE2 hX2 (by rw [hq2.2.2.1 3 4 rfl rfl, hq.2.2.2.2 z45e]; exact hb) h
              rw [ht2, show 1600 - (i + 1) = k by omega] at this
              exact this
            · omega
      have h1 := C_passesSign hta (by decide) hE hX hq1
      have g1 : A20 3 4 = (b : Int) := (hq1.2.2.1 3 4 rfl rfl).trans h4
      rcases h with ⟨c1, z25, A26, hq2, h⟩ | ⟨c1, h⟩
      · obtain ⟨r1, hE2, hX2, ht2⟩ := h1.neg c1
        rw [r1]
        have h2 := C_passesSign hta (by decide) hE2 (Or.inr hX2) hq2
        have g2 : A26 3 4 = (b : Int) := (hq2.2.2.1 3 4 rfl rfl).trans g1
        rcases h with ⟨c2, z30, A31, hq3, h⟩ | ⟨c2, h⟩
        · obtain ⟨r2, hE3, hX3, ht3⟩ := h2.neg c2
          rw [r2]
          have h3 := C_passesSign hta (by decide) hE3 (Or.inr hX3) hq3
          have g3 : A31 3 4 = (b : Int) := (hq3.2.2.1 3 4 rfl rfl).trans g2
          rcases h with ⟨c3, h⟩ | ⟨c3, hz, hu⟩
          · obtain ⟨e, r3, hC, ht⟩ := h3.pos c3
            rw [r3]
            exact turn hC (by rw [ht, ht3, ht2]) g3 h
          · obtain ⟨r3, hE4, hX4, ht4⟩ := h3.neg c3
            rw [r3, hu]
            exact ⟨hz, hE4, Or.inr hX4, by rw [ht4, ht3, ht2]⟩
        · obtain ⟨e, r2, hC, ht⟩ := h2.pos c2
          rw [r2]
          exact turn hC (by rw [ht, ht2]) g2 h
      · obtain ⟨e, r1, hC, ht⟩ := h1.pos c1
        rw [r1]
        exact turn hC ht g1 h
theorem C_prod {f : Nat → Int} {N ta n b : Nat} (hta : isT ta) (hn : n + b = 8) {SS : St → Int → St → Prop} {S : PT} (hS : 0 < n → HS f N ta ((b : Int) + 1) SS S) {A u : St} {z : Int} {p : Nat} (hE : EK f N A) (hX : LXA f N p A) (h4 : A 3 4 = (b : Int)) (h : q_X5_readProduct SS b (ta + 19) A z u) : CA f N ta (sProd f N n S (tw ta A) p) z u := by
  obtain ⟨z2, A3, hq, h⟩ := (h.1 : tr_r_X5_readProduct SS b (ta + 19) A z u)
  have h1 := C_part hta hn hS hE hX h4 hq
  unfold sProd
  rcases h with ⟨c, nn, h⟩ | ⟨c, hz, _⟩
  · obtain ⟨a, r, hE2, hX2, ht⟩ := h1.pos c
    rw [r]
    have z2e : z2 = 1 := by have := hq.2.2.2.1; omega
    have := C_prodL hta hn hS nn 0 A3 a.2 (by omega) hE2 hX2 (by rw [hq.2.2.2.2 z2e]; exact h4) h
    rw [ht] at this
    exact this
  · rw [h1.neg c]
    exact hz
theorem C_sumL {f : Nat → Int} {N ta n b : Nat} (hta : isT ta) (hn : n + b = 8) {SS : St → Int → St → Prop} {S : PT} (hS : 0 < n → HS f N ta ((b : Int) + 1) SS S) {u : St} {z : Int} : ∀ nn (i : Nat) (A : St) (p : Nat), i ≤ 1600 → EK f N A → LXA f N p A → A 3 4 = (b : Int) → d_X5_readSum_1 SS b (ta + 19) z u nn (i : Int) A → CA f N ta (sSumL f N n S (1600 - i) (tw ta A) p) z u := by
  intro nn
  induction nn with
  | zero => intro i A p _ _ _ _ h; exact h.elim
  | succ m ih =>
    intro i A p hi hE hX h4 h
    obtain ⟨_, _, h⟩ := (h : tr_d_X5_readSum_1 SS b (ta + 19) z u (fun z8 A10 => d_X5_readSum_1 SS b (ta + 19) z u m z8 A10) i A)
    rcases h with ⟨c, hz, _⟩ | ⟨c, z19, A20, hq1, h⟩
    · rw [show 1600 - i = 0 by omega]
      exact hz
    · obtain ⟨k, hk⟩ : ∃ k, 1600 - i = k + 1 := ⟨1600 - i - 1, by omega⟩
      rw [hk]
      unfold sSumL
      have turn : ∀ {x : Int} {B : St} {e : Nat}, CS f N e B → tw ta B = tw ta A → B 3 4 = (b : Int) → d_X5_readSum_2 (fun z8 A10 => d_X5_readSum_1 SS b (ta + 19) z u m z8 A10) SS b (ta + 19) i z u x B → CA f N ta ((sAd2 (sProd f N n S (tw ta A) e) x).bind fun a => sSumL f N n S k a.1 a.2) z u := by
        intro x B e hC ht hb h
        obtain ⟨_, _, z45, A46, hq, h⟩ := (h : tr_d_X5_readSum_2 _ SS b (ta + 19) i z u x B)
        have h1 := C_prod hta hn hS hC.1 (Or.inl hC.2) hb hq
        rw [ht] at h1
        rcases h with ⟨c, hz, _⟩ | ⟨c, z51, A52, hq2, h⟩
        · rw [h1.neg c, sAd2_none]
          exact hz
        · have z45e : z45 = 1 := by have := hq.2.2.2.1; omega
          rcases C_turn (k := 0) (z := 0) (u := u) h1 c hq2 with ⟨e1, e2⟩ | ⟨e1, a, e2, hE2, hX2, ht2⟩
          · rw [e2]
            rcases h with ⟨c, _⟩ | ⟨_, hz, _⟩
            · exact absurd e1 c
            · exact hz
          · rw [e2]
            rcases h with ⟨_, h⟩ | ⟨c, _⟩
            · have := ih (i + 1) A52 a.2 (by omega) hE2 hX2 (by rw [hq2.2.2.1 3 4 rfl rfl, hq.2.2.2.2 z45e]; exact hb) h
              rw [ht2, show 1600 - (i + 1) = k by omega] at this
              exact this
            · omega
      have h1 := C_passesSign hta (by decide) hE hX hq1
      have g1 : A20 3 4 = (b : Int) := (hq1.2.2.1 3 4 rfl rfl).trans h4
      rcases h with ⟨c1, z25, A26, hq2, h⟩ | ⟨c1, h⟩
      · obtain ⟨r1, hE2, hX2, ht2⟩ := h1.neg c1
        rw [r1]
        have h2 := C_passesSign hta (by decide) hE2 (Or.inr hX2) hq2
        have g2 : A26 3 4 = (b : Int) := (hq2.2.2.1 3 4 rfl rfl).trans g1
        rcases h with ⟨c2, h⟩ | ⟨c2, hz, hu⟩
        · obtain ⟨e, r2, hC, ht⟩ := h2.pos c2
          rw [r2]
          exact turn hC (by rw [ht, ht2]) g2 h
        · obtain ⟨r2, hE4, hX4, ht4⟩ := h2.neg c2
          rw [r2, hu]
          exact ⟨hz, hE4, Or.inr hX4, by rw [ht4, ht2]⟩
      · obtain ⟨e, r1, hC, ht⟩ := h1.pos c1
        rw [r1]
        exact turn hC ht g1 h
theorem C_sum {f : Nat → Int} {N ta n b : Nat} (hta : isT ta) (hn : n + b = 8) {SS : St → Int → St → Prop} {S : PT} (hS : 0 < n → HS f N ta ((b : Int) + 1) SS S) {A u : St} {z : Int} {p : Nat} (hE : EK f N A) (hX : LXA f N p A) (h4 : A 3 4 = (b : Int)) (h : r_X5_readSum SS b (ta + 19) A z u) : CA f N ta (sSum f N n S (tw ta A) p) z u := by
  obtain ⟨z2, A3, hq, h⟩ := (h : tr_r_X5_readSum SS b (ta + 19) A z u)
  have h1 := C_prod hta hn hS hE hX h4 hq
  unfold sSum
  rcases h with ⟨c, nn, h⟩ | ⟨c, hz, _⟩
  · obtain ⟨a, r, hE2, hX2, ht⟩ := h1.pos c
    rw [r]
    have z2e : z2 = 1 := by have := hq.2.2.2.1; omega
    have := C_sumL hta hn hS nn 0 A3 a.2 (by omega) hE2 hX2 (by rw [hq.2.2.2.2 z2e]; exact h4) h
    rw [ht] at this
    exact this
  · rw [h1.neg c]
    exact hz
theorem C_sumN {f : Nat → Int} {N ta : Nat} (hta : isT ta) : ∀ n : Nat, n ≤ 8 → HS f N ta (8 - (n : Int)) (rq_sum (ta + 19) n) (sSumN f N n) := by
  intro n
  induction n with
  | zero =>
    intro _ A z u p hE hX h4 h
    exact C_sum (n := 0) (b := 8 - 0) hta (by omega) (fun g => absurd g (by omega)) hE hX (by rw [h4]; rfl) (h.1 : r_X5_readSum (fun _ _ _ => False) (8 - 0) (ta + 19) A z u)
  | succ n ih =>
    intro hn A z u p hE hX h4 h
    refine C_sum (n := n + 1) (b := 8 - (n + 1)) hta (by omega) (fun _ => ?_) hE hX (by rw [h4]; omega) (h.1 : r_X5_readSum (rq_sum (ta + 19) n) (8 - (n + 1)) (ta + 19) A z u)
    have := ih (by omega)
    rw [show (((8 - (n + 1) : Nat) : Int) + 1) = 8 - (n : Int) by omega]
    exact this
/-! The class's tests: facts, both, tests, bars. -/
def sCmp (f : Nat → Int) (N p : Nat) : Option (Int × Nat) := match sSign f N 60 p with
  | some e => some (-9, e)
  | none => match sSign f N 62 p with
    | some e => some (-10, e)
    | none => match sSign f N 61 p with
      | some e => some (-11, e)
      | none => none
theorem C_cmp {f : Nat → Int} {N ta p : Nat} (hta : isT ta) {A u : St} {z : Int} (hE : EK f N A) (hX : LXA f N p A) (h : q_X5_comparisonSign A z u) : CR f N ta A (sCmp f N p) z u := by
  have ht : tw ta u = tw ta A := tw_fk hta h.2.2.1 rfl
  obtain ⟨A1, hq, z4, hs1, h⟩ := (h.1 : tr_r_X5_comparisonSign A z u)
  obtain ⟨hE1, hX1⟩ := lookA hE hX hq
  unfold sCmp sSign
  rcases h with ⟨c1, z8, hs2, h⟩ | ⟨c1, A29, hp, hz, hu⟩
  · rcases isS_iff (by decide) hX1 hs1 with ⟨e, _⟩ | ⟨_, g1⟩
    · omega
    · rw [if_neg g1]
      rcases h with ⟨c2, z12, hs3, h⟩ | ⟨c2, A26, hp, hz, hu⟩
      · rcases isS_iff (by decide) hX1 hs2 with ⟨e, _⟩ | ⟨_, g2⟩
        · omega
        · rw [if_neg g2]
          rcases h with ⟨c3, z16, A17, _, A20, _, hz, _⟩ | ⟨c3, A23, hp, hz, hu⟩
          · rcases isS_iff (by decide) hX1 hs3 with ⟨e, _⟩ | ⟨_, g3⟩
            · omega
            · rw [if_neg g3]
              exact hz
          · rcases isS_iff (by decide) hX1 hs3 with ⟨_, g3⟩ | ⟨e, _⟩
            · rw [if_pos g3]
              have hP := passX hE1 hX1 (by omega) hp
              exact ⟨hz, by omega, by rw [hu]; exact ⟨hP.1, hP.2.1⟩, ht⟩
            · omega
      · rcases isS_iff (by decide) hX1 hs2 with ⟨_, g2⟩ | ⟨e, _⟩
        · rw [if_pos g2]
          have hP := passX hE1 hX1 (by omega) hp
          exact ⟨hz, by omega, by rw [hu]; exact ⟨hP.1, hP.2.1⟩, ht⟩
        · omega
  · rcases isS_iff (by decide) hX1 hs1 with ⟨_, g1⟩ | ⟨e, _⟩
    · rw [if_pos g1]
      have hP := passX hE1 hX1 (by omega) hp
      exact ⟨hz, by omega, by rw [hu]; exact ⟨hP.1, hP.2.1⟩, ht⟩
    · omega
theorem CR.pos {f : Nat → Int} {N ta : Nat} {B u : St} {r : Option (Int × Nat)} {z : Int} (h : CR f N ta B r z u) (hz : ¬ z = -1) : ∃ a, r = some a ∧ z = a.1 ∧ CS f N a.2 u ∧ tw ta u = tw ta B := by
  cases r with
  | none => exact absurd h hz
  | some e => exact ⟨e, rfl, h.1, h.2.2⟩
theorem CR.neg {f : Nat → Int} {N ta : Nat} {B u : St} {r : Option (Int × Nat)} {z : Int} (h : CR f N ta B r z u) (hz : z = -1) : r = none := by
  cases r with
  | none => rfl
  | some e => exact absurd hz h.2.1
def sNots (f : Nat → Int) (N : Nat) : Nat → Int → Nat → Int × Nat
  | 0, t, p => (t, p)
  | k + 1, t, p => match sOwn f N 18 p with
    | some e => sNots f N k (if t = 0 then 1 else 0) e
    | none => (t, p)
def sFactB (f : Nat → Int) (N n : Nat) (S S2 : PT) : PT := fun T p => match sOwn f N 19 p with
  | some e => sAd2 (some (T, e)) (-5)
  | none => match sSign f N 91 p with
    | some e => if n = 0 then none else (S2 T e).bind fun a => (sSign f N 93 a.2).bind fun p2 => some (a.1, p2)
    | none => (S T p).bind fun a => (sCmp f N a.2).bind fun c => sAd2 (S a.1 c.2) c.1
def sFact (f : Nat → Int) (N n : Nat) (S S2 : PT) : PT := fun T p => (sFactB f N n S S2 T (sNots f N 1600 0 p).2).bind fun a => if (sNots f N 1600 0 p).1 = 0 then some a else sAd2 (some a) (-6)
def HT (f : Nat → Int) (N ta : Nat) (m : Int) (SS : St → Int → St → Prop) (S : PT) : Prop := ∀ (A : St) (z : Int) (u : St) (p : Nat), EK f N A → LXA f N p A → A 3 4 = m → q_SS_test SS A z u → CA f N ta (S (tw ta A) p) z u
/-- the fact's end: turned or not -/
theorem C_fact9 {f : Nat → Int} {N ta : Nat} {t z zr : Int} {u B : St} {r : Option (St × Nat)} (h1 : CA f N ta r zr B) (h : d_X5_readFact_9 (ta + 19) t z u zr B) : CA f N ta (r.bind fun a => if t = 0 then some a else sAd2 (some a) (-6)) z u := by
  obtain ⟨_, _, h⟩ := (h : tr_d_X5_readFact_9 (ta + 19) t z u zr B)
  rcases h with ⟨c, hz, _⟩ | ⟨c, h⟩
  · rw [h1.neg c]
    exact hz
  · obtain ⟨a, r1, hE, hX, ht⟩ := h1.pos c
    rw [r1]
    show CA f N ta (if t = 0 then some a else sAd2 (some a) (-6)) z u
    rcases h with ⟨c2, hz, hu⟩ | ⟨c2, z141, A142, hq, h⟩
    · rw [if_pos c2, hu]
      exact ⟨hz, hE, hX, ht⟩
    · rw [if_neg c2]
      have b := hq.2.2.2
      rcases h with ⟨c3, hz, hu⟩ | ⟨c3, hz, hu⟩
      · exact C_ad2 hE hX ht hq (by omega) hu
      · exact C_ad2 hE hX ht hq (by omega) hu
theorem C_factB {f : Nat → Int} {N ta n b : Nat} (hta : isT ta) (hn : n + b = 8) {SS : St → Int → St → Prop} {S2 : PT} (hS : 0 < n → HT f N ta ((b : Int) + 1) SS S2) {A u : St} {z t : Int} {p : Nat} (hE : EK f N A) (hX : LXA f N p A) (h4 : A 3 4 = (b : Int)) (h : d_X5_readFact_3 SS b (ta + 19) t z u A) : CA f N ta ((sFactB f N n (sSumN f N n) S2 (tw ta A) p).bind fun a => if t = 0 then some a else sAd2 (some a) (-6)) z u := by
  have hs1 := C_sumN (f := f) (N := N) hta n (by omega)
  have e8 : 8 - b = n := by omega
  have no : ∀ {B : St}, d_X5_readFact_9 (ta + 19) t z u 0 B → z = 0 := by
    intro B h
    obtain ⟨_, _, h⟩ := (h : tr_d_X5_readFact_9 (ta + 19) t z u 0 B)
    rcases h with ⟨_, hz, _⟩ | ⟨c, _⟩
    · exact hz
    · exact absurd rfl c
  have no5 : ∀ {B : St}, d_X5_readFact_5 (ta + 19) t z u B → z = 0 := by
    intro B h
    obtain ⟨_, h⟩ := (h : tr_d_X5_readFact_5 (ta + 19) t z u B)
    obtain ⟨_, _, h⟩ := (h : tr_d_X5_readFact_6 (ta + 19) t z u 0 B)
    exact no h
  have no7 : ∀ {B : St}, d_X5_readFact_7 (ta + 19) t z u B → z = 0 := by
    intro B h
    obtain ⟨_, h⟩ := (h : tr_d_X5_readFact_7 (ta + 19) t z u B)
    obtain ⟨_, _, h⟩ := (h : tr_d_X5_readFact_8 (ta + 19) t z u 0 B)
    exact no h
  obtain ⟨_, z26, A27, hq, h⟩ := (h : tr_d_X5_readFact_3 SS b (ta + 19) t z u A)
  have h1 := C_passesWord hta (k := 19) (by decide) rfl hE hX hq
  have g1 : A27 3 4 = (b : Int) := (hq.2.2.1 3 4 rfl rfl).trans h4
  unfold sFactB
  rcases h with ⟨c, z32, A33, hq2, h⟩ | ⟨c, z127, A128, hq2, h⟩
  · obtain ⟨r1, hE1, hX1, ht1⟩ := h1.neg c
    rw [r1]
    have h2 := C_passesSign hta (by decide) hE1 (Or.inr hX1) hq2
    have g2 : A33 3 4 = (b : Int) := (hq2.2.2.1 3 4 rfl rfl).trans g1
    rcases h with ⟨c2, z42, A43, hq3, h⟩ | ⟨c2, z91, A92, hq3, h⟩
    · obtain ⟨r2, hE2, hX2, ht2⟩ := h2.neg c2
      rw [r2]
      rw [e8] at hq3
      have h3 := hs1 A33 z42 A43 p hE2 (Or.inr hX2) (by omega) hq3
      rw [ht2, ht1] at h3
      show CA f N ta (((sSumN f N n (tw ta A) p).bind _).bind _) z u
      rcases h with ⟨c3, h⟩ | ⟨c3, z49, A50, hq4, h⟩
      · rw [h3.neg c3]
        obtain ⟨_, _, h⟩ := (h : tr_d_X5_readFact_4 b (ta + 19) t z u (-1) A43)
        rcases h with ⟨_, h⟩ | ⟨c, _⟩
        · exact no5 h
        · exact absurd rfl c
      · obtain ⟨a, r3, hE3, hX3, ht3⟩ := h3.pos c3
        rw [r3]
        have z42e : z42 = 1 := by have := hq3.2.2.2.1; omega
        have g3 : A43 3 4 = (b : Int) := (hq3.2.2.2.2 z42e).trans g2
        have h4' := C_cmp hta hE3 hX3 hq4
        show CA f N ta (((sCmp f N a.2).bind _).bind _) z u
        obtain ⟨_, _, h⟩ := (h : tr_d_X5_readFact_4 b (ta + 19) t z u z49 A50)
        rcases h with ⟨c4, h⟩ | ⟨c4, z63, A64, hq5, h⟩
        · rw [h4'.neg c4]
          exact no5 h
        · obtain ⟨cc, r4, e4, hC4, ht4⟩ := h4'.pos c4
          rw [r4]
          have g4 : A50 3 4 = (b : Int) := (hq4.2.2.1 3 4 rfl rfl).trans g3
          rw [e8] at hq5
          have h5 := hs1 A50 z63 A64 cc.2 hC4.1 (Or.inl hC4.2) (by omega) hq5
          rw [ht4, ht3] at h5
          show CA f N ta ((sAd2 (sSumN f N n a.1 cc.2) cc.1).bind _) z u
          rcases h with ⟨c5, h⟩ | ⟨c5, z69, A70, hq6, h⟩
          · rw [h5.neg c5, sAd2_none]
            exact no5 h
          · rw [e4] at hq6
            rcases C_turn (k := 0) (z := 0) (u := u) h5 c5 hq6 with ⟨e1, e2⟩ | ⟨e1, x, e2, hE6, hX6, ht6⟩
            · rw [e2]
              rcases h with ⟨_, h⟩ | ⟨c6, _⟩
              · exact no5 h
              · exact absurd e1 c6
            · rw [e2]
              rcases h with ⟨c6, _⟩ | ⟨_, h⟩
              · omega
              · obtain ⟨_, _, h⟩ := (h : tr_d_X5_readFact_6 (ta + 19) t z u 1 A70)
                exact C_fact9 (r := some x) ⟨rfl, hE6, hX6, ht6⟩ h
    · obtain ⟨e, r2, hC, ht2⟩ := h2.pos c2
      rw [r2]
      show CA f N ta ((if n = 0 then none else _).bind _) z u
      rcases C_enter hta hC.1 (Or.inl hC.2) hq3 with ⟨e1, e2⟩ | ⟨e1, e2, hE3, hX3, ht3, g43⟩
      · rw [if_pos (by omega)]
        rcases h with ⟨_, h⟩ | ⟨c3, _⟩
        · exact no7 h
        · exact absurd e1 c3
      · rw [if_neg (by omega)]
        rcases h with ⟨c3, _⟩ | ⟨_, z99, A100, hq4, h⟩
        · omega
        · have h4' := hS (by omega) A92 z99 A100 e hE3 hX3 (by omega) hq4
          rw [ht3, ht2, ht1] at h4'
          rcases h with ⟨c4, h⟩ | ⟨c4, z105, A106, hq5, h⟩
          · rw [h4'.neg c4]
            exact no7 h
          · obtain ⟨a, r4, hE4, hX4, ht4⟩ := h4'.pos c4
            rw [r4]
            have h5 := C_sign hta (by decide) hE4 hX4 hq5
            show CA f N ta (((sSign f N 93 a.2).bind _).bind _) z u
            rcases h with ⟨c5, h⟩ | ⟨c5, z111, A112, hq6, h⟩
            · rw [h5.neg c5]
              exact no7 h
            · obtain ⟨p2, r5, hC5, ht5⟩ := h5.pos c5
              rw [r5]
              obtain ⟨k1, k2, k3⟩ := C_leave hta hC5.1 (Or.inl hC5.2) hq6
              obtain ⟨_, _, h⟩ := (h : tr_d_X5_readFact_8 (ta + 19) t z u 1 A112)
              exact C_fact9 (r := some (a.1, p2)) ⟨rfl, k1, k2, by rw [k3, ht5, ht4]⟩ h
  · obtain ⟨e, r1, hC, ht1⟩ := h1.pos c
    rw [r1]
    exact C_fact9 (C_ad2 (a := (tw ta A, e)) hC.1 (Or.inl hC.2) ht1 hq2 rfl rfl) h
theorem C_fact {f : Nat → Int} {N ta n b : Nat} (hta : isT ta) (hn : n + b = 8) {SS : St → Int → St → Prop} {S2 : PT} (hS : 0 < n → HT f N ta ((b : Int) + 1) SS S2) {A u : St} {z : Int} {p : Nat} (hE : EK f N A) (hX : LXA f N p A) (h4 : A 3 4 = (b : Int)) (h : q_X5_readFact SS b (ta + 19) A z u) : CA f N ta (sFact f N n (sSumN f N n) S2 (tw ta A) p) z u := by
  obtain ⟨nn, h⟩ := (h.1 : tr_r_X5_readFact SS b (ta + 19) A z u)
  have lp : ∀ (m i : Nat) (t : Int) (B : St) (q : Nat), i ≤ 1600 → EK f N B → LXA f N q B → B 3 4 = (b : Int) → tw ta B = tw ta A → d_X5_readFact_1 SS b (ta + 19) z u m (i : Int) t B → CA f N ta ((sFactB f N n (sSumN f N n) S2 (tw ta A) (sNots f N (1600 - i) t q).2).bind fun a => if (sNots f N (1600 - i) t q).1 = 0 then some a else sAd2 (some a) (-6)) z u := by
    intro m
    induction m with
    | zero => intro i t B q _ _ _ _ _ h; exact h.elim
    | succ m ih =>
      intro i t B q hi hE hX h4 ht h
      obtain ⟨_, _, _, h⟩ := (h : tr_d_X5_readFact_1 SS b (ta + 19) z u (fun z1 z2 A4 => d_X5_readFact_1 SS b (ta + 19) z u m z1 z2 A4) i t B)
      rcases h with ⟨c, h⟩ | ⟨c, z13, A14, hq, h⟩
      · rw [show 1600 - i = 0 by omega]
        have := C_factB hta hn hS hE hX h4 h
        rw [ht] at this
        exact this
      · obtain ⟨k, hk⟩ : ∃ k, 1600 - i = k + 1 := ⟨1600 - i - 1, by omega⟩
        rw [hk]
        have h1 := C_passesWord hta (k := 18) (by decide) rfl hE hX hq
        have g1 : A14 3 4 = (b : Int) := (hq.2.2.1 3 4 rfl rfl).trans h4
        rcases h with ⟨c1, h⟩ | ⟨c1, h⟩
        · obtain ⟨r1, hE1, hX1, ht1⟩ := h1.neg c1
          have e : sNots f N (k + 1) t q = (t, q) := by unfold sNots; rw [r1]
          rw [e]
          have := C_factB hta hn hS hE1 (Or.inr hX1) g1 h
          rw [ht1, ht] at this
          exact this
        · obtain ⟨e, r1, hC, ht1⟩ := h1.pos c1
          have e2 : sNots f N (k + 1) t q = sNots f N k (if t = 0 then 1 else 0) e := by
            conv => lhs; unfold sNots
            rw [r1]
          rw [e2, show k = 1600 - (i + 1) by omega]
          rcases h with ⟨c2, h⟩ | ⟨c2, h⟩
          · rw [if_neg c2]
            obtain ⟨_, h⟩ := (h : tr_d_X5_readFact_2 _ i A14 z u 0)
            exact ih (i + 1) 0 A14 e (by omega) hC.1 (Or.inl hC.2) g1 (ht1.trans ht) h
          · rw [if_pos c2]
            obtain ⟨_, h⟩ := (h : tr_d_X5_readFact_2 _ i A14 z u 1)
            exact ih (i + 1) 1 A14 e (by omega) hC.1 (Or.inl hC.2) g1 (ht1.trans ht) h
  exact lp nn 0 0 A p (by omega) hE hX h4 rfl h
def sBothL (f : Nat → Int) (N n : Nat) (S S2 : PT) : Nat → PT
  | 0 => fun T p => some (T, p)
  | k + 1 => fun T p => match sOwn f N 17 p with
    | some e => (sAd2 (sFact f N n S S2 T e) (-8)).bind fun a => sBothL f N n S S2 k a.1 a.2
    | none => some (T, p)
def sBoth (f : Nat → Int) (N n : Nat) (S S2 : PT) : PT := fun T p => (sFact f N n S S2 T p).bind fun a => sBothL f N n S S2 1600 a.1 a.2
def sTestL (f : Nat → Int) (N n : Nat) (S S2 : PT) : Nat → PT
  | 0 => fun T p => some (T, p)
  | k + 1 => fun T p => match sOwn f N 16 p with
    | some e => (sAd2 (sBoth f N n S S2 T e) (-7)).bind fun a => sTestL f N n S S2 k a.1 a.2
    | none => some (T, p)
def sTest (f : Nat → Int) (N n : Nat) (S S2 : PT) : PT := fun T p => (sBoth f N n S S2 T p).bind fun a => sTestL f N n S S2 1600 a.1 a.2
def sTestN (f : Nat → Int) (N : Nat) : Nat → PT
  | 0 => sTest f N 0 (sSumN f N 0) (fun _ _ => none)
  | n + 1 => sTest f N (n + 1) (sSumN f N (n + 1)) (sTestN f N n)
theorem C_bothL {f : Nat → Int} {N ta n b : Nat} (hta : isT ta) (hn : n + b = 8) {SS : St → Int → St → Prop} {S2 : PT} (hS : 0 < n → HT f N ta ((b : Int) + 1) SS S2) {u : St} {z : Int} : ∀ (nn i : Nat) (A : St) (p : Nat), i ≤ 1600 → EK f N A → LXA f N p A → A 3 4 = (b : Int) → d_X5_readBoth_1 SS b (ta + 19) z u nn (i : Int) A → CA f N ta (sBothL f N n (sSumN f N n) S2 (1600 - i) (tw ta A) p) z u := by
  intro nn
  induction nn with
  | zero => intro i A p _ _ _ _ h; exact h.elim
  | succ m ih =>
    intro i A p hi hE hX h4 h
    obtain ⟨_, _, h⟩ := (h : tr_d_X5_readBoth_1 SS b (ta + 19) z u (fun z8 A10 => d_X5_readBoth_1 SS b (ta + 19) z u m z8 A10) i A)
    rcases h with ⟨c, hz, hu⟩ | ⟨c, z19, A20, hq1, h⟩
    · rw [show 1600 - i = 0 by omega, hu]
      exact ⟨hz, hE, hX, rfl⟩
    · obtain ⟨k, hk⟩ : ∃ k, 1600 - i = k + 1 := ⟨1600 - i - 1, by omega⟩
      rw [hk]
      unfold sBothL
      have h1 := C_passesWord hta (k := 17) (by decide) rfl hE hX hq1
      have g1 : A20 3 4 = (b : Int) := (hq1.2.2.1 3 4 rfl rfl).trans h4
      rcases h with ⟨c1, hz, hu⟩ | ⟨c1, z26, A27, hq, h⟩
      · obtain ⟨r1, hE2, hX2, ht2⟩ := h1.neg c1
        rw [r1, hu]
        exact ⟨hz, hE2, Or.inr hX2, ht2⟩
      · obtain ⟨e, r1, hC, ht⟩ := h1.pos c1
        rw [r1]
        have h2 := C_fact hta hn hS hC.1 (Or.inl hC.2) g1 hq
        rw [ht] at h2
        show CA f N ta ((sAd2 (sFact f N n (sSumN f N n) S2 (tw ta A) e) (-8)).bind _) z u
        rcases h with ⟨c2, hz, _⟩ | ⟨c2, z32, A33, hq2, h⟩
        · rw [h2.neg c2, sAd2_none]
          exact hz
        · have z26e : z26 = 1 := by have := hq.2.2.2.1; omega
          rcases C_turn (k := 0) (z := 0) (u := u) h2 c2 hq2 with ⟨e1, e2⟩ | ⟨e1, a, e2, hE2, hX2, ht2⟩
          · rw [e2]
            rcases h with ⟨c, _⟩ | ⟨_, hz, _⟩
            · exact absurd e1 c
            · exact hz
          · rw [e2]
            rcases h with ⟨_, h⟩ | ⟨c, _⟩
            · have := ih (i + 1) A33 a.2 (by omega) hE2 hX2 (by rw [hq2.2.2.1 3 4 rfl rfl, hq.2.2.2.2 z26e]; exact g1) h
              rw [ht2, show 1600 - (i + 1) = k by omega] at this
              exact this
            · omega
theorem C_both {f : Nat → Int} {N ta n b : Nat} (hta : isT ta) (hn : n + b = 8) {SS : St → Int → St → Prop} {S2 : PT} (hS : 0 < n → HT f N ta ((b : Int) + 1) SS S2) {A u : St} {z : Int} {p : Nat} (hE : EK f N A) (hX : LXA f N p A) (h4 : A 3 4 = (b : Int)) (h : q_X5_readBoth SS b (ta + 19) A z u) : CA f N ta (sBoth f N n (sSumN f N n) S2 (tw ta A) p) z u := by
  obtain ⟨z2, A3, hq, h⟩ := (h.1 : tr_r_X5_readBoth SS b (ta + 19) A z u)
  have h1 := C_fact hta hn hS hE hX h4 hq
  unfold sBoth
  rcases h with ⟨c, nn, h⟩ | ⟨c, hz, _⟩
  · obtain ⟨a, r, hE2, hX2, ht⟩ := h1.pos c
    rw [r]
    have z2e : z2 = 1 := by have := hq.2.2.2.1; omega
    have := C_bothL hta hn hS nn 0 A3 a.2 (by omega) hE2 hX2 (by rw [hq.2.2.2.2 z2e]; exact h4) h
    rw [ht] at this
    exact this
  · rw [h1.neg c]
    exact hz
theorem C_testL {f : Nat → Int} {N ta n b : Nat} (hta : isT ta) (hn : n + b = 8) {SS : St → Int → St → Prop} {S2 : PT} (hS : 0 < n → HT f N ta ((b : Int) + 1) SS S2) {u : St} {z : Int} : ∀ (nn i : Nat) (A : St) (p : Nat), i ≤ 1600 → EK f N A → LXA f N p A → A 3 4 = (b : Int) → d_X5_readTest_1 SS b (ta + 19) z u nn (i : Int) A → CA f N ta (sTestL f N n (sSumN f N n) S2 (1600 - i) (tw ta A) p) z u := by
  intro nn
  induction nn with
  | zero => intro i A p _ _ _ _ h; exact h.elim
  | succ m ih =>
    intro i A p hi hE hX h4 h
    obtain ⟨_, _, h⟩ := (h : tr_d_X5_readTest_1 SS b (ta + 19) z u (fun z8 A10 => d_X5_readTest_1 SS b (ta + 19) z u m z8 A10) i A)
    rcases h with ⟨c, hz, hu⟩ | ⟨c, z19, A20, hq1, h⟩
    · rw [show 1600 - i = 0 by omega, hu]
      exact ⟨hz, hE, hX, rfl⟩
    · obtain ⟨k, hk⟩ : ∃ k, 1600 - i = k + 1 := ⟨1600 - i - 1, by omega⟩
      rw [hk]
      unfold sTestL
      have h1 := C_passesWord hta (k := 16) (by decide) rfl hE hX hq1
      have g1 : A20 3 4 = (b : Int) := (hq1.2.2.1 3 4 rfl rfl).trans h4
      rcases h with ⟨c1, hz, hu⟩ | ⟨c1, z26, A27, hq, h⟩
      · obtain ⟨r1, hE2, hX2, ht2⟩ := h1.neg c1
        rw [r1, hu]
        exact ⟨hz, hE2, Or.inr hX2, ht2⟩
      · obtain ⟨e, r1, hC, ht⟩ := h1.pos c1
        rw [r1]
        have h2 := C_both hta hn hS hC.1 (Or.inl hC.2) g1 hq
        rw [ht] at h2
        show CA f N ta ((sAd2 (sBoth f N n (sSumN f N n) S2 (tw ta A) e) (-7)).bind _) z u
        rcases h with ⟨c2, hz, _⟩ | ⟨c2, z32, A33, hq2, h⟩
        · rw [h2.neg c2, sAd2_none]
          exact hz
        · have z26e : z26 = 1 := by have := hq.2.2.2.1; omega
          rcases C_turn (k := 0) (z := 0) (u := u) h2 c2 hq2 with ⟨e1, e2⟩ | ⟨e1, a, e2, hE2, hX2, ht2⟩
          · rw [e2]
            rcases h with ⟨c, _⟩ | ⟨_, hz, _⟩
            · exact absurd e1 c
            · exact hz
          · rw [e2]
            rcases h with ⟨_, h⟩ | ⟨c, _⟩
            · have := ih (i + 1) A33 a.2 (by omega) hE2 hX2 (by rw [hq2.2.2.1 3 4 rfl rfl, hq.2.2.2.2 z26e]; exact g1) h
              rw [ht2, show 1600 - (i + 1) = k by omega] at this
              exact this
            · omega
theorem C_test {f : Nat → Int} {N ta n b : Nat} (hta : isT ta) (hn : n + b = 8) {SS : St → Int → St → Prop} {S2 : PT} (hS : 0 < n → HT f N ta ((b : Int) + 1) SS S2) {A u : St} {z : Int} {p : Nat} (hE : EK f N A) (hX : LXA f N p A) (h4 : A 3 4 = (b : Int)) (h : r_X5_readTest SS b (ta + 19) A z u) : CA f N ta (sTest f N n (sSumN f N n) S2 (tw ta A) p) z u := by
  obtain ⟨z2, A3, hq, h⟩ := (h : tr_r_X5_readTest SS b (ta + 19) A z u)
  have h1 := C_both hta hn hS hE hX h4 hq
  unfold sTest
  rcases h with ⟨c, nn, h⟩ | ⟨c, hz, _⟩
  · obtain ⟨a, r, hE2, hX2, ht⟩ := h1.pos c
    rw [r]
    have z2e : z2 = 1 := by have := hq.2.2.2.1; omega
    have := C_testL hta hn hS nn 0 A3 a.2 (by omega) hE2 hX2 (by rw [hq.2.2.2.2 z2e]; exact h4) h
    rw [ht] at this
    exact this
  · rw [h1.neg c]
    exact hz
theorem C_testN {f : Nat → Int} {N ta : Nat} (hta : isT ta) : ∀ n : Nat, n ≤ 8 → HT f N ta (8 - (n : Int)) (rq_test (ta + 19) n) (sTestN f N n) := by
  intro n
  induction n with
  | zero =>
    intro _ A z u p hE hX h4 h
    exact C_test (n := 0) (b := 8 - 0) hta (by omega) (fun g => absurd g (by omega)) hE hX (by rw [h4]; rfl) (h.1 : r_X5_readTest (fun _ _ _ => False) (8 - 0) (ta + 19) A z u)
  | succ n ih =>
    intro hn A z u p hE hX h4 h
    refine C_test (n := n + 1) (b := 8 - (n + 1)) hta (by omega) (fun _ => ?_) hE hX (by rw [h4]; omega) (h.1 : r_X5_readTest (rq_test (ta + 19) n) (8 - (n + 1)) (ta + 19) A z u)
    have := ih (by omega)
    rw [show (((8 - (n + 1) : Nat) : Int) + 1) = 8 - (n : Int) by omega]
    exact this
/-! The class's town. -/
theorem CT.ca {f : Nat → Int} {N ta : Nat} {r : Option (St × Nat)} {z : Int} {u : St} (h : CT f N ta r z u) : CA f N ta r z u := by
  cases r with
  | none => exact h
  | some a => exact ⟨h.1, h.2.1.1, Or.inl h.2.1.2, h.2.2⟩
def sBarAdd (T : St) (d a b : Int) : St := stA (stA (stA (stA T 16 (T 1 7).toNat d) 17 (T 1 7).toNat a) 18 (T 1 7).toNat b) 1 7 (T 1 7 + 1)
theorem C_addBar {f : Nat → Int} {N e ta : Nat} {x1 x2 x3 : Int} {A u : St} {z : Int} (hl : tw ta A 1 7 < 6) (hE : EK f N A) (hX : LXA f N e A) (h : q_X9_addBar ta x1 x2 x3 A z u) : z = 1 ∧ EK f N u ∧ LXA f N e u ∧ tw ta u = sBarAdd (tw ta A) x1 x2 x3 := by
  have hE2 : EK f N u := hE.fr h.2.1 h.2.2.1 rfl rfl rfl rfl (fun _ => rfl) (fun _ => rfl)
  have hX2 : LXA f N e u := hX.fr (fun k => h.2.2.1 5 k rfl rfl)
  obtain ⟨z1, hz1, h⟩ := (h.1 : tr_r_X9_addBar ta x1 x2 x3 A z u)
  have hz1 : z1 = tw ta A 1 7 := hz1
  rcases h with ⟨_, A4, hA4, A5, hA5, A6, hA6, A11, hA11, hz, hu⟩ | ⟨c, _⟩
  · refine ⟨hz, hE2, hX2, ?_⟩
    have hA11 : A11 = stA A6 (ta + 1) 7 (z1 + 1) := hA11
    rw [hu, hA11, tw_st, hA6, tw_st, hA5, tw_st, hA4, tw_st, hz1]
    rfl
  · omega
def sBar (f : Nat → Int) (N : Nat) (T : St) (p : Nat) : Option (St × Nat) := (sAsk f N T 1 p).bind fun a => if T 10 a.1.toNat = 0 then none else (sOwn f N 15 a.2).bind fun e => (sTestN f N 8 T e).bind fun b => some (sBarAdd b.1 a.1 (T 19 2) (b.1 19 2), b.2)
theorem C_readBar {f : Nat → Int} {N p ta : Nat} (hta : isT ta) {B u : St} {z : Int} (hE : EK f N B) (hX : LXA f N p B) (hl : tw ta B 1 7 < 6) (h : q_X5_readBar ta B z u) : CA f N ta (sBar f N (tw ta B) p) z u := by
  obtain ⟨z1, A2, hq, h⟩ := (h.1 : tr_r_X5_readBar ta B z u)
  have h1 := C_asked_1 hta hE hX hq
  unfold sBar
  rcases h with ⟨c, z6, hbx, h⟩ | ⟨c, hz, _⟩
  · obtain ⟨a, r1, e1, hC, ht⟩ := h1.pos c
    rw [r1]
    have b1 : 0 ≤ z1 ∧ z1 < tw ta A2 1 1 := by
      have hs : sAsk f N (tw ta B) 1 p = some a := r1
      unfold sAsk at hs
      cases hn : sName f N p with
      | none => rw [hn] at hs; exact absurd hs (by simp)
      | some w =>
        rw [hn] at hs
        have hs : (if sFind (tw ta B) 1 w.1 = -1 then none else some (sFind (tw ta B) 1 w.1, w.2)) = some a := hs
        have bb := sFind_b (tw ta B) 1 w.1
        by_cases g : sFind (tw ta B) 1 w.1 = -1
        · rw [if_pos g] at hs; exact absurd hs (by simp)
        · rw [if_neg g] at hs
          have := Option.some.inj hs
          rw [← this] at e1
          rw [ht, e1]
          rcases bb with bb | bb
          · exact absurd bb g
          · exact bb
    have hB := C_isBox b1 hbx.1
    rw [ht, e1] at hB
    show CA f N ta (if tw ta B 10 a.1.toNat = 0 then none else _) z u
    rcases h with ⟨c1, A12, hA12, z13, A14, hq2, h⟩ | ⟨c1, z32, A33, hb, hz, _⟩
    · rcases hB with ⟨g, _⟩ | ⟨_, g⟩
      · omega
      · rw [if_neg g]
        have hI12 : IK A12 := isRD_4 hA12 hC.1.1 (by decide)
        have hf12 : fk [] [(3, 4)] A2 A12 := fk.df fk.rf hA12 rfl
        have hC12 : CS f N a.2 A12 := hC.fr hI12 hf12 rfl rfl rfl rfl rfl (fun _ => rfl) (fun _ => rfl) (fun _ => rfl)
        have t12 : tw ta A12 = tw ta B := (tw_fk hta hf12 rfl).trans ht
        have h2 := C_ownWord hta (k := 15) (by decide) rfl hC12.1 (Or.inl hC12.2) hq2
        show CA f N ta ((sOwn f N 15 a.2).bind _) z u
        rcases h with ⟨c2, hz, _⟩ | ⟨c2, z20, A21, hq3, h⟩
        · rw [h2.neg c2]
          exact hz
        · obtain ⟨e, r2, hC2, ht2⟩ := h2.pos c2
          rw [r2]
          have g0 : A14 3 4 = 0 := (hq2.2.2.1 3 4 rfl rfl).trans (by rw [hA12]; rfl)
          have h3 := C_testN (f := f) (N := N) hta 8 (by decide) A14 z20 A21 e hC2.1 (Or.inl hC2.2) (by rw [g0]; rfl) hq3
          rw [ht2, t12] at h3
          show CA f N ta ((sTestN f N 8 (tw ta B) e).bind _) z u
          rcases h with ⟨c3, hz, _⟩ | ⟨c3, z27, A28, hq4, h⟩
          · rw [h3.neg c3]
            exact hz
          · obtain ⟨b, r3, hE3, hX3, ht3⟩ := h3.pos c3
            rw [r3]
            have l7 : tw ta A21 1 7 = tw ta B 1 7 := by
              rw [← t12, ← ht2]
              show A21 (ta + 1) 7 = A14 (ta + 1) 7
              rcases hta with rfl | rfl
              · exact hq3.2.2.1 52 7 rfl rfl
              · exact hq3.2.2.1 83 7 rfl rfl
            obtain ⟨k1, k2, k3, k4⟩ := C_addBar (by rw [l7]; exact hl) hE3 hX3 hq4
            have e21 : A21 (ta + 19) 2 = b.1 19 2 := by rw [← ht3]; rfl
            rw [e21, ht3, e1] at k4
            rcases h with ⟨c4, _⟩ | ⟨_, hz, hu⟩
            · omega
            · rw [hu]
              exact ⟨hz, k2, k3, k4⟩
    · rcases hB with ⟨_, g⟩ | ⟨g, _⟩
      · rw [if_pos g]
        exact hz.trans hb.2.2.2.2
      · exact absurd g c1
  · rw [h1.neg c]
    exact hz
def sPlace (f : Nat → Int) (N : Nat) (T : St) (p : Nat) : Option (St × Nat) := (sNew f N T p).bind fun a => some (sAdd T 0 a.1, a.2)
/-- the word's limit is not reached -/
def limOK (T : St) (k : Nat) : Prop := kindK k = -1 ∨ T 1 (kindK k).toNat < limK (kindK k).toNat
theorem C_word {f : Nat → Int} {N p ta : Nat} (hta : isT ta) {B u : St} {z : Int} (hE : EK f N B) (hX : LX1 f N p B) (h : q_X5_statementWord ta B z u) : (z = -1 ∧ (tKind f N p ≠ 1 ∨ (∀ k, k < 12 → wv f N p ≠ own5 k) ∨ ∃ k, k < 12 ∧ wv f N p = own5 k ∧ ¬ limOK (tw ta B) k)) ∨ (∃ k : Nat, k < 12 ∧ z = (k : Int) ∧ tKind f N p = 1 ∧ wv f N p = own5 k ∧ limOK (tw ta B) k ∧ CS f N (tEnd f N p) u ∧ tw ta u = tw ta B) := by
  have ht : tw ta u = tw ta B := tw_fk hta h.2.2.1 rfl
  obtain ⟨nn, h⟩ := (h.1 : tr_r_X5_statementWord ta B z u)
  have k2 := hX.2.2.1
  have lp : ∀ (m i : Nat), i ≤ 12 → (tKind f N p = 1 → ∀ k, k < i → wv f N p ≠ own5 k) → d_X5_statementWord_1 ta B z u m (i : Int) → (z = -1 ∧ (tKind f N p ≠ 1 ∨ (∀ k, k < 12 → wv f N p ≠ own5 k) ∨ ∃ k, k < 12 ∧ wv f N p = own5 k ∧ ¬ limOK (tw ta B) k)) ∨ (∃ k : Nat, k < 12 ∧ z = (k : Int) ∧ tKind f N p = 1 ∧ wv f N p = own5 k ∧ limOK (tw ta B) k ∧ CS f N (tEnd f N p) u ∧ tw ta u = tw ta B) := by
    intro m
    induction m with
    | zero => intro i _ _ h; exact h.elim
    | succ m ih =>
      intro i hi hk h
      obtain ⟨_, h⟩ := (h : tr_d_X5_statementWord_1 ta B z u (fun z1 => d_X5_statementWord_1 ta B z u m z1) i)
      rcases h with ⟨c, z8, A9, hb, hz, _⟩ | ⟨c, h⟩
      · refine Or.inl ⟨hz.trans (C_none hb), ?_⟩
        by_cases tk : tKind f N p = 1
        · exact Or.inr (Or.inl (fun k hk2 => hk tk k (by omega)))
        · exact Or.inl tk
      · rcases h with ⟨c1, h⟩ | ⟨c1, z16, hz16, h⟩
        · exact ih (i + 1) (by omega) (fun tk => by omega) (h : tr_d_X5_statementWord_2 _ i z u)
        · have tk : tKind f N p = 1 := by omega
          have hv : B 5 4 = wv f N p := hX.2.2.2.2.1 tk
          have e16 : z16 = own5 i := by
            rw [hz16, Int.toNat_natCast]
            exact hE.2.2.2.2 i (by omega)
          rw [e16, hv] at h
          rcases h with ⟨c2, h⟩ | ⟨c2, z18, hz18, h⟩
          · refine ih (i + 1) (by omega) (fun tk k hk2 => ?_) (h : tr_d_X5_statementWord_2 _ i z u)
            by_cases e : k = i
            · rw [e]; exact c2
            · exact hk tk k (by omega)
          · rw [Int.toNat_natCast] at hz18
            have yes : limOK (tw ta B) i → ∀ A20 : St, q_X3_pass B A20 → z = (i : Int) → u = A20 → (∃ k : Nat, k < 12 ∧ z = (k : Int) ∧ tKind f N p = 1 ∧ wv f N p = own5 k ∧ limOK (tw ta B) k ∧ CS f N (tEnd f N p) u ∧ tw ta u = tw ta B) := by
              intro hl A20 hp hz hu
              have hP := passX hE hX (by omega) hp
              exact ⟨i, by omega, hz, tk, c2, hl, by rw [hu]; exact ⟨hP.1, hP.2.1⟩, ht⟩
            rcases h with ⟨c3, A20, hp, hz, hu⟩ | ⟨c3, z24, hz24, z25, hz25, h⟩
            · exact Or.inr (yes (Or.inl (by rw [← hz18]; exact c3)) A20 hp hz hu)
            · rw [hz18] at hz24 hz25 c3
              rcases h with ⟨c4, A27, hp, hz, hu⟩ | ⟨c4, z31, A32, hb, hz, _⟩
              · refine Or.inr (yes (Or.inr ?_) A27 hp hz hu)
                rw [← hz25]
                show B (ta + 1) (kindK i).toNat < z25
                rw [← hz24]
                exact c4
              · refine Or.inl ⟨hz.trans (C_none hb), Or.inr (Or.inr ⟨i, by omega, c2, ?_⟩)⟩
                rintro (g | g)
                · exact c3 g
                · rw [← hz25] at g
                  have g : B (ta + 1) (kindK i).toNat < z25 := g
                  rw [← hz24] at g
                  exact c4 g
  exact lp nn 0 (by omega) (fun _ k hk => absurd hk (by omega)) h
def sStmt (f : Nat → Int) (N : Nat) (T : St) (p : Nat) : Option (St × Nat) := if tKind f N p ≠ 1 then none
  else if wv f N p = own5 0 then (if T 1 0 < 8 then sPlace f N T (tEnd f N p) else none)
  else if wv f N p = own5 1 then (if T 1 1 < 10 then sDoor f N T (tEnd f N p) else none)
  else if wv f N p = own5 2 then (if T 1 1 < 10 then sBox f N T (tEnd f N p) else none)
  else if wv f N p = own5 3 then (if T 1 2 < 4 then sKey f N T (tEnd f N p) else none)
  else if wv f N p = own5 4 then (if T 1 3 < 3 then sPerson f N T (tEnd f N p) else none)
  else if wv f N p = own5 5 then (if T 1 4 < 4 then sThing f N T (tEnd f N p) else none)
  else if wv f N p = own5 6 then (if T 1 5 < 6 then sWants f N T (tEnd f N p) else none)
  else if wv f N p = own5 7 then (if T 1 6 < 6 then sMust f N T (tEnd f N p) else none)
  else if wv f N p = own5 8 then (if T 1 7 < 6 then sBar f N T (tEnd f N p) else none)
  else if wv f N p = own5 9 then sHas f N T (tEnd f N p)
  else if wv f N p = own5 10 then sShut f N T (tEnd f N p)
  else if wv f N p = own5 11 then sLost f N T (tEnd f N p)
  else none
theorem own5_inj : ∀ i : Fin 12, ∀ j : Fin 12, own5 i.val = own5 j.val → i = j := by decide +kernel
theorem sStmt_0 {f : Nat → Int} {N p : Nat} {T : St} (tk : tKind f N p = 1) (hw : wv f N p = own5 0) : sStmt f N T p = (if T 1 0 < 8 then sPlace f N T (tEnd f N p) else none) := by
  unfold sStmt
  rw [if_neg (fun g => g tk), if_pos hw]
theorem sStmt_1 {f : Nat → Int} {N p : Nat} {T : St} (tk : tKind f N p = 1) (hw : wv f N p = own5 1) : sStmt f N T p = (if T 1 1 < 10 then sDoor f N T (tEnd f N p) else none) := by
  unfold sStmt
  rw [if_neg (fun g => g tk), if_neg (fun g => absurd (own5_inj ⟨1, by decide⟩ ⟨0, by decide⟩ (hw.symm.trans g)) (by decide)), if_pos hw]
theorem sStmt_2 {f : Nat → Int} {N p : Nat} {T : St} (tk : tKind f N p = 1) (hw : wv f N p = own5 2) : sStmt f N T p = (if T 1 1 < 10 then sBox f N T (tEnd f N p) else none) := by
  unfold sStmt
  rw [if_neg (fun g => g tk), if_neg (fun g => absurd (own5_inj ⟨2, by decide⟩ ⟨0, by decide⟩ (hw.symm.trans g)) (by decide)), if_neg (fun g => absurd (own5_inj ⟨2, by decide⟩ ⟨1, by decide⟩ (hw.symm.trans g)) (by decide)), if_pos hw]
theorem sStmt_3 {f : Nat → Int} {N p : Nat} {T : St} (tk : tKind f N p = 1) (hw : wv f N p = own5 3) : sStmt f N T p = (if T 1 2 < 4 then sKey f N T (tEnd f N p) else none) := by
  unfold sStmt
  rw [if_neg (fun g => g tk), if_neg (fun g => absurd (own5_inj ⟨3, by decide⟩ ⟨0, by decide⟩ (hw.symm.trans g)) (by decide)), if_neg (fun g => absurd (own5_inj ⟨3, by decide⟩ ⟨1, by decide⟩ (hw.symm.trans g)) (by decide)), if_neg (fun g => absurd (own5_inj ⟨3, by decide⟩ ⟨2, by decide⟩ (hw.symm.trans g)) (by decide)), if_pos hw]
theorem sStmt_4 {f : Nat → Int} {N p : Nat} {T : St} (tk : tKind f N p = 1) (hw : wv f N p = own5 4) : sStmt f N T p = (if T 1 3 < 3 then sPerson f N T (tEnd f N p) else none) := by
  unfold sStmt
  rw [if_neg (fun g => g tk), if_neg (fun g => absurd (own5_inj ⟨4, by decide⟩ ⟨0, by decide⟩ (hw.symm.trans g)) (by decide)), if_neg (fun g => absurd (own5_inj ⟨4, by decide⟩ ⟨1, by decide⟩ (hw.symm.trans g)) (by decide)), if_neg (fun g => absurd (own5_inj ⟨4, by decide⟩ ⟨2, by decide⟩ (hw.symm.trans g)) (by decide)), if_neg (fun g => absurd (own5_inj ⟨4, by decide⟩ ⟨3, by decide⟩ (hw.symm.trans g)) (by decide)), if_pos hw]
theorem sStmt_5 {f : Nat → Int} {N p : Nat} {T : St} (tk : tKind f N p = 1) (hw : wv f N p = own5 5) : sStmt f N T p = (if T 1 4 < 4 then sThing f N T (tEnd f N p) else none) := by
  unfold sStmt
  rw [if_neg (fun g => g tk), if_neg (fun g => absurd (own5_inj ⟨5, by decide⟩ ⟨0, by decide⟩ (hw.symm.trans g)) (by decide)), if_neg (fun g => absurd (own5_inj ⟨5, by decide⟩ ⟨1, by decide⟩ (hw.symm.trans g)) (by decide)), if_neg (fun g => absurd (own5_inj ⟨5, by decide⟩ ⟨2, by decide⟩ (hw.symm.trans g)) (by decide)), if_neg (fun g => absurd (own5_inj ⟨5, by decide⟩ ⟨3, by decide⟩ (hw.symm.trans g)) (by decide)), if_neg (fun g => absurd (own5_inj ⟨5, by decide⟩ ⟨4, by decide⟩ (hw.symm.trans g)) (by decide)), if_pos hw]
theorem sStmt_6 {f : Nat → Int} {N p : Nat} {T : St} (tk : tKind f N p = 1) (hw : wv f N p = own5 6) : sStmt f N T p = (if T 1 5 < 6 then sWants f N T (tEnd f N p) else none) := by
  unfold sStmt
  rw [if_neg (fun g => g tk), if_neg (fun g => absurd (own5_inj ⟨6, by decide⟩ ⟨0, by decide⟩ (hw.symm.trans g)) (by decide)), if_neg (fun g => absurd (own5_inj ⟨6, by decide⟩ ⟨1, by decide⟩ (hw.symm.trans g)) (by decide)), if_neg (fun g => absurd (own5_inj ⟨6, by decide⟩ ⟨2, by decide⟩ (hw.symm.trans g)) (by decide)), if_neg (fun g => absurd (own5_inj ⟨6, by decide⟩ ⟨3, by decide⟩ (hw.symm.trans g)) (by decide)), if_neg (fun g => absurd (own5_inj ⟨6, by decide⟩ ⟨4, by decide⟩ (hw.symm.trans g)) (by decide)), if_neg (fun g => absurd (own5_inj ⟨6, by decide⟩ ⟨5, by decide⟩ (hw.symm.trans g)) (by decide)), if_pos hw]
theorem sStmt_7 {f : Nat → Int} {N p : Nat} {T : St} (tk : tKind f N p = 1) (hw : wv f N p = own5 7) : sStmt f N T p = (if T 1 6 < 6 then sMust f N T (tEnd f N p) else none) := by
  unfold sStmt
  rw [if_neg (fun g => g tk), if_neg (fun g => absurd (own5_inj ⟨7, by decide⟩ ⟨0, by decide⟩ (hw.symm.trans g)) (by decide)), if_neg (fun g => absurd (own5_inj ⟨7, by decide⟩ ⟨1, by decide⟩ (hw.symm.trans g)) (by decide)), if_neg (fun g => absurd (own5_inj ⟨7, by decide⟩ ⟨2, by decide⟩ (hw.symm.trans g)) (by decide)), if_neg (fun g => absurd (own5_inj ⟨7, by decide⟩ ⟨3, by decide⟩ (hw.symm.trans g)) (by decide)), if_neg (fun g => absurd (own5_inj ⟨7, by decide⟩ ⟨4, by decide⟩ (hw.symm.trans g)) (by decide)), if_neg (fun g => absurd (own5_inj ⟨7, by decide⟩ ⟨5, by decide⟩ (hw.symm.trans g)) (by decide)), if_neg (fun g => absurd (own5_inj ⟨7, by decide⟩ ⟨6, by decide⟩ (hw.symm.trans g)) (by decide)), if_pos hw]
theorem sStmt_8 {f : Nat → Int} {N p : Nat} {T : St} (tk : tKind f N p = 1) (hw : wv f N p = own5 8) : sStmt f N T p = (if T 1 7 < 6 then sBar f N T (tEnd f N p) else none) := by
  unfold sStmt
  rw [if_neg (fun g => g tk), if_neg (fun g => absurd (own5_inj ⟨8, by decide⟩ ⟨0, by decide⟩ (hw.symm.trans g)) (by decide)), if_neg (fun g => absurd (own5_inj ⟨8, by decide⟩ ⟨1, by decide⟩ (hw.symm.trans g)) (by decide)), if_neg (fun g => absurd (own5_inj ⟨8, by decide⟩ ⟨2, by decide⟩ (hw.symm.trans g)) (by decide)), if_neg (fun g => absurd (own5_inj ⟨8, by decide⟩ ⟨3, by decide⟩ (hw.symm.trans g)) (by decide)), if_neg (fun g => absurd (own5_inj ⟨8, by decide⟩ ⟨4, by decide⟩ (hw.symm.trans g)) (by decide)), if_neg (fun g => absurd (own5_inj ⟨8, by decide⟩ ⟨5, by decide⟩ (hw.symm.trans g)) (by decide)), if_neg (fun g => absurd (own5_inj ⟨8, by decide⟩ ⟨6, by decide⟩ (hw.symm.trans g)) (by decide)), if_neg (fun g => absurd (own5_inj ⟨8, by decide⟩ ⟨7, by decide⟩ (hw.symm.trans g)) (by decide)), if_pos hw]
theorem sStmt_9 {f : Nat → Int} {N p : Nat} {T : St} (tk : tKind f N p = 1) (hw : wv f N p = own5 9) : sStmt f N T p = sHas f N T (tEnd f N p) := by
  unfold sStmt
  rw [if_neg (fun g => g tk), if_neg (fun g => absurd (own5_inj ⟨9, by decide⟩ ⟨0, by decide⟩ (hw.symm.trans g)) (by decide)), if_neg (fun g => absurd (own5_inj ⟨9, by decide⟩ ⟨1, by decide⟩ (hw.symm.trans g)) (by decide)), if_neg (fun g => absurd (own5_inj ⟨9, by decide⟩ ⟨2, by decide⟩ (hw.symm.trans g)) (by decide)), if_neg (fun g => absurd (own5_inj ⟨9, by decide⟩ ⟨3, by decide⟩ (hw.symm.trans g)) (by decide)), if_neg (fun g => absurd (own5_inj ⟨9, by decide⟩ ⟨4, by decide⟩ (hw.symm.trans g)) (by decide)), if_neg (fun g => absurd (own5_inj ⟨9, by decide⟩ ⟨5, by decide⟩ (hw.symm.trans g)) (by decide)), if_neg (fun g => absurd (own5_inj ⟨9, by decide⟩ ⟨6, by decide⟩ (hw.symm.trans g)) (by decide)), if_neg (fun g => absurd (own5_inj ⟨9, by decide⟩ ⟨7, by decide⟩ (hw.symm.trans g)) (by decide)), if_neg (fun g => absurd (own5_inj ⟨9, by decide⟩ ⟨8, by decide⟩ (hw.symm.trans g)) (by decide)), if_pos hw]
theorem sStmt_10 {f : Nat → Int} {N p : Nat} {T : St} (tk : tKind f N p = 1) (hw : wv f N p = own5 10) : sStmt f N T p = sShut f N T (tEnd f N p) := by
  unfold sStmt
  rw [if_neg (fun g => g tk), if_neg (fun g => absurd (own5_inj ⟨10, by decide⟩ ⟨0, by decide⟩ (hw.symm.trans g)) (by decide)), if_neg (fun g => absurd (own5_inj ⟨10, by decide⟩ ⟨1, by decide⟩ (hw.symm.trans g)) (by decide)), if_neg (fun g => absurd (own5_inj ⟨10, by decide⟩ ⟨2, by decide⟩ (hw.symm.trans g)) (by decide)), if_neg (fun g => absurd (own5_inj ⟨10, by decide⟩ ⟨3, by decide⟩ (hw.symm.trans g)) (by decide)), if_neg (fun g => absurd (own5_inj ⟨10, by decide⟩ ⟨4, by decide⟩ (hw.symm.trans g)) (by decide)), if_neg (fun g => absurd (own5_inj ⟨10, by decide⟩ ⟨5, by decide⟩ (hw.symm.trans g)) (by decide)), if_neg (fun g => absurd (own5_inj ⟨10, by decide⟩ ⟨6, by decide⟩ (hw.symm.trans g)) (by decide)), if_neg (fun g => absurd (own5_inj ⟨10, by decide⟩ ⟨7, by decide⟩ (hw.symm.trans g)) (by decide)), if_neg (fun g => absurd (own5_inj ⟨10, by decide⟩ ⟨8, by decide⟩ (hw.symm.trans g)) (by decide)), if_neg (fun g => absurd (own5_inj ⟨10, by decide⟩ ⟨9, by decide⟩ (hw.symm.trans g)) (by decide)), if_pos hw]
theorem sStmt_11 {f : Nat → Int} {N p : Nat} {T : St} (tk : tKind f N p = 1) (hw : wv f N p = own5 11) : sStmt f N T p = sLost f N T (tEnd f N p) := by
  unfold sStmt
  rw [if_neg (fun g => g tk), if_neg (fun g => absurd (own5_inj ⟨11, by decide⟩ ⟨0, by decide⟩ (hw.symm.trans g)) (by decide)), if_neg (fun g => absurd (own5_inj ⟨11, by decide⟩ ⟨1, by decide⟩ (hw.symm.trans g)) (by decide)), if_neg (fun g => absurd (own5_inj ⟨11, by decide⟩ ⟨2, by decide⟩ (hw.symm.trans g)) (by decide)), if_neg (fun g => absurd (own5_inj ⟨11, by decide⟩ ⟨3, by decide⟩ (hw.symm.trans g)) (by decide)), if_neg (fun g => absurd (own5_inj ⟨11, by decide⟩ ⟨4, by decide⟩ (hw.symm.trans g)) (by decide)), if_neg (fun g => absurd (own5_inj ⟨11, by decide⟩ ⟨5, by decide⟩ (hw.symm.trans g)) (by decide)), if_neg (fun g => absurd (own5_inj ⟨11, by decide⟩ ⟨6, by decide⟩ (hw.symm.trans g)) (by decide)), if_neg (fun g => absurd (own5_inj ⟨11, by decide⟩ ⟨7, by decide⟩ (hw.symm.trans g)) (by decide)), if_neg (fun g => absurd (own5_inj ⟨11, by decide⟩ ⟨8, by decide⟩ (hw.symm.trans g)) (by decide)), if_neg (fun g => absurd (own5_inj ⟨11, by decide⟩ ⟨9, by decide⟩ (hw.symm.trans g)) (by decide)), if_neg (fun g => absurd (own5_inj ⟨11, by decide⟩ ⟨10, by decide⟩ (hw.symm.trans g)) (by decide)), if_pos hw]
theorem sStmt_none {f : Nat → Int} {N p : Nat} {T : St} (h : tKind f N p ≠ 1 ∨ (∀ k, k < 12 → wv f N p ≠ own5 k) ∨ ∃ k, k < 12 ∧ wv f N p = own5 k ∧ ¬ limOK T k) : sStmt f N T p = none := by
  by_cases tk : tKind f N p = 1
  · rcases h with h | h | ⟨k, hk, hw, hl⟩
    · exact absurd tk h
    · unfold sStmt
      rw [if_neg (fun g => g tk), if_neg (h 0 (by decide)), if_neg (h 1 (by decide)), if_neg (h 2 (by decide)), if_neg (h 3 (by decide)), if_neg (h 4 (by decide)), if_neg (h 5 (by decide)), if_neg (h 6 (by decide)), if_neg (h 7 (by decide)), if_neg (h 8 (by decide)), if_neg (h 9 (by decide)), if_neg (h 10 (by decide)), if_neg (h 11 (by decide))]
    · rcases (show k = 0 ∨ k = 1 ∨ k = 2 ∨ k = 3 ∨ k = 4 ∨ k = 5 ∨ k = 6 ∨ k = 7 ∨ k = 8 ∨ k = 9 ∨ k = 10 ∨ k = 11 by omega) with rfl | rfl | rfl | rfl | rfl | rfl | rfl | rfl | rfl | rfl | rfl | rfl
      · rw [sStmt_0 tk hw, if_neg (show ¬ T 1 0 < 8 from fun g => hl (Or.inr g))]
      · rw [sStmt_1 tk hw, if_neg (show ¬ T 1 1 < 10 from fun g => hl (Or.inr g))]
      · rw [sStmt_2 tk hw, if_neg (show ¬ T 1 1 < 10 from fun g => hl (Or.inr g))]
      · rw [sStmt_3 tk hw, if_neg (show ¬ T 1 2 < 4 from fun g => hl (Or.inr g))]
      · rw [sStmt_4 tk hw, if_neg (show ¬ T 1 3 < 3 from fun g => hl (Or.inr g))]
      · rw [sStmt_5 tk hw, if_neg (show ¬ T 1 4 < 4 from fun g => hl (Or.inr g))]
      · rw [sStmt_6 tk hw, if_neg (show ¬ T 1 5 < 6 from fun g => hl (Or.inr g))]
      · rw [sStmt_7 tk hw, if_neg (show ¬ T 1 6 < 6 from fun g => hl (Or.inr g))]
      · rw [sStmt_8 tk hw, if_neg (show ¬ T 1 7 < 6 from fun g => hl (Or.inr g))]
      · exact absurd (Or.inl rfl) hl
      · exact absurd (Or.inl rfl) hl
      · exact absurd (Or.inl rfl) hl
  · unfold sStmt
    rw [if_pos tk]
def sTownL (f : Nat → Int) (N : Nat) : Nat → Nat → St → Nat → Option (Nat × St)
  | 0, _, _, _ => none
  | k + 1, n, T, p => if tKind f N p = 0 then some (n, T) else (sStmt f N T p).bind fun a => (sSign f N 59 a.2).bind fun e => sTownL f N k (n + 1) a.1 e
def CW (f : Nat → Int) (N ta : Nat) (r : Option (Nat × St)) (z : Int) (u : St) : Prop := match r with
  | none => z = -1
  | some a => z = (a.1 : Int) ∧ EK f N u ∧ tw ta u = a.2
theorem C_t2 {f : Nat → Int} {N ta k i : Nat} (hta : isT ta) {K : Int → St → Prop} {r : Option (St × Nat)} {zs z : Int} {B u : St} (hK : ∀ (A : St) (e : Nat), EK f N A → LXA f N e A → K ((i : Int) + 1) A → CW f N ta (sTownL f N k (i + 1) (tw ta A) e) z u) (h1 : CA f N ta r zs B) (h : d_X5_readTown_2 K (i : Int) z u zs B) : CW f N ta (r.bind fun a => (sSign f N 59 a.2).bind fun e => sTownL f N k (i + 1) a.1 e) z u := by
  obtain ⟨_, _, h⟩ := (h : tr_d_X5_readTown_2 K (i : Int) z u zs B)
  rcases h with ⟨c, hz, _⟩ | ⟨c, z90, A91, hq, h⟩
  · rw [h1.neg c]
    exact hz
  · obtain ⟨a, r1, hE, hX, ht⟩ := h1.pos c
    rw [r1]
    have h2 := C_sign hta (by decide) hE hX hq
    show CW f N ta ((sSign f N 59 a.2).bind _) z u
    rcases h with ⟨c2, h⟩ | ⟨c2, hz, _⟩
    · obtain ⟨e, r2, hC, ht2⟩ := h2.pos c2
      rw [r2]
      have := hK A91 e hC.1 (Or.inl hC.2) h
      rw [ht2, ht] at this
      exact this
    · rw [h2.neg c2]
      exact hz
theorem C_townL {f : Nat → Int} {N ta : Nat} (hta : isT ta) {u : St} {z : Int} : ∀ (nn i : Nat) (A : St) (p : Nat), i ≤ 1601 → EK f N A → LXA f N p A → d_X5_readTown_1 ta z u nn (i : Int) A → CW f N ta (sTownL f N (1601 - i) i (tw ta A) p) z u := by
  intro nn
  induction nn with
  | zero => intro i A p _ _ _ h; exact h.elim
  | succ m ih =>
    intro i A p hi hE hX h
    obtain ⟨_, _, h⟩ := (h : tr_d_X5_readTown_1 ta z u (fun z9 A11 => d_X5_readTown_1 ta z u m z9 A11) i A)
    rcases h with ⟨c, hz, _⟩ | ⟨c, A18, hq, h⟩
    · rw [show 1601 - i = 0 by omega]
      exact hz
    · obtain ⟨k, hk⟩ : ∃ k, 1601 - i = k + 1 := ⟨1601 - i - 1, by omega⟩
      rw [hk]
      unfold sTownL
      obtain ⟨hE1, hX1⟩ := lookA hE hX hq
      have ht1 : tw ta A18 = tw ta A := tw_fk hta hq.2.2.1 rfl
      have k2 := hX1.2.2.1
      rcases h with ⟨c1, z23, A24, hq2, h⟩ | ⟨c1, hz, hu⟩
      · rw [if_neg (by omega)]
        have hK : ∀ (B : St) (e : Nat), EK f N B → LXA f N e B → d_X5_readTown_1 ta z u m ((i : Int) + 1) B → CW f N ta (sTownL f N k (i + 1) (tw ta B) e) z u := by
          intro B e hE hX h
          have := ih (i + 1) B e (by omega) hE hX h
          rw [show 1601 - (i + 1) = k by omega] at this
          exact this
        rcases C_word hta hE1 hX1 hq2 with ⟨e1, e2⟩ | ⟨w, hw, e1, tk, hv, hl, hC, ht⟩
        · rw [ht1] at e2
          rw [sStmt_none e2]
          rcases h with ⟨_, h⟩ | h
          · obtain ⟨_, _, h⟩ := (h : tr_d_X5_readTown_2 _ (i : Int) z u 0 A24)
            rcases h with ⟨_, hz, _⟩ | ⟨c, _⟩
            · exact hz
            · exact absurd rfl c
          · exfalso
            rcases h with ⟨c, _⟩ | ⟨c, _⟩ | ⟨c, _⟩ | ⟨c, _⟩ | ⟨c, _⟩ | ⟨c, _⟩ | ⟨c, _⟩ | ⟨c, _⟩ | ⟨c, _⟩ | ⟨c, _⟩ | ⟨c, _⟩ | ⟨c, _⟩ <;> omega
        · rw [ht1] at ht hl
          rcases h with ⟨c, _⟩ | ⟨c, h⟩ | ⟨c, h⟩ | ⟨c, h⟩ | ⟨c, h⟩ | ⟨c, h⟩ | ⟨c, h⟩ | ⟨c, h⟩ | ⟨c, h⟩ | ⟨c, h⟩ | ⟨c, h⟩ | ⟨c, h⟩ | ⟨c, h⟩
          · omega
          · obtain rfl : w = 0 := by omega
            have hl : tw ta A 1 0 < 8 := by rcases hl with g | g; exact absurd g (by decide); exact g
            rw [sStmt_0 tk hv, if_pos hl]
            obtain ⟨z29, A30, hq3, z33, A34, hq4, h⟩ := h
            refine C_t2 hta hK ?_ h
            have h3 := C_newName hta hC.1 (Or.inl hC.2) hq3
            rw [ht] at h3
            unfold sPlace
            by_cases g : z29 = -1
            · rw [h3.neg g]
              rcases (hq4.1 : tr_r_X9_add_1_0 ta z29 A30 z33 A34) with ⟨_, hz, _⟩ | ⟨c9, _⟩
              · exact hz
              · exact absurd g c9
            · obtain ⟨a, r3, e3, hC3, ht3⟩ := h3.pos g
              rw [r3]
              have t30 : tw ta A30 = tw ta A := ht3.trans ht
              obtain ⟨g1, g2, g3⟩ := C_add_0 (by rw [t30]; exact hl) g hC3 hq4
              rw [t30, e3] at g3
              exact ⟨g1, g2.1, Or.inl g2.2, g3⟩
          · obtain rfl : w = 1 := by omega
            have hl : tw ta A 1 1 < 10 := by rcases hl with g | g; exact absurd g (by decide); exact g
            rw [sStmt_1 tk hv, if_pos hl]
            obtain ⟨z29, A30, hq3, h⟩ := h
            have h3 := C_readDoor hta hC.1 (Or.inl hC.2) (by rw [ht]; exact hl) hq3
            rw [ht] at h3
            exact C_t2 hta hK h3.ca h
          · obtain rfl : w = 2 := by omega
            have hl : tw ta A 1 1 < 10 := by rcases hl with g | g; exact absurd g (by decide); exact g
            rw [sStmt_2 tk hv, if_pos hl]
            obtain ⟨z29, A30, hq3, h⟩ := h
            have h3 := C_readBox hta hC.1 (Or.inl hC.2) (by rw [ht]; exact hl) hq3
            rw [ht] at h3
            exact C_t2 hta hK h3.ca h
          · obtain rfl : w = 3 := by omega
            have hl : tw ta A 1 2 < 4 := by rcases hl with g | g; exact absurd g (by decide); exact g
            rw [sStmt_3 tk hv, if_pos hl]
            obtain ⟨z29, A30, hq3, h⟩ := h
            have h3 := C_readKey hta hC.1 (Or.inl hC.2) (by rw [ht]; exact hl) hq3
            rw [ht] at h3
            exact C_t2 hta hK h3.ca h
          · obtain rfl : w = 4 := by omega
            have hl : tw ta A 1 3 < 3 := by rcases hl with g | g; exact absurd g (by decide); exact g
            rw [sStmt_4 tk hv, if_pos hl]
            obtain ⟨z29, A30, hq3, h⟩ := h
            have h3 := C_readPerson hta hC.1 (Or.inl hC.2) (by rw [ht]; exact hl) hq3
            rw [ht] at h3
            exact C_t2 hta hK h3.ca h
          · obtain rfl : w = 5 := by omega
            have hl : tw ta A 1 4 < 4 := by rcases hl with g | g; exact absurd g (by decide); exact g
            rw [sStmt_5 tk hv, if_pos hl]
            obtain ⟨z29, A30, hq3, h⟩ := h
            have h3 := C_readThing hta hC.1 (Or.inl hC.2) (by rw [ht]; exact hl) hq3
            rw [ht] at h3
            exact C_t2 hta hK h3.ca h
          · obtain rfl : w = 6 := by omega
            have hl : tw ta A 1 5 < 6 := by rcases hl with g | g; exact absurd g (by decide); exact g
            rw [sStmt_6 tk hv, if_pos hl]
            obtain ⟨z29, A30, hq3, h⟩ := h
            have h3 := C_readWants hta hC.1 (Or.inl hC.2) hq3
            rw [ht] at h3
            exact C_t2 hta hK h3.ca h
          · obtain rfl : w = 7 := by omega
            have hl : tw ta A 1 6 < 6 := by rcases hl with g | g; exact absurd g (by decide); exact g
            rw [sStmt_7 tk hv, if_pos hl]
            obtain ⟨z29, A30, hq3, h⟩ := h
            have h3 := C_readMust hta hC.1 (Or.inl hC.2) (by rw [ht]; exact hl) hq3
            rw [ht] at h3
            exact C_t2 hta hK h3.ca h
          · obtain rfl : w = 8 := by omega
            have hl : tw ta A 1 7 < 6 := by rcases hl with g | g; exact absurd g (by decide); exact g
            rw [sStmt_8 tk hv, if_pos hl]
            obtain ⟨z29, A30, hq3, h⟩ := h
            have h3 := C_readBar hta hC.1 (Or.inl hC.2) (by rw [ht]; exact hl) hq3
            rw [ht] at h3
            exact C_t2 hta hK h3 h
          · obtain rfl : w = 9 := by omega
            rw [sStmt_9 tk hv]
            obtain ⟨z29, A30, hq3, h⟩ := h
            have h3 := C_readHas hta hC.1 (Or.inl hC.2) hq3
            rw [ht] at h3
            exact C_t2 hta hK h3.ca h
          · obtain rfl : w = 10 := by omega
            rw [sStmt_10 tk hv]
            obtain ⟨z29, A30, hq3, h⟩ := h
            have h3 := C_readShut hta hC.1 (Or.inl hC.2) hq3
            rw [ht] at h3
            exact C_t2 hta hK h3.ca h
          · obtain rfl : w = 11 := by omega
            rw [sStmt_11 tk hv]
            obtain ⟨z29, A30, hq3, h⟩ := h
            have h3 := C_readLost hta hC.1 (Or.inl hC.2) hq3
            rw [ht] at h3
            exact C_t2 hta hK h3.ca h
      · rw [if_pos (by omega), hu]
        exact ⟨hz, hE1, ht1⟩
def clr (j : Nat) : Nat → St → St
  | 0, T => T
  | n + 1, T => stA (clr j n T) j n 0
def sClear (T : St) : St := stA (stA (clr 25 4 (clr 12 3 (clr 1 8 T))) 19 2 0) 0 15 0
theorem C_clear {ta : Nat} {A u : St} (h : q_X9_clear ta A u) : tw ta u = sClear (tw ta A) := by
  have l3 : ∀ (nn i : Nat) (T : St) (B : St), i ≤ 4 → tw ta B = clr 25 i T → d_X9_clear_3 ta u nn (i : Int) B → tw ta u = stA (stA (clr 25 4 T) 19 2 0) 0 15 0 := by
    intro nn
    induction nn with
    | zero => intro i T B _ _ h; exact h.elim
    | succ m ih =>
      intro i T B hi ht h
      obtain ⟨_, _, h⟩ := (h : tr_d_X9_clear_3 ta u (fun z19 A21 => d_X9_clear_3 ta u m z19 A21) i B)
      rcases h with ⟨c, A28, hA28, A29, hA29, hu⟩ | ⟨c, A30, hA30, h⟩
      · have hA29 : A29 = stA A28 (ta + 0) 15 0 := hA29
        rw [hu, hA29, tw_st, hA28, tw_st, ht, show i = 4 by omega]
      · have hA30 : A30 = stA B (ta + 25) i 0 := by rw [hA30, Int.toNat_natCast]
        exact ih (i + 1) T A30 (by omega) (by rw [hA30, tw_st, ht]; rfl) h
  have l2 : ∀ (nn i : Nat) (T : St) (B : St), i ≤ 3 → tw ta B = clr 12 i T → d_X9_clear_2 ta u nn (i : Int) B → tw ta u = stA (stA (clr 25 4 (clr 12 3 T)) 19 2 0) 0 15 0 := by
    intro nn
    induction nn with
    | zero => intro i T B _ _ h; exact h.elim
    | succ m ih =>
      intro i T B hi ht h
      obtain ⟨_, _, h⟩ := (h : tr_d_X9_clear_2 ta u (fun z10 A12 => d_X9_clear_2 ta u m z10 A12) i B)
      rcases h with ⟨c, n3, h⟩ | ⟨c, A30, hA30, h⟩
      · exact l3 n3 0 _ B (by omega) (by rw [ht, show i = 3 by omega]; rfl) h
      · have hA30 : A30 = stA B (ta + 12) i 0 := by rw [hA30, Int.toNat_natCast]
        exact ih (i + 1) T A30 (by omega) (by rw [hA30, tw_st, ht]; rfl) h
  have l1 : ∀ (nn i : Nat) (T : St) (B : St), i ≤ 8 → tw ta B = clr 1 i T → d_X9_clear_1 ta u nn (i : Int) B → tw ta u = stA (stA (clr 25 4 (clr 12 3 (clr 1 8 T))) 19 2 0) 0 15 0 := by
    intro nn
    induction nn with
    | zero => intro i T B _ _ h; exact h.elim
    | succ m ih =>
      intro i T B hi ht h
      obtain ⟨_, _, h⟩ := (h : tr_d_X9_clear_1 ta u (fun z1 A3 => d_X9_clear_1 ta u m z1 A3) i B)
      rcases h with ⟨c, n3, h⟩ | ⟨c, A30, hA30, h⟩
      · exact l2 n3 0 _ B (by omega) (by rw [ht, show i = 8 by omega]; rfl) h
      · have hA30 : A30 = stA B (ta + 1) i 0 := by rw [hA30, Int.toNat_natCast]
        exact ih (i + 1) T A30 (by omega) (by rw [hA30, tw_st, ht]; rfl) h
  obtain ⟨nn, h⟩ := (h.1 : tr_r_X9_clear ta A u)
  exact l1 nn 0 _ A (by omega) rfl h
def sTown (f : Nat → Int) (N : Nat) (T : St) : Option (Nat × St) := sTownL f N 1601 0 (sClear T) 0
theorem C_readTown {f : Nat → Int} {N ta : Nat} (hta : isT ta) {A u : St} {z : Int} (hE : EK f N A) (h : q_X5_readTown ta A z u) : CW f N ta (sTown f N (tw ta A)) z u := by
  obtain ⟨A1, hq1, A4, hq4, A7, hA7, A8, hA8, nn, h⟩ := (h.1 : tr_r_X5_readTown ta A z u)
  have hE1 : EK f N A1 := hE.fr hq1.2.1 hq1.2.2.1 rfl rfl rfl rfl (fun _ => rfl) (fun _ => rfl)
  have hE4 : EK f N A4 := hE1.fr hq4.2.1 hq4.2.2.1 rfl rfl rfl rfl (fun _ => rfl) (fun _ => rfl)
  have hI7 : IK A7 := isRD_2 hA7 hE4.1 (by decide)
  have hI8 : IK A8 := isRD_3 hA8 hI7 (by decide)
  have hf8 : fk [] [(3, 2), (3, 3)] A4 A8 := fk.df (fk.df fk.rf hA7 rfl) hA8 rfl
  have hE8 : EK f N A8 := hE4.fr hI8 hf8 rfl rfl rfl rfl (fun _ => rfl) (fun _ => rfl)
  have t8 : tw ta A8 = sClear (tw ta A) := by rw [tw_fk hta hf8 rfl, tw_fk hta hq4.2.2.1 rfl, C_clear hq1]
  obtain ⟨B1, hB1, B2, hB2, B3, hB3, hu⟩ := (hq4.1 : tr_r_X3_begin A1 A4)
  have g : ∀ k, A8 5 k = A4 5 k := fun k => hf8 5 k rfl rfl
  have hX : LX0 f N 0 A8 := by
    unfold LX0
    rw [g 6, g 1, g 5, hu, hB3]
    refine ⟨rfl, by rw [hB2, hB1]; rfl, Nat.zero_le _, ⟨fun g => ?_, fun g => absurd g.1 (by decide)⟩, by rw [hB2]; exact (by decide : (-1 : Int) ≤ ((0 : Nat) : Int))⟩
    rw [hB2] at g
    exact absurd (show (-1 : Int) = ((0 : Nat) : Int) from g) (by decide)
  have := C_townL hta nn 0 A8 0 (by omega) hE8 (Or.inl hX) h
  rw [t8] at this
  exact this
/-! The reference's reader of tokens. -/
def EM (f : Nat → Int) (N : Nat) (A : St) : Prop := A 0 2 = (N : Int) ∧ N ≤ 1600 ∧ ∀ k, k < N → f k = A 1 k
theorem pShl8 {a : Int} (h : 0 ≤ a ∧ a < 281474976710656) : pShl a 8 = 256 * a := by
  have e1 : ((iI 8).toInt64 &&& 63) = 8 := by decide +kernel
  show (jI a <<< ((iI 8).toInt64 &&& 63)).toInt = _
  rw [e1]
  have e2 : (jI a <<< 8 : Int64).toBitVec = (jI a).toBitVec <<< 8 := by
    rw [Int64.toBitVec_shiftLeft]
    rfl
  show (jI a <<< 8 : Int64).toBitVec.toInt = _
  rw [e2, BitVec.toInt_eq_toNat_cond, BitVec.toNat_shiftLeft, bv_natL, Nat.shiftLeft_eq]
  have e3 : (a % 18446744073709551616).toNat = a.toNat := by omega
  rw [e3]
  have e4 : a.toNat * 2 ^ 8 % 2 ^ 64 = 256 * a.toNat := by omega
  rw [e4]
  split <;> omega
theorem pOr8 {a c : Int} (ha : 0 ≤ a ∧ a < 281474976710656) (hc : 0 ≤ c ∧ c < 256) : pOr (256 * a) c = 256 * a + c := by
  have e : (jI (256 * a) ||| jI c).toBitVec = (jI (256 * a)).toBitVec ||| (jI c).toBitVec := Int64.toBitVec_or _ _
  have na : (jI (256 * a)).toBitVec.toNat = 2 ^ 8 * a.toNat := by rw [bv_natL]; omega
  have nc : (jI c).toBitVec.toNat = c.toNat := by rw [bv_natL]; omega
  have ho : 2 ^ 8 * a.toNat + c.toNat = 2 ^ 8 * a.toNat ||| c.toNat := Nat.two_pow_add_eq_or_of_lt (by omega) _
  show (jI (256 * a) ||| jI c).toBitVec.toInt = _
  rw [BitVec.toInt_eq_toNat_cond, e, BitVec.toNat_or, na, nc, ← ho]
  split <;> omega
theorem w8_b {f : Nat → Int} {s : Nat} : ∀ n, n ≤ 6 → (∀ k, k < n → isL (f (s + k))) → 0 ≤ w8 f s n ∧ w8 f s n < 256 ^ n := by
  intro n
  induction n with
  | zero => intro _ _; exact ⟨Int.le_refl _, (by decide : (0 : Int) < 256 ^ 0)⟩
  | succ n ih =>
    intro h6 h
    have h1 := ih (by omega) (fun k hk => h k (by omega))
    have h2 := h n (by omega)
    have e : (256 : Int) ^ (n + 1) = 256 * 256 ^ n := by rw [Int.pow_succ]; omega
    show 0 ≤ 256 * w8 f s n + f (s + n) ∧ 256 * w8 f s n + f (s + n) < 256 ^ (n + 1)
    rw [e]
    omega
theorem w8_48 {f : Nat → Int} {s n : Nat} (h6 : n ≤ 5) (h : ∀ k, k < n → isL (f (s + k))) : 0 ≤ w8 f s n ∧ w8 f s n < 281474976710656 := by
  have h1 := w8_b (f := f) (s := s) n (by omega) h
  have h2 : (256 : Nat) ^ n ≤ 256 ^ 6 := Nat.pow_le_pow_right (by decide) (by omega)
  have h3 : ((256 ^ n : Nat) : Int) = 256 ^ n := by simp
  have h4 : (256 : Nat) ^ 6 = 281474976710656 := by decide
  omega

theorem ah_loopW {f : Nat → Int} {N s : Nat} {A u : St} {F z20 z24 : Int} (hE : EM f N A) (h20 : ¬ z20 = 0) (h24 : z24 = 0) : ∀ (nn n : Nat) (B : St), s + n ≤ N → (∀ k, k < n → isL (f (s + k))) → (∀ k, B 1 k = A 1 k) → B 0 3 = 1 → B 0 4 = (s : Int) → (n ≤ 6 → B 0 8 = F ∧ B 0 7 = w8 f s n) → (6 < n → 1 ≤ B 0 8) → d_X12_ahead_10 z20 z24 6 A u nn (n : Int) ((s + n : Nat) : Int) B → u 0 3 = 1 ∧ u 0 4 = (s : Int) ∧ u 0 5 = ((rnn 97 122 f (N - (s + n)) (s + n) : Nat) : Int) ∧ (rnn 97 122 f (N - (s + n)) (s + n) ≤ s + 6 → u 0 8 = F ∧ u 0 7 = w8 f s (rnn 97 122 f (N - (s + n)) (s + n) - s)) ∧ (s + 6 < rnn 97 122 f (N - (s + n)) (s + n) → 1 ≤ u 0 8) := by
  intro nn
  induction nn with
  | zero => intro n B _ _ _ _ _ _ _ h; exact h.elim
  | succ m ih =>
    intro n B hN hL b1 b3 b4 b8 b9 h
    obtain ⟨hI, _, _, h⟩ := (h : tr_d_X12_ahead_10 z20 z24 6 A u (fun z73 z74 A76 => d_X12_ahead_10 z20 z24 6 A u m z73 z74 A76) n ((s + n : Nat) : Int) B)
    rw [hE.1] at h
    have fin : rnn 97 122 f (N - (s + n)) (s + n) = s + n → ∀ A92 : St, A92 = stA B 0 5 ((s + n : Nat) : Int) → u = A92 → u 0 3 = 1 ∧ u 0 4 = (s : Int) ∧ u 0 5 = ((rnn 97 122 f (N - (s + n)) (s + n) : Nat) : Int) ∧ (rnn 97 122 f (N - (s + n)) (s + n) ≤ s + 6 → u 0 8 = F ∧ u 0 7 = w8 f s (rnn 97 122 f (N - (s + n)) (s + n) - s)) ∧ (s + 6 < rnn 97 122 f (N - (s + n)) (s + n) → 1 ≤ u 0 8) := by
      intro e A92 hA hu
      rw [e, hu, hA]
      refine ⟨b3, b4, rfl, fun g => ?_, fun g => b9 (by omega)⟩
      rw [show s + n - s = n by omega]
      exact b8 (by omega)
    rcases h with ⟨c, A92, hA, hu⟩ | ⟨c, h⟩
    · exact fin (rnn_stop (Or.inl (by omega))) A92 hA hu
    · have hq : s + n < N := by omega
      have key : ∀ zc zt : Int, zc = B 1 (((s + n : Nat) : Int)).toNat → (zt = 1 ↔ 97 ≤ zc ∧ zc ≤ 122) → (0 ≤ zt ∧ zt ≤ 1) → ((zt = 0 ∧ ∃ A106 : St, A106 = stA B 0 5 ((s + n : Nat) : Int) ∧ u = A106) ∨ (¬ zt = 0 ∧ d_X12_ahead_11 (fun z73 z74 A76 => d_X12_ahead_10 z20 z24 6 A u m z73 z74 A76) z20 z24 6 n ((s + n : Nat) : Int) B u)) → u 0 3 = 1 ∧ u 0 4 = (s : Int) ∧ u 0 5 = ((rnn 97 122 f (N - (s + n)) (s + n) : Nat) : Int) ∧ (rnn 97 122 f (N - (s + n)) (s + n) ≤ s + 6 → u 0 8 = F ∧ u 0 7 = w8 f s (rnn 97 122 f (N - (s + n)) (s + n) - s)) ∧ (s + 6 < rnn 97 122 f (N - (s + n)) (s + n) → 1 ≤ u 0 8) := by
        intro zc zt hzc hzt hr h
        have hf : f (s + n) = zc := by rw [hzc, Int.toNat_natCast, b1]; exact hE.2.2 _ hq
        rcases h with ⟨c2, A106, hA, hu⟩ | ⟨c2, h⟩
        · exact fin (rnn_stop (Or.inr (by omega))) A106 hA hu
        · have hl : 97 ≤ f (s + n) ∧ f (s + n) ≤ 122 := by have := hzt.mp (by omega); omega
          rw [rnn_go hq hl]
          have hL2 : ∀ k, k < n + 1 → isL (f (s + k)) := fun k hk => by
            by_cases g : k < n
            · exact hL k g
            · rw [show k = n by omega]; exact hl
          have nx : ∀ B2 : St, (∀ k, B2 1 k = A 1 k) → B2 0 3 = 1 → B2 0 4 = (s : Int) → (n + 1 ≤ 6 → B2 0 8 = F ∧ B2 0 7 = w8 f s (n + 1)) → (6 < n + 1 → 1 ≤ B2 0 8) → d_X12_ahead_14 (fun z73 z74 A76 => d_X12_ahead_10 z20 z24 6 A u m z73 z74 A76) n ((s + n : Nat) : Int) u B2 → u 0 3 = 1 ∧ u 0 4 = (s : Int) ∧ u 0 5 = ((rnn 97 122 f (N - (s + n + 1)) (s + n + 1) : Nat) : Int) ∧ (rnn 97 122 f (N - (s + n + 1)) (s + n + 1) ≤ s + 6 → u 0 8 = F ∧ u 0 7 = w8 f s (rnn 97 122 f (N - (s + n + 1)) (s + n + 1) - s)) ∧ (s + 6 < rnn 97 122 f (N - (s + n + 1)) (s + n + 1) → 1 ≤ u 0 8) := by
            intro B2 g1 g3 g4 g8 g9 h
            obtain ⟨_, h⟩ := (h : tr_d_X12_ahead_14 _ n ((s + n : Nat) : Int) u B2)
            exact ih (n + 1) B2 (by omega) hL2 g1 g3 g4 g8 g9 h
          rcases (h : tr_d_X12_ahead_11 _ z20 z24 6 n ((s + n : Nat) : Int) B u) with ⟨c3, h⟩ | ⟨c3, A111, hb, h⟩
          · obtain ⟨_, h⟩ := (h : tr_d_X12_ahead_12 _ z20 z24 6 n ((s + n : Nat) : Int) B u B)
            rcases h with ⟨c4, h⟩ | ⟨c4, h⟩
            · obtain ⟨_, h⟩ := (h : tr_d_X12_ahead_13 _ z24 6 n ((s + n : Nat) : Int) B u B)
              rcases h with ⟨_, h⟩ | ⟨c5, _⟩
              · exact nx B b1 b3 b4 (fun g => by omega) (fun _ => b9 (by omega)) h
              · omega
            · rcases h with ⟨c5, _⟩ | ⟨_, z121, hz1, z122, hz2, z123, hz3, A138, hA, h⟩
              · exact absurd c5 h20
              · obtain ⟨_, h⟩ := (h : tr_d_X12_ahead_13 _ z24 6 n ((s + n : Nat) : Int) B u A138)
                rcases h with ⟨c5, _⟩ | ⟨_, h⟩
                · omega
                · rcases h with ⟨_, h⟩ | ⟨c5, _⟩
                  · refine nx A138 (fun k => by rw [hA]; exact b1 k) (by rw [hA]; exact b3) (by rw [hA]; exact b4) (fun g => ?_) (fun g => by omega) h
                    have b := b8 (by omega)
                    refine ⟨by rw [hA]; exact b.1, ?_⟩
                    have e : z123 = 256 * w8 f s n + f (s + n) := by
                      have w := w8_48 (f := f) (s := s) (n := n) (by omega) hL
                      rw [hz3, hz1, b.2, hz2, ← hzc, ← hf, pShl8 w]
                      exact pOr8 w ⟨by omega, by omega⟩
                    rw [hA]
                    exact e
                  · exact absurd h24 c5
          · have n6 : n = 6 := by omega
            have fb := hb.2.2.1
            have f1 : A111 1 = B 1 := fb.1 1 (by decide) rfl
            obtain ⟨_, h⟩ := (h : tr_d_X12_ahead_12 _ z20 z24 6 n ((s + n : Nat) : Int) B u A111)
            rcases h with ⟨_, h⟩ | ⟨c4, _⟩
            · obtain ⟨_, h⟩ := (h : tr_d_X12_ahead_13 _ z24 6 n ((s + n : Nat) : Int) B u A111)
              rcases h with ⟨_, h⟩ | ⟨c5, _⟩
              · exact nx A111 (fun k => by rw [f1]; exact b1 k) ((fb.2 3 rfl).trans b3) ((fb.2 4 rfl).trans b4) (fun g => by omega) (fun _ => hb.2.2.2) h
              · omega
            · omega
      rcases h with ⟨c2, _⟩ | ⟨_, z101, hz, z102, hq, h⟩
      · exact absurd c2 h20
      · exact key z101 z102 hz hq.2.2 hq.2.1 h

theorem ah_loopN {f : Nat → Int} {N s : Nat} {A u : St} {F z20 z24 : Int} (hE : EM f N A) (h20 : z20 = 0) (h24 : ¬ z24 = 0) : ∀ (nn n : Nat) (B : St), s + n ≤ N → (∀ k, k < n → isD (f (s + k))) → (∀ k, B 1 k = A 1 k) → B 0 3 = 2 → B 0 4 = (s : Int) → (n ≤ 4 → B 0 8 = F ∧ B 0 6 = nm10 f s n) → (4 < n → 1 ≤ B 0 8) → d_X12_ahead_10 z20 z24 4 A u nn (n : Int) ((s + n : Nat) : Int) B → u 0 3 = 2 ∧ u 0 4 = (s : Int) ∧ u 0 5 = ((rnn 48 57 f (N - (s + n)) (s + n) : Nat) : Int) ∧ (rnn 48 57 f (N - (s + n)) (s + n) ≤ s + 4 → u 0 8 = F ∧ u 0 6 = nm10 f s (rnn 48 57 f (N - (s + n)) (s + n) - s)) ∧ (s + 4 < rnn 48 57 f (N - (s + n)) (s + n) → 1 ≤ u 0 8) := by
  intro nn
  induction nn with
  | zero => intro n B _ _ _ _ _ _ _ h; exact h.elim
  | succ m ih =>
    intro n B hN hL b1 b3 b4 b8 b9 h
    obtain ⟨hI, _, _, h⟩ := (h : tr_d_X12_ahead_10 z20 z24 4 A u (fun z73 z74 A76 => d_X12_ahead_10 z20 z24 4 A u m z73 z74 A76) n ((s + n : Nat) : Int) B)
    rw [hE.1] at h
    have fin : rnn 48 57 f (N - (s + n)) (s + n) = s + n → ∀ A92 : St, A92 = stA B 0 5 ((s + n : Nat) : Int) → u = A92 → u 0 3 = 2 ∧ u 0 4 = (s : Int) ∧ u 0 5 = ((rnn 48 57 f (N - (s + n)) (s + n) : Nat) : Int) ∧ (rnn 48 57 f (N - (s + n)) (s + n) ≤ s + 4 → u 0 8 = F ∧ u 0 6 = nm10 f s (rnn 48 57 f (N - (s + n)) (s + n) - s)) ∧ (s + 4 < rnn 48 57 f (N - (s + n)) (s + n) → 1 ≤ u 0 8) := by
      intro e A92 hA hu
      rw [e, hu, hA]
      refine ⟨b3, b4, rfl, fun g => ?_, fun g => b9 (by omega)⟩
      rw [show s + n - s = n by omega]
      exact b8 (by omega)
    rcases h with ⟨c, A92, hA, hu⟩ | ⟨c, h⟩
    · exact fin (rnn_stop (Or.inl (by omega))) A92 hA hu
    · have hq : s + n < N := by omega
      have key : ∀ zc zt : Int, zc = B 1 (((s + n : Nat) : Int)).toNat → (zt = 1 ↔ 48 ≤ zc ∧ zc ≤ 57) → (0 ≤ zt ∧ zt ≤ 1) → ((zt = 0 ∧ ∃ A106 : St, A106 = stA B 0 5 ((s + n : Nat) : Int) ∧ u = A106) ∨ (¬ zt = 0 ∧ d_X12_ahead_11 (fun z73 z74 A76 => d_X12_ahead_10 z20 z24 4 A u m z73 z74 A76) z20 z24 4 n ((s + n : Nat) : Int) B u)) → u 0 3 = 2 ∧ u 0 4 = (s : Int) ∧ u 0 5 = ((rnn 48 57 f (N - (s + n)) (s + n) : Nat) : Int) ∧ (rnn 48 57 f (N - (s + n)) (s + n) ≤ s + 4 → u 0 8 = F ∧ u 0 6 = nm10 f s (rnn 48 57 f (N - (s + n)) (s + n) - s)) ∧ (s + 4 < rnn 48 57 f (N - (s + n)) (s + n) → 1 ≤ u 0 8) := by
        intro zc zt hzc hzt hr h
        have hf : f (s + n) = zc := by rw [hzc, Int.toNat_natCast, b1]; exact hE.2.2 _ hq
        rcases h with ⟨c2, A106, hA, hu⟩ | ⟨c2, h⟩
        · exact fin (rnn_stop (Or.inr (by omega))) A106 hA hu
        · have hl : 48 ≤ f (s + n) ∧ f (s + n) ≤ 57 := by have := hzt.mp (by omega); omega
          rw [rnn_go hq hl]
          have hL2 : ∀ k, k < n + 1 → isD (f (s + k)) := fun k hk => by
            by_cases g : k < n
            · exact hL k g
            · rw [show k = n by omega]; exact hl
          have nx : ∀ B2 : St, (∀ k, B2 1 k = A 1 k) → B2 0 3 = 2 → B2 0 4 = (s : Int) → (n + 1 ≤ 4 → B2 0 8 = F ∧ B2 0 6 = nm10 f s (n + 1)) → (4 < n + 1 → 1 ≤ B2 0 8) → d_X12_ahead_14 (fun z73 z74 A76 => d_X12_ahead_10 z20 z24 4 A u m z73 z74 A76) n ((s + n : Nat) : Int) u B2 → u 0 3 = 2 ∧ u 0 4 = (s : Int) ∧ u 0 5 = ((rnn 48 57 f (N - (s + n + 1)) (s + n + 1) : Nat) : Int) ∧ (rnn 48 57 f (N - (s + n + 1)) (s + n + 1) ≤ s + 4 → u 0 8 = F ∧ u 0 6 = nm10 f s (rnn 48 57 f (N - (s + n + 1)) (s + n + 1) - s)) ∧ (s + 4 < rnn 48 57 f (N - (s + n + 1)) (s + n + 1) → 1 ≤ u 0 8) := by
            intro B2 g1 g3 g4 g8 g9 h
            obtain ⟨_, h⟩ := (h : tr_d_X12_ahead_14 _ n ((s + n : Nat) : Int) u B2)
            exact ih (n + 1) B2 (by omega) hL2 g1 g3 g4 g8 g9 h
          rcases (h : tr_d_X12_ahead_11 _ z20 z24 4 n ((s + n : Nat) : Int) B u) with ⟨c3, h⟩ | ⟨c3, A111, hb, h⟩
          · obtain ⟨_, h⟩ := (h : tr_d_X12_ahead_12 _ z20 z24 4 n ((s + n : Nat) : Int) B u B)
            have h12 : d_X12_ahead_13 (fun z73 z74 A76 => d_X12_ahead_10 z20 z24 4 A u m z73 z74 A76) z24 4 n ((s + n : Nat) : Int) B u B := by
              rcases h with ⟨_, h⟩ | ⟨_, h⟩
              · exact h
              · rcases h with ⟨_, h⟩ | ⟨c5, _⟩
                · exact h
                · exact absurd h20 c5
            obtain ⟨_, h⟩ := (h12 : tr_d_X12_ahead_13 _ z24 4 n ((s + n : Nat) : Int) B u B)
            rcases h with ⟨c4, h⟩ | ⟨c4, h⟩
            · exact nx B b1 b3 b4 (fun g => by omega) (fun _ => b9 (by omega)) h
            · rcases h with ⟨c5, _⟩ | ⟨_, z131, hz1, z132, hz2, z133, hz3, z134, hz4, h⟩
              · exact absurd c5 h24
              · refine nx (stA B 0 6 z134) (fun k => b1 k) b3 b4 (fun g => ?_) (fun g => by omega) h
                have b := b8 (by omega)
                refine ⟨b.1, ?_⟩
                have w := nm10_4 (f := f) (s := s) (n := n) hL (by omega)
                have g1 : z131 = 10 * nm10 f s n := by rw [hz1, b.2]; exact oWrap_id ⟨by omega, by omega⟩
                have g2 : z133 = z131 + z132 := by rw [hz3]; exact oWrap_id ⟨by rw [hz2, ← hzc, ← hf]; omega, by rw [hz2, ← hzc, ← hf]; omega⟩
                have g3 : z132 = f (s + n) := by rw [hz2, ← hzc, ← hf]
                have g4 : z134 = z133 - 48 := by rw [hz4]; exact oWrap_id ⟨by omega, by omega⟩
                show z134 = 10 * nm10 f s n + (f (s + n) - 48)
                omega
          · have n6 : n = 4 := by omega
            have fb := hb.2.2.1
            have f1 : A111 1 = B 1 := fb.1 1 (by decide) rfl
            obtain ⟨_, h⟩ := (h : tr_d_X12_ahead_12 _ z20 z24 4 n ((s + n : Nat) : Int) B u A111)
            rcases h with ⟨_, h⟩ | ⟨c4, _⟩
            · obtain ⟨_, h⟩ := (h : tr_d_X12_ahead_13 _ z24 4 n ((s + n : Nat) : Int) B u A111)
              rcases h with ⟨_, h⟩ | ⟨c5, _⟩
              · exact nx A111 (fun k => by rw [f1]; exact b1 k) ((fb.2 3 rfl).trans b3) ((fb.2 4 rfl).trans b4) (fun g => by omega) (fun _ => hb.2.2.2) h
              · omega
            · omega
      rcases h with ⟨_, z95, hz, z96, hq, h⟩ | ⟨c2, _⟩
      · exact key z95 z96 hz hq.2.2 hq.2.1 h
      · exact absurd h20 c2
/-- the token behind p, as the reference has it -/
def RT (f : Nat → Int) (N p : Nat) (A : St) : Prop := A 0 3 = tKind f N p ∧ A 0 4 = (sAt f N p : Int) ∧ A 0 5 = (tEnd f N p : Int) ∧ (tKind f N p = 1 → A 0 7 = w8 f (sAt f N p) (tEnd f N p - sAt f N p)) ∧ (tKind f N p = 2 → A 0 6 = nv f N p) ∧ (tKind f N p = 3 → A 0 6 = f (sAt f N p))
theorem EM.fr {f : Nat → Int} {N : Nat} {A u : St} {M' N' : List Nat} (h : EM f N A) (hf : fr M' N' A u) (h1 : M'.contains 1 = false) (h2 : N'.contains 2 = false) : EM f N u := by
  refine ⟨(hf.2 2 h2).trans h.1, h.2.1, fun k hk => ?_⟩
  rw [hf.1 1 (by decide) h1]
  exact h.2.2 k hk
theorem ah_skip {f : Nat → Int} {N : Nat} {A u : St} (hE : EM f N A) : ∀ (nn q : Nat), q ≤ N → d_X12_ahead_1 A u nn (q : Int) → d_X12_ahead_3 ((skp f (N - q) q : Nat) : Int) A u := by
  intro nn
  induction nn with
  | zero => intro q _ h; exact h.elim
  | succ m ih =>
    intro q hq h
    obtain ⟨_, h⟩ := (h : tr_d_X12_ahead_1 A u (fun z1 => d_X12_ahead_1 A u m z1) q)
    rw [hE.1] at h
    rcases h with ⟨c, h⟩ | ⟨c, z10, hz, h⟩
    · rw [skp_stop (Or.inl (by omega))]
      exact h
    · have hqN : q < N := by omega
      have hf : f q = z10 := by rw [hz, Int.toNat_natCast]; exact hE.2.2 q hqN
      have go : isB (f q) → d_X12_ahead_2 (fun z1 => d_X12_ahead_1 A u m z1) q u → d_X12_ahead_3 ((skp f (N - q) q : Nat) : Int) A u := by
        intro hb h
        rw [skp_go hqN hb]
        exact ih (q + 1) (by omega) (h : tr_d_X12_ahead_2 _ q u)
      rcases h with ⟨c2, h⟩ | ⟨c2, z13, hz13, h⟩
      · exact go (Or.inr (by omega)) h
      · have hf2 : f q = z13 := by rw [hz13, Int.toNat_natCast]; exact hE.2.2 q hqN
        rcases h with ⟨c3, h⟩ | ⟨c3, h⟩
        · rw [skp_stop (Or.inr (by omega))]
          exact h
        · exact go (Or.inl (by omega)) h
theorem M_ahead {f : Nat → Int} {N p : Nat} {A u : St} (hE : EM f N A) (h5 : A 0 5 = (p : Int)) (hp : p ≤ N) (h8 : A 0 8 = 0) (h : q_X12_ahead A u) : EM f N u ∧ ((tKind f N p = 4 ∧ 1 ≤ u 0 8) ∨ (tKind f N p ≠ 4 ∧ u 0 8 = 0 ∧ RT f N p u)) := by
  refine ⟨hE.fr h.2.2.1 rfl rfl, ?_⟩
  obtain ⟨nn, h⟩ := (h.1 : tr_r_X12_ahead A u)
  rw [h5] at h
  have h := ah_skip hE nn p hp h
  have hs := sAt_le (f := f) hp
  obtain ⟨s, hsd⟩ : ∃ s, sAt f N p = s := ⟨_, rfl⟩
  have h : d_X12_ahead_3 (sAt f N p : Int) A u := h
  rw [hsd] at h hs
  have h : tr_d_X12_ahead_3 (s : Int) A u := h
  unfold tr_d_X12_ahead_3 at h
  rw [hE.1] at h
  rcases h with ⟨c, z18, hz18, A19, hA19, z20, hq20, z23, hz23, z24, hq24, h⟩ | ⟨c, A139, hA, hu⟩
  · have hN : ¬ N ≤ s := by omega
    have r1 : ∀ k, A19 1 k = A 1 k := fun k => by rw [hA19]; rfl
    have hf : f s = z18 := by rw [hz18, Int.toNat_natCast]; exact hE.2.2 s (by omega)
    have hf2 : f s = z23 := by rw [hz23, Int.toNat_natCast, r1]; exact hE.2.2 s (by omega)
    have il : z20 = 1 ↔ isL (f s) := by rw [hf]; exact hq20.2.2
    have id : z24 = 1 ↔ isD (f s) := by rw [hf2]; exact hq24.2.2
    have bl := hq20.2.1
    have bd := hq24.2.1
    have e19 : A19 0 8 = 0 := by rw [hA19]; exact h8
    have e194 : A19 0 4 = (s : Int) := by rw [hA19]; rfl
    -- behind the check of what is ahead
    have h6 : ∀ (B : St) (F : Int), (∀ k, B 1 k = A 1 k) → B 0 4 = (s : Int) → B 0 8 = F → 0 ≤ F → d_X12_ahead_6 (s : Int) z20 z24 A u B → (isL (f s) ∧ u 0 3 = 1 ∧ u 0 4 = (s : Int) ∧ u 0 5 = (wEnd f N s : Int) ∧ (wEnd f N s ≤ s + 6 → u 0 8 = F ∧ u 0 7 = w8 f s (wEnd f N s - s)) ∧ (s + 6 < wEnd f N s → 1 ≤ u 0 8)) ∨ (¬ isL (f s) ∧ isD (f s) ∧ u 0 3 = 2 ∧ u 0 4 = (s : Int) ∧ u 0 5 = (nEnd f N s : Int) ∧ (nEnd f N s ≤ s + 4 → u 0 8 = F ∧ u 0 6 = nm10 f s (nEnd f N s - s)) ∧ (s + 4 < nEnd f N s → 1 ≤ u 0 8)) ∨ (¬ isL (f s) ∧ ¬ isD (f s) ∧ u 0 3 = 3 ∧ u 0 4 = (s : Int) ∧ u 0 5 = (s : Int) + 1 ∧ u 0 8 = F ∧ u 0 6 = f s) := by
      intro B F b1 b4 b8 hF h
      obtain ⟨_, A52, hA52, h⟩ := (h : tr_d_X12_ahead_6 (s : Int) z20 z24 A u B)
      have c1 : ∀ k, A52 1 k = A 1 k := fun k => by rw [hA52]; exact b1 k
      have c4 : A52 0 4 = (s : Int) := by rw [hA52]; exact b4
      have c8 : A52 0 8 = F := by rw [hA52]; exact b8
      have c7 : A52 0 7 = 0 := by rw [hA52]; rfl
      have c6 : A52 0 6 = 0 := by rw [hA52]; rfl
      have d7 : (¬ z20 = 0 ∨ ¬ z24 = 0) → d_X12_ahead_7 (s : Int) z20 z24 A A52 u → (isL (f s) ∧ u 0 3 = 1 ∧ u 0 4 = (s : Int) ∧ u 0 5 = (wEnd f N s : Int) ∧ (wEnd f N s ≤ s + 6 → u 0 8 = F ∧ u 0 7 = w8 f s (wEnd f N s - s)) ∧ (s + 6 < wEnd f N s → 1 ≤ u 0 8)) ∨ (¬ isL (f s) ∧ isD (f s) ∧ u 0 3 = 2 ∧ u 0 4 = (s : Int) ∧ u 0 5 = (nEnd f N s : Int) ∧ (nEnd f N s ≤ s + 4 → u 0 8 = F ∧ u 0 6 = nm10 f s (nEnd f N s - s)) ∧ (s + 4 < nEnd f N s → 1 ≤ u 0 8)) := by
        intro hor h
        rcases (h : tr_d_X12_ahead_7 (s : Int) z20 z24 A A52 u) with ⟨c2, h⟩ | ⟨c2, h⟩
        · obtain ⟨_, A66, hA66, h⟩ := (h : tr_d_X12_ahead_8 (s : Int) z20 z24 A A52 u 2)
          rcases h with ⟨_, h⟩ | ⟨c3, _⟩
          · obtain ⟨_, n9, h⟩ := (h : tr_d_X12_ahead_9 (s : Int) z20 z24 A A66 u 4)
            have hz24 : ¬ z24 = 0 := by omega
            have nl : ¬ isL (f s) := fun g => by have := il.mpr g; omega
            refine Or.inr ⟨nl, id.mp (by omega), ?_⟩
            exact ah_loopN (F := F) hE c2 hz24 n9 0 A66 (by omega) (fun k hk => absurd hk (by omega)) (fun k => by rw [hA66]; exact c1 k) (by rw [hA66]; rfl) (by rw [hA66]; exact c4) (fun _ => ⟨by rw [hA66]; exact c8, by rw [hA66]; exact c6⟩) (fun g => absurd g (by omega)) h
          · exact absurd c2 c3
        · obtain ⟨_, A66, hA66, h⟩ := (h : tr_d_X12_ahead_8 (s : Int) z20 z24 A A52 u 1)
          rcases h with ⟨c3, _⟩ | ⟨_, h⟩
          · exact absurd c3 c2
          · obtain ⟨_, n9, h⟩ := (h : tr_d_X12_ahead_9 (s : Int) z20 z24 A A66 u 6)
            have hL : isL (f s) := il.mp (by omega)
            have hz24 : z24 = 0 := by
              by_cases g : z24 = 1
              · have := id.mp g; omega
              · omega
            refine Or.inl ⟨hL, ?_⟩
            exact ah_loopW (F := F) hE c2 hz24 n9 0 A66 (by omega) (fun k hk => absurd hk (by omega)) (fun k => by rw [hA66]; exact c1 k) (by rw [hA66]; rfl) (by rw [hA66]; exact c4) (fun _ => ⟨by rw [hA66]; exact c8, by rw [hA66]; exact c7⟩) (fun g => absurd g (by omega)) h
      rcases h with ⟨c2, h⟩ | ⟨c2, h⟩
      · rcases d7 (Or.inl c2) h with g | g
        · exact Or.inl g
        · exact Or.inr (Or.inl g)
      · rcases h with ⟨c3, h⟩ | ⟨c3, z56, hz56, A57, hA57, hu⟩
        · rcases d7 (Or.inr c3) h with g | g
          · exact Or.inl g
          · exact Or.inr (Or.inl g)
        · have nl : ¬ isL (f s) := fun g => by have := il.mpr g; omega
          have nd : ¬ isD (f s) := fun g => by have := id.mpr g; omega
          refine Or.inr (Or.inr ⟨nl, nd, by rw [hu, hA57, hA52]; rfl, by rw [hu, hA57]; exact c4, by rw [hu, hA57, hA52]; rfl, by rw [hu, hA57]; exact c8, ?_⟩)
          rw [hu, hA57]
          show z56 = f s
          rw [hz56, Int.toNat_natCast, c1]
          exact (hE.2.2 s (by omega)).symm
    -- the end of all roads
    have fin : ∀ F : Int, (F = 0 ∨ 1 ≤ F) → (isL (f s) ∨ isD (f s) → (F = 0 ↔ ¬ adj f s)) → (¬ isL (f s) → ¬ isD (f s) → F = 0) → ((isL (f s) ∧ u 0 3 = 1 ∧ u 0 4 = (s : Int) ∧ u 0 5 = (wEnd f N s : Int) ∧ (wEnd f N s ≤ s + 6 → u 0 8 = F ∧ u 0 7 = w8 f s (wEnd f N s - s)) ∧ (s + 6 < wEnd f N s → 1 ≤ u 0 8)) ∨ (¬ isL (f s) ∧ isD (f s) ∧ u 0 3 = 2 ∧ u 0 4 = (s : Int) ∧ u 0 5 = (nEnd f N s : Int) ∧ (nEnd f N s ≤ s + 4 → u 0 8 = F ∧ u 0 6 = nm10 f s (nEnd f N s - s)) ∧ (s + 4 < nEnd f N s → 1 ≤ u 0 8)) ∨ (¬ isL (f s) ∧ ¬ isD (f s) ∧ u 0 3 = 3 ∧ u 0 4 = (s : Int) ∧ u 0 5 = (s : Int) + 1 ∧ u 0 8 = F ∧ u 0 6 = f s)) → (tKind f N p = 4 ∧ 1 ≤ u 0 8) ∨ (tKind f N p ≠ 4 ∧ u 0 8 = 0 ∧ RT f N p u) := by
      intro F hF hadj hsg h
      rcases h with ⟨n1, u3, u4, u5, u6, u7⟩ | ⟨n1, n2, u3, u4, u5, u6, u7⟩ | ⟨n1, n2, u3, u4, u5, u8, u6⟩
      · have te : tEnd f N p = wEnd f N s := by unfold tEnd; rw [hsd, if_neg hN, if_pos n1]
        by_cases g : adj f s ∨ s + 6 < wEnd f N s
        · left
          refine ⟨by unfold tKind; rw [hsd, if_neg hN, if_pos n1, if_pos g], ?_⟩
          by_cases g2 : s + 6 < wEnd f N s
          · exact u7 g2
          · rw [(u6 (by omega)).1]
            have g3 : adj f s := by rcases g with g | g; exact g; exact absurd g g2
            rcases hF with e | e
            · exact absurd g3 ((hadj (Or.inl n1)).mp e)
            · exact e
        · right
          have tk : tKind f N p = 1 := by unfold tKind; rw [hsd, if_neg hN, if_pos n1, if_neg g]
          have g6 := u6 (by omega)
          have F0 : F = 0 := (hadj (Or.inl n1)).mpr (fun g2 => g (Or.inl g2))
          unfold RT nv
          rw [tk, te, hsd]
          exact ⟨by decide, g6.1.trans F0, u3, u4, u5, fun _ => g6.2, fun g => absurd g (by decide), fun g => absurd g (by decide)⟩
      · have te : tEnd f N p = nEnd f N s := by unfold tEnd; rw [hsd, if_neg hN, if_neg n1, if_pos n2]
        by_cases g : adj f s ∨ s + 4 < nEnd f N s
        · left
          refine ⟨by unfold tKind; rw [hsd, if_neg hN, if_neg n1, if_pos n2, if_pos g], ?_⟩
          by_cases g2 : s + 4 < nEnd f N s
          · exact u7 g2
          · rw [(u6 (by omega)).1]
            have g3 : adj f s := by rcases g with g | g; exact g; exact absurd g g2
            rcases hF with e | e
            · exact absurd g3 ((hadj (Or.inr n2)).mp e)
            · exact e
        · right
          have tk : tKind f N p = 2 := by unfold tKind; rw [hsd, if_neg hN, if_neg n1, if_pos n2, if_neg g]
          have g6 := u6 (by omega)
          have F0 : F = 0 := (hadj (Or.inr n2)).mpr (fun g2 => g (Or.inl g2))
          unfold RT nv
          rw [tk, te, hsd]
          exact ⟨by decide, g6.1.trans F0, u3, u4, u5, fun g => absurd g (by decide), fun _ => g6.2, fun g => absurd g (by decide)⟩
      · right
        have tk : tKind f N p = 3 := by unfold tKind; rw [hsd, if_neg hN, if_neg n1, if_neg n2]
        have te : tEnd f N p = s + 1 := by unfold tEnd; rw [hsd, if_neg hN, if_neg n1, if_neg n2]
        unfold RT nv
        rw [tk, te, hsd]
        exact ⟨by decide, u8.trans (hsg n1 n2), u3, u4, by rw [u5]; omega, fun g => absurd g (by decide), fun g => absurd g (by decide), fun _ => u6⟩
    have d5 : adj f s → d_X12_ahead_5 (s : Int) z20 z24 A A19 u → (isL (f s) ∨ isD (f s)) → (tKind f N p = 4 ∧ 1 ≤ u 0 8) ∨ (tKind f N p ≠ 4 ∧ u 0 8 = 0 ∧ RT f N p u) := by
      intro ha h hld
      obtain ⟨A45, hb, h⟩ := (h : tr_d_X12_ahead_5 (s : Int) z20 z24 A A19 u)
      have fb := hb.2.2.1
      have g1 := hb.2.2.2
      refine fin (A45 0 8) (Or.inr g1) (fun _ => ⟨fun e => by omega, fun g => absurd ha g⟩) (fun n1 n2 => absurd hld (by rintro (g | g); exact n1 g; exact n2 g)) (h6 A45 _ (fun k => by rw [fb.1 1 (by decide) rfl]; exact r1 k) ((fb.2 4 rfl).trans e194) rfl (by omega) h)
    have d60 : (isL (f s) ∨ isD (f s) → ¬ adj f s) → d_X12_ahead_6 (s : Int) z20 z24 A u A19 → (tKind f N p = 4 ∧ 1 ≤ u 0 8) ∨ (tKind f N p ≠ 4 ∧ u 0 8 = 0 ∧ RT f N p u) := by
      intro ha h
      exact fin 0 (Or.inl rfl) (fun g => ⟨fun _ => ha g, fun _ => rfl⟩) (fun _ _ => rfl) (h6 A19 0 r1 e194 e19 (by decide) h)
    have d4 : (isL (f s) ∨ isD (f s)) → d_X12_ahead_4 (s : Int) z20 z24 A A19 u → (tKind f N p = 4 ∧ 1 ≤ u 0 8) ∨ (tKind f N p ≠ 4 ∧ u 0 8 = 0 ∧ RT f N p u) := by
      intro hld h
      rcases (h : tr_d_X12_ahead_4 (s : Int) z20 z24 A A19 u) with ⟨c2, h⟩ | ⟨c2, z33, hz33, z34, hq34, h⟩
      · exact d60 (fun _ g => by have := g.1; omega) h
      · have es : ((s : Int) - 1).toNat = s - 1 := by omega
        have e33 : z33 = f (s - 1) := by rw [hz33, es, r1]; exact (hE.2.2 (s - 1) (by omega)).symm
        have q34 := hq34.2
        rw [e33] at q34
        rcases h with ⟨c3, h⟩ | ⟨c3, z39, hz39, z40, hq40, h⟩
        · exact d5 ⟨by omega, Or.inl (q34.2.mp (by omega))⟩ h hld
        · have e39 : z39 = f (s - 1) := by rw [hz39, es, r1]; exact (hE.2.2 (s - 1) (by omega)).symm
          have q40 := hq40.2
          rw [e39] at q40
          rcases h with ⟨c4, h⟩ | ⟨c4, h⟩
          · refine d60 (fun _ g => ?_) h
            rcases g.2 with g | g
            · have := q34.2.mpr g; omega
            · have := q40.2.mpr g; omega
          · exact d5 ⟨by omega, Or.inr (q40.2.mp (by omega))⟩ h hld
    rcases h with ⟨c2, h⟩ | ⟨c2, h⟩
    · exact d4 (Or.inl (il.mp (by omega))) h
    · rcases h with ⟨c3, h⟩ | ⟨c3, h⟩
      · refine d60 (fun g => ?_) h
        rcases g with g | g
        · have := il.mpr g; omega
        · have := id.mpr g; omega
      · exact d4 (Or.inr (id.mp (by omega))) h
  · have hN : N ≤ s := by omega
    have tk : tKind f N p = 0 := by unfold tKind; rw [hsd, if_pos hN]
    have te : tEnd f N p = s := by unfold tEnd; rw [hsd, if_pos hN]
    right
    unfold RT
    rw [tk, te, hsd]
    exact ⟨by decide, by rw [hu, hA]; exact h8, by rw [hu, hA]; rfl, by rw [hu, hA]; rfl, by rw [hu, hA]; rfl, fun g => absurd g (by decide), fun g => absurd g (by decide), fun g => absurd g (by decide)⟩
