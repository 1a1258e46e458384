/-! The class's tests: products, sums, facts. -/
def sProdL (f : Nat → Int) (N n : Nat) (S : PT) : Nat → PT
  | 0 => fun _ _ => none
  | k + 1 => fun T p => match sSign f N 47 p with
    | some e => (sAd2 (sPart f N n S T e) (-15)).bind fun a => sProdL f N n S k a.1 a.2
    | none => match sSign f N 37 p with
      | some e => (sAd2 (sPart f N n S T e) (-16)).bind fun a => sProdL f N n S k a.1 a.2
      | none => match sSign f N 42 p with
        | some e => (sAd2 (sPart f N n S T e) (-14)).bind fun a => sProdL f N n S k a.1 a.2
        | none => some (T, p)
def sProd (f : Nat → Int) (N n : Nat) (S : PT) : PT := fun T p => (sPart f N n S T p).bind fun a => sProdL f N n S 1600 a.1 a.2
def sSumL (f : Nat → Int) (N n : Nat) (S : PT) : Nat → PT
  | 0 => fun _ _ => none
  | k + 1 => fun T p => match sSign f N 45 p with
    | some e => (sAd2 (sProd f N n S T e) (-13)).bind fun a => sSumL f N n S k a.1 a.2
    | none => match sSign f N 43 p with
      | some e => (sAd2 (sProd f N n S T e) (-12)).bind fun a => sSumL f N n S k a.1 a.2
      | none => some (T, p)
def sSum (f : Nat → Int) (N n : Nat) (S : PT) : PT := fun T p => (sProd f N n S T p).bind fun a => sSumL f N n S 1600 a.1 a.2
def sSumN (f : Nat → Int) (N : Nat) : Nat → PT
  | 0 => sSum f N 0 (fun _ _ => none)
  | n + 1 => sSum f N (n + 1) (sSumN f N n)
/-- a turn of a loop: a reader, then a code -/
theorem C_turn {f : Nat → Int} {N ta k : Nat} {x z1 z z2 : Int} {B1 B2 u : St} {r : Option (St × Nat)} (h1 : CA f N ta r z1 B1) (c : ¬ z1 = 0) (hq : q_X8_add (ta + 19) x B1 z2 B2) : (z2 = 0 ∧ sAd2 r x = none) ∨ (z2 = 1 ∧ ∃ a, sAd2 r x = some a ∧ EK f N B2 ∧ LXA f N a.2 B2 ∧ tw ta B2 = a.1) := by
  obtain ⟨a, r1, hE, hX, ht⟩ := h1.pos c
  have h2 := C_ad2 (x := x) hE hX ht hq rfl rfl
  rw [r1]
  have b := hq.2.2.2
  by_cases c2 : z2 = 0
  · exact Or.inl ⟨c2, h2.neg c2⟩
  · exact Or.inr ⟨by omega, h2.pos c2⟩
theorem sAd2_none {x : Int} : sAd2 none x = none := rfl
theorem C_prodL {f : Nat → Int} {N ta n b : Nat} (hta : isT ta) (hn : n + b = 8) {SS : St → Int → St → Prop} {S : PT} (hS : 0 < n → HS f N ta ((b : Int) + 1) SS S) {u : St} {z : Int} : ∀ nn (i : Nat) (A : St) (p : Nat), i ≤ 1600 → EK f N A → LXA f N p A → A 3 4 = (b : Int) → d_X5_readProduct_1 SS b (ta + 19) z u nn (i : Int) A → CA f N ta (sProdL f N n S (1600 - i) (tw ta A) p) z u := by
  intro nn
  induction nn with
  | zero => intro i A p _ _ _ _ h; exact h.elim
  | succ m ih =>
    intro i A p hi hE hX h4 h
    obtain ⟨_, _, h⟩ := (h : tr_d_X5_readProduct_1 SS b (ta + 19) z u (fun z8 A10 => d_X5_readProduct_1 SS b (ta + 19) z u m z8 A10) i A)
    rcases h with ⟨c, hz, _⟩ | ⟨c, z19, A20, hq1, h⟩
    · rw [show 1600 - i = 0 by omega]
      exact hz
    · obtain ⟨k, hk⟩ : ∃ k, 1600 - i = k + 1 := ⟨1600 - i - 1, by omega⟩
      rw [hk]
      unfold sProdL
      have turn : ∀ {x : Int} {B : St} {e : Nat}, CS f N e B → tw ta B = tw ta A → B 3 4 = (b : Int) → d_X5_readProduct_2 (fun z8 A10 => d_X5_readProduct_1 SS b (ta + 19) z u m z8 A10) SS b (ta + 19) i z u x B → CA f N ta ((sAd2 (sPart f N n S (tw ta A) e) x).bind fun a => sProdL f N n S k a.1 a.2) z u := by
        intro x B e hC ht hb h
        obtain ⟨_, _, z45, A46, hq, h⟩ := (h : tr_d_X5_readProduct_2 _ SS b (ta + 19) i z u x B)
        have h1 := C_part hta hn hS hC.1 (Or.inl hC.2) hb hq
        rw [ht] at h1
        rcases h with ⟨c, hz, _⟩ | ⟨c, z51, A52, hq2, h⟩
        · rw [h1.neg c, sAd2_none]
          exact hz
        · have z45e : z45 = 1 := by have := hq.2.2.2.1; omega
          rcases C_turn (k := 0) (z := 0) (u := u) h1 c hq2 with ⟨e1, e2⟩ | ⟨e1, a, e2, hE2, hX2, ht2⟩
          · rw [e2]
            rcases h with ⟨c, _⟩ | ⟨_, hz, _⟩
            · exact absurd e1 c
            · exact hz
          · rw [e2]
            rcases h with ⟨_, h⟩ | ⟨c, _⟩
            · have := ih (i + 1) A52 a.2 (by omega) hE2 hX2 (by rw [hq2.2.2.1 3 4 rfl rfl, hq.2.2.2.2 z45e]; exact hb) h
              rw [ht2, show 1600 - (i + 1) = k by omega] at this
              exact this
            · omega
      have h1 := C_passesSign hta (by decide) hE hX hq1
      have g1 : A20 3 4 = (b : Int) := (hq1.2.2.1 3 4 rfl rfl).trans h4
      rcases h with ⟨c1, z25, A26, hq2, h⟩ | ⟨c1, h⟩
      · obtain ⟨r1, hE2, hX2, ht2⟩ := h1.neg c1
        rw [r1]
        have h2 := C_passesSign hta (by decide) hE2 (Or.inr hX2) hq2
        have g2 : A26 3 4 = (b : Int) := (hq2.2.2.1 3 4 rfl rfl).trans g1
        rcases h with ⟨c2, z30, A31, hq3, h⟩ | ⟨c2, h⟩
        · obtain ⟨r2, hE3, hX3, ht3⟩ := h2.neg c2
          rw [r2]
          have h3 := C_passesSign hta (by decide) hE3 (Or.inr hX3) hq3
          have g3 : A31 3 4 = (b : Int) := (hq3.2.2.1 3 4 rfl rfl).trans g2
          rcases h with ⟨c3, h⟩ | ⟨c3, hz, hu⟩
          · obtain ⟨e, r3, hC, ht⟩ := h3.pos c3
            rw [r3]
            exact turn hC (by rw [ht, ht3, ht2]) g3 h
          · obtain ⟨r3, hE4, hX4, ht4⟩ := h3.neg c3
            rw [r3, hu]
            exact ⟨hz, hE4, Or.inr hX4, by rw [ht4, ht3, ht2]⟩
        · obtain ⟨e, r2, hC, ht⟩ := h2.pos c2
          rw [r2]
          exact turn hC (by rw [ht, ht2]) g2 h
      · obtain ⟨e, r1, hC, ht⟩ := h1.pos c1
        rw [r1]
        exact turn hC ht g1 h
theorem C_prod {f : Nat → Int} {N ta n b : Nat} (hta : isT ta) (hn : n + b = 8) {SS : St → Int → St → Prop} {S : PT} (hS : 0 < n → HS f N ta ((b : Int) + 1) SS S) {A u : St} {z : Int} {p : Nat} (hE : EK f N A) (hX : LXA f N p A) (h4 : A 3 4 = (b : Int)) (h : q_X5_readProduct SS b (ta + 19) A z u) : CA f N ta (sProd f N n S (tw ta A) p) z u := by
  obtain ⟨z2, A3, hq, h⟩ := (h.1 : tr_r_X5_readProduct SS b (ta + 19) A z u)
  have h1 := C_part hta hn hS hE hX h4 hq
  unfold sProd
  rcases h with ⟨c, nn, h⟩ | ⟨c, hz, _⟩
  · obtain ⟨a, r, hE2, hX2, ht⟩ := h1.pos c
    rw [r]
    have z2e : z2 = 1 := by have := hq.2.2.2.1; omega
    have := C_prodL hta hn hS nn 0 A3 a.2 (by omega) hE2 hX2 (by rw [hq.2.2.2.2 z2e]; exact h4) h
    rw [ht] at this
    exact this
  · rw [h1.neg c]
    exact hz
theorem C_sumL {f : Nat → Int} {N ta n b : Nat} (hta : isT ta) (hn : n + b = 8) {SS : St → Int → St → Prop} {S : PT} (hS : 0 < n → HS f N ta ((b : Int) + 1) SS S) {u : St} {z : Int} : ∀ nn (i : Nat) (A : St) (p : Nat), i ≤ 1600 → EK f N A → LXA f N p A → A 3 4 = (b : Int) → d_X5_readSum_1 SS b (ta + 19) z u nn (i : Int) A → CA f N ta (sSumL f N n S (1600 - i) (tw ta A) p) z u := by
  intro nn
  induction nn with
  | zero => intro i A p _ _ _ _ h; exact h.elim
  | succ m ih =>
    intro i A p hi hE hX h4 h
    obtain ⟨_, _, h⟩ := (h : tr_d_X5_readSum_1 SS b (ta + 19) z u (fun z8 A10 => d_X5_readSum_1 SS b (ta + 19) z u m z8 A10) i A)
    rcases h with ⟨c, hz, _⟩ | ⟨c, z19, A20, hq1, h⟩
    · rw [show 1600 - i = 0 by omega]
      exact hz
    · obtain ⟨k, hk⟩ : ∃ k, 1600 - i = k + 1 := ⟨1600 - i - 1, by omega⟩
      rw [hk]
      unfold sSumL
      have turn : ∀ {x : Int} {B : St} {e : Nat}, CS f N e B → tw ta B = tw ta A → B 3 4 = (b : Int) → d_X5_readSum_2 (fun z8 A10 => d_X5_readSum_1 SS b (ta + 19) z u m z8 A10) SS b (ta + 19) i z u x B → CA f N ta ((sAd2 (sProd f N n S (tw ta A) e) x).bind fun a => sSumL f N n S k a.1 a.2) z u := by
        intro x B e hC ht hb h
        obtain ⟨_, _, z45, A46, hq, h⟩ := (h : tr_d_X5_readSum_2 _ SS b (ta + 19) i z u x B)
        have h1 := C_prod hta hn hS hC.1 (Or.inl hC.2) hb hq
        rw [ht] at h1
        rcases h with ⟨c, hz, _⟩ | ⟨c, z51, A52, hq2, h⟩
        · rw [h1.neg c, sAd2_none]
          exact hz
        · have z45e : z45 = 1 := by have := hq.2.2.2.1; omega
          rcases C_turn (k := 0) (z := 0) (u := u) h1 c hq2 with ⟨e1, e2⟩ | ⟨e1, a, e2, hE2, hX2, ht2⟩
          · rw [e2]
            rcases h with ⟨c, _⟩ | ⟨_, hz, _⟩
            · exact absurd e1 c
            · exact hz
          · rw [e2]
            rcases h with ⟨_, h⟩ | ⟨c, _⟩
            · have := ih (i + 1) A52 a.2 (by omega) hE2 hX2 (by rw [hq2.2.2.1 3 4 rfl rfl, hq.2.2.2.2 z45e]; exact hb) h
              rw [ht2, show 1600 - (i + 1) = k by omega] at this
              exact this
            · omega
      have h1 := C_passesSign hta (by decide) hE hX hq1
      have g1 : A20 3 4 = (b : Int) := (hq1.2.2.1 3 4 rfl rfl).trans h4
      rcases h with ⟨c1, z25, A26, hq2, h⟩ | ⟨c1, h⟩
      · obtain ⟨r1, hE2, hX2, ht2⟩ := h1.neg c1
        rw [r1]
        have h2 := C_passesSign hta (by decide) hE2 (Or.inr hX2) hq2
        have g2 : A26 3 4 = (b : Int) := (hq2.2.2.1 3 4 rfl rfl).trans g1
        rcases h with ⟨c2, h⟩ | ⟨c2, hz, hu⟩
        · obtain ⟨e, r2, hC, ht⟩ := h2.pos c2
          rw [r2]
          exact turn hC (by rw [ht, ht2]) g2 h
        · obtain ⟨r2, hE4, hX4, ht4⟩ := h2.neg c2
          rw [r2, hu]
          exact ⟨hz, hE4, Or.inr hX4, by rw [ht4, ht2]⟩
      · obtain ⟨e, r1, hC, ht⟩ := h1.pos c1
        rw [r1]
        exact turn hC ht g1 h
theorem C_sum {f : Nat → Int} {N ta n b : Nat} (hta : isT ta) (hn : n + b = 8) {SS : St → Int → St → Prop} {S : PT} (hS : 0 < n → HS f N ta ((b : Int) + 1) SS S) {A u : St} {z : Int} {p : Nat} (hE : EK f N A) (hX : LXA f N p A) (h4 : A 3 4 = (b : Int)) (h : r_X5_readSum SS b (ta + 19) A z u) : CA f N ta (sSum f N n S (tw ta A) p) z u := by
  obtain ⟨z2, A3, hq, h⟩ := (h : tr_r_X5_readSum SS b (ta + 19) A z u)
  have h1 := C_prod hta hn hS hE hX h4 hq
  unfold sSum
  rcases h with ⟨c, nn, h⟩ | ⟨c, hz, _⟩
  · obtain ⟨a, r, hE2, hX2, ht⟩ := h1.pos c
    rw [r]
    have z2e : z2 = 1 := by have := hq.2.2.2.1; omega
    have := C_sumL hta hn hS nn 0 A3 a.2 (by omega) hE2 hX2 (by rw [hq.2.2.2.2 z2e]; exact h4) h
    rw [ht] at this
    exact this
  · rw [h1.neg c]
    exact hz
theorem C_sumN {f : Nat → Int} {N ta : Nat} (hta : isT ta) : ∀ n : Nat, n ≤ 8 → HS f N ta (8 - (n : Int)) (rq_sum (ta + 19) n) (sSumN f N n) := by
  intro n
  induction n with
  | zero =>
    intro _ A z u p hE hX h4 h
    exact C_sum (n := 0) (b := 8 - 0) hta (by omega) (fun g => absurd g (by omega)) hE hX (by rw [h4]; rfl) (h.1 : r_X5_readSum (fun _ _ _ => False) (8 - 0) (ta + 19) A z u)
  | succ n ih =>
    intro hn A z u p hE hX h4 h
    refine C_sum (n := n + 1) (b := 8 - (n + 1)) hta (by omega) (fun _ => ?_) hE hX (by rw [h4]; omega) (h.1 : r_X5_readSum (rq_sum (ta + 19) n) (8 - (n + 1)) (ta + 19) A z u)
    have := ih (by omega)
    rw [show (((8 - (n + 1) : Nat) : Int) + 1) = 8 - (n : Int) by omega]
    exact this
