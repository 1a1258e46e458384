theorem C_bothL {f : Nat → Int} {N ta n b : Nat} (hta : isT ta) (hn : n + b = 8) {SS : St → Int → St → Prop} {S2 : PT} (hS : 0 < n → HT f N ta ((b : Int) + 1) SS S2) {u : St} {z : Int} : ∀ (nn i : Nat) (A : St) (p : Nat), i ≤ 1600 → EK f N A → LXA f N p A → A 3 4 = (b : Int) → d_X5_readBoth_1 SS b (ta + 19) z u nn (i : Int) A → CA f N ta (sBothL f N n (sSumN f N n) S2 (1600 - i) (tw ta A) p) z u := by
  intro nn
  induction nn with
  | zero => intro i A p _ _ _ _ h; exact h.elim
  | succ m ih =>
    intro i A p hi hE hX h4 h
    obtain ⟨_, _, h⟩ := (h : tr_d_X5_readBoth_1 SS b (ta + 19) z u (fun z8 A10 => d_X5_readBoth_1 SS b (ta + 19) z u m z8 A10) i A)
    rcases h with ⟨c, hz, hu⟩ | ⟨c, z19, A20, hq1, h⟩
    · rw [show 1600 - i = 0 by omega, hu]
      exact ⟨hz, hE, hX, rfl⟩
    · obtain ⟨k, hk⟩ : ∃ k, 1600 - i = k + 1 := ⟨1600 - i - 1, by omega⟩
      rw [hk]
      unfold sBothL
      have h1 := C_passesWord hta (k := 17) (by decide) rfl hE hX hq1
      have g1 : A20 3 4 = (b : Int) := (hq1.2.2.1 3 4 rfl rfl).trans h4
      rcases h with ⟨c1, hz, hu⟩ | ⟨c1, z26, A27, hq, h⟩
      · obtain ⟨r1, hE2, hX2, ht2⟩ := h1.neg c1
        rw [r1, hu]
        exact ⟨hz, hE2, Or.inr hX2, ht2⟩
      · obtain ⟨e, r1, hC, ht⟩ := h1.pos c1
        rw [r1]
        have h2 := C_fact hta hn hS hC.1 (Or.inl hC.2) g1 hq
        rw [ht] at h2
        show CA f N ta ((sAd2 (sFact f N n (sSumN f N n) S2 (tw ta A) e) (-8)).bind _) z u
        rcases h with ⟨c2, hz, _⟩ | ⟨c2, z32, A33, hq2, h⟩
        · rw [h2.neg c2, sAd2_none]
          exact hz
        · have z26e : z26 = 1 := by have := hq.2.2.2.1; omega
          rcases C_turn (k := 0) (z := 0) (u := u) h2 c2 hq2 with ⟨e1, e2⟩ | ⟨e1, a, e2, hE2, hX2, ht2⟩
          · rw [e2]
            rcases h with ⟨c, _⟩ | ⟨_, hz, _⟩
            · exact absurd e1 c
            · exact hz
          · rw [e2]
            rcases h with ⟨_, h⟩ | ⟨c, _⟩
            · have := ih (i + 1) A33 a.2 (by omega) hE2 hX2 (by rw [hq2.2.2.1 3 4 rfl rfl, hq.2.2.2.2 z26e]; exact g1) h
              rw [ht2, show 1600 - (i + 1) = k by omega] at this
              exact this
            · omega
theorem C_both {f : Nat → Int} {N ta n b : Nat} (hta : isT ta) (hn : n + b = 8) {SS : St → Int → St → Prop} {S2 : PT} (hS : 0 < n → HT f N ta ((b : Int) + 1) SS S2) {A u : St} {z : Int} {p : Nat} (hE : EK f N A) (hX : LXA f N p A) (h4 : A 3 4 = (b : Int)) (h : q_X5_readBoth SS b (ta + 19) A z u) : CA f N ta (sBoth f N n (sSumN f N n) S2 (tw ta A) p) z u := by
  obtain ⟨z2, A3, hq, h⟩ := (h.1 : tr_r_X5_readBoth SS b (ta + 19) A z u)
  have h1 := C_fact hta hn hS hE hX h4 hq
  unfold sBoth
  rcases h with ⟨c, nn, h⟩ | ⟨c, hz, _⟩
  · obtain ⟨a, r, hE2, hX2, ht⟩ := h1.pos c
    rw [r]
    have z2e : z2 = 1 := by have := hq.2.2.2.1; omega
    have := C_bothL hta hn hS nn 0 A3 a.2 (by omega) hE2 hX2 (by rw [hq.2.2.2.2 z2e]; exact h4) h
    rw [ht] at this
    exact this
  · rw [h1.neg c]
    exact hz
theorem C_testL {f : Nat → Int} {N ta n b : Nat} (hta : isT ta) (hn : n + b = 8) {SS : St → Int → St → Prop} {S2 : PT} (hS : 0 < n → HT f N ta ((b : Int) + 1) SS S2) {u : St} {z : Int} : ∀ (nn i : Nat) (A : St) (p : Nat), i ≤ 1600 → EK f N A → LXA f N p A → A 3 4 = (b : Int) → d_X5_readTest_1 SS b (ta + 19) z u nn (i : Int) A → CA f N ta (sTestL f N n (sSumN f N n) S2 (1600 - i) (tw ta A) p) z u := by
  intro nn
  induction nn with
  | zero => intro i A p _ _ _ _ h; exact h.elim
  | succ m ih =>
    intro i A p hi hE hX h4 h
    obtain ⟨_, _, h⟩ := (h : tr_d_X5_readTest_1 SS b (ta + 19) z u (fun z8 A10 => d_X5_readTest_1 SS b (ta + 19) z u m z8 A10) i A)
    rcases h with ⟨c, hz, hu⟩ | ⟨c, z19, A20, hq1, h⟩
    · rw [show 1600 - i = 0 by omega, hu]
      exact ⟨hz, hE, hX, rfl⟩
    · obtain ⟨k, hk⟩ : ∃ k, 1600 - i = k + 1 := ⟨1600 - i - 1, by omega⟩
      rw [hk]
      unfold sTestL
      have h1 := C_passesWord hta (k := 16) (by decide) rfl hE hX hq1
      have g1 : A20 3 4 = (b : Int) := (hq1.2.2.1 3 4 rfl rfl).trans h4
      rcases h with ⟨c1, hz, hu⟩ | ⟨c1, z26, A27, hq, h⟩
      · obtain ⟨r1, hE2, hX2, ht2⟩ := h1.neg c1
        rw [r1, hu]
        exact ⟨hz, hE2, Or.inr hX2, ht2⟩
      · obtain ⟨e, r1, hC, ht⟩ := h1.pos c1
        rw [r1]
        have h2 := C_both hta hn hS hC.1 (Or.inl hC.2) g1 hq
        rw [ht] at h2
        show CA f N ta ((sAd2 (sBoth f N n (sSumN f N n) S2 (tw ta A) e) (-7)).bind _) z u
        rcases h with ⟨c2, hz, _⟩ | ⟨c2, z32, A33, hq2, h⟩
        · rw [h2.neg c2, sAd2_none]
          exact hz
        · have z26e : z26 = 1 := by have := hq.2.2.2.1; omega
          rcases C_turn (k := 0) (z := 0) (u := u) h2 c2 hq2 with ⟨e1, e2⟩ | ⟨e1, a, e2, hE2, hX2, ht2⟩
          · rw [e2]
            rcases h with ⟨c, _⟩ | ⟨_, hz, _⟩
            · exact absurd e1 c
            · exact hz
          · rw [e2]
            rcases h with ⟨_, h⟩ | ⟨c, _⟩
            · have := ih (i + 1) A33 a.2 (by omega) hE2 hX2 (by rw [hq2.2.2.1 3 4 rfl rfl, hq.2.2.2.2 z26e]; exact g1) h
              rw [ht2, show 1600 - (i + 1) = k by omega] at this
              exact this
            · omega
theorem C_test {f : Nat → Int} {N ta n b : Nat} (hta : isT ta) (hn : n + b = 8) {SS : St → Int → St → Prop} {S2 : PT} (hS : 0 < n → HT f N ta ((b : Int) + 1) SS S2) {A u : St} {z : Int} {p : Nat} (hE : EK f N A) (hX : LXA f N p A) (h4 : A 3 4 = (b : Int)) (h : r_X5_readTest SS b (ta + 19) A z u) : CA f N ta (sTest f N n (sSumN f N n) S2 (tw ta A) p) z u := by
  obtain ⟨z2, A3, hq, h⟩ := (h : tr_r_X5_readTest SS b (ta + 19) A z u)
  have h1 := C_both hta hn hS hE hX h4 hq
  unfold sTest
  rcases h with ⟨c, nn, h⟩ | ⟨c, hz, _⟩
  · obtain ⟨a, r, hE2, hX2, ht⟩ := h1.pos c
    rw [r]
    have z2e : z2 = 1 := by have := hq.2.2.2.1; omega
    have := C_testL hta hn hS nn 0 A3 a.2 (by omega) hE2 hX2 (by rw [hq.2.2.2.2 z2e]; exact h4) h
    rw [ht] at this
    exact this
  · rw [h1.neg c]
    exact hz
theorem C_testN {f : Nat → Int} {N ta : Nat} (hta : isT ta) : ∀ n : Nat, n ≤ 8 → HT f N ta (8 - (n : Int)) (rq_test (ta + 19) n) (sTestN f N n) := by
  intro n
  induction n with
  | zero =>
    intro _ A z u p hE hX h4 h
    exact C_test (n := 0) (b := 8 - 0) hta (by omega) (fun g => absurd g (by omega)) hE hX (by rw [h4]; rfl) (h.1 : r_X5_readTest (fun _ _ _ => False) (8 - 0) (ta + 19) A z u)
  | succ n ih =>
    intro hn A z u p hE hX h4 h
    refine C_test (n := n + 1) (b := 8 - (n + 1)) hta (by omega) (fun _ => ?_) hE hX (by rw [h4]; omega) (h.1 : r_X5_readTest (rq_test (ta + 19) n) (8 - (n + 1)) (ta + 19) A z u)
    have := ih (by omega)
    rw [show (((8 - (n + 1) : Nat) : Int) + 1) = 8 - (n : Int) by omega]
    exact this
