/-! The class's tests: facts, both, tests, bars. -/
def sCmp (f : Nat → Int) (N p : Nat) : Option (Int × Nat) := match sSign f N 60 p with
  | some e => some (-9, e)
  | none => match sSign f N 62 p with
    | some e => some (-10, e)
    | none => match sSign f N 61 p with
      | some e => some (-11, e)
      | none => none
theorem C_cmp {f : Nat → Int} {N ta p : Nat} (hta : isT ta) {A u : St} {z : Int} (hE : EK f N A) (hX : LXA f N p A) (h : q_X5_comparisonSign A z u) : CR f N ta A (sCmp f N p) z u := by
  have ht : tw ta u = tw ta A := tw_fk hta h.2.2.1 rfl
  obtain ⟨A1, hq, z4, hs1, h⟩ := (h.1 : tr_r_X5_comparisonSign A z u)
  obtain ⟨hE1, hX1⟩ := lookA hE hX hq
  unfold sCmp sSign
  rcases h with ⟨c1, z8, hs2, h⟩ | ⟨c1, A29, hp, hz, hu⟩
  · rcases isS_iff (by decide) hX1 hs1 with ⟨e, _⟩ | ⟨_, g1⟩
    · omega
    · rw [if_neg g1]
      rcases h with ⟨c2, z12, hs3, h⟩ | ⟨c2, A26, hp, hz, hu⟩
      · rcases isS_iff (by decide) hX1 hs2 with ⟨e, _⟩ | ⟨_, g2⟩
        · omega
        · rw [if_neg g2]
          rcases h with ⟨c3, z16, A17, _, A20, _, hz, _⟩ | ⟨c3, A23, hp, hz, hu⟩
          · rcases isS_iff (by decide) hX1 hs3 with ⟨e, _⟩ | ⟨_, g3⟩
            · omega
            · rw [if_neg g3]
              exact hz
          · rcases isS_iff (by decide) hX1 hs3 with ⟨_, g3⟩ | ⟨e, _⟩
            · rw [if_pos g3]
              have hP := passX hE1 hX1 (by omega) hp
              exact ⟨hz, by omega, by rw [hu]; exact ⟨hP.1, hP.2.1⟩, ht⟩
            · omega
      · rcases isS_iff (by decide) hX1 hs2 with ⟨_, g2⟩ | ⟨e, _⟩
        · rw [if_pos g2]
          have hP := passX hE1 hX1 (by omega) hp
          exact ⟨hz, by omega, by rw [hu]; exact ⟨hP.1, hP.2.1⟩, ht⟩
        · omega
  · rcases isS_iff (by decide) hX1 hs1 with ⟨_, g1⟩ | ⟨e, _⟩
    · rw [if_pos g1]
      have hP := passX hE1 hX1 (by omega) hp
      exact ⟨hz, by omega, by rw [hu]; exact ⟨hP.1, hP.2.1⟩, ht⟩
    · omega
theorem CR.pos {f : Nat → Int} {N ta : Nat} {B u : St} {r : Option (Int × Nat)} {z : Int} (h : CR f N ta B r z u) (hz : ¬ z = -1) : ∃ a, r = some a ∧ z = a.1 ∧ CS f N a.2 u ∧ tw ta u = tw ta B := by
  cases r with
  | none => exact absurd h hz
  | some e => exact ⟨e, rfl, h.1, h.2.2⟩
theorem CR.neg {f : Nat → Int} {N ta : Nat} {B u : St} {r : Option (Int × Nat)} {z : Int} (h : CR f N ta B r z u) (hz : z = -1) : r = none := by
  cases r with
  | none => rfl
  | some e => exact absurd hz h.2.1
def sNots (f : Nat → Int) (N : Nat) : Nat → Int → Nat → Int × Nat
  | 0, t, p => (t, p)
  | k + 1, t, p => match sOwn f N 18 p with
    | some e => sNots f N k (if t = 0 then 1 else 0) e
    | none => (t, p)
def sFactB (f : Nat → Int) (N n : Nat) (S S2 : PT) : PT := fun T p => match sOwn f N 19 p with
  | some e => sAd2 (some (T, e)) (-5)
  | none => match sSign f N 91 p with
    | some e => if n = 0 then none else (S2 T e).bind fun a => (sSign f N 93 a.2).bind fun p2 => some (a.1, p2)
    | none => (S T p).bind fun a => (sCmp f N a.2).bind fun c => sAd2 (S a.1 c.2) c.1
def sFact (f : Nat → Int) (N n : Nat) (S S2 : PT) : PT := fun T p => (sFactB f N n S S2 T (sNots f N 1600 0 p).2).bind fun a => if (sNots f N 1600 0 p).1 = 0 then some a else sAd2 (some a) (-6)
def HT (f : Nat → Int) (N ta : Nat) (m : Int) (SS : St → Int → St → Prop) (S : PT) : Prop := ∀ (A : St) (z : Int) (u : St) (p : Nat), EK f N A → LXA f N p A → A 3 4 = m → q_SS_test SS A z u → CA f N ta (S (tw ta A) p) z u
/-- the fact's end: turned or not -/
theorem C_fact9 {f : Nat → Int} {N ta : Nat} {t z zr : Int} {u B : St} {r : Option (St × Nat)} (h1 : CA f N ta r zr B) (h : d_X5_readFact_9 (ta + 19) t z u zr B) : CA f N ta (r.bind fun a => if t = 0 then some a else sAd2 (some a) (-6)) z u := by
  obtain ⟨_, _, h⟩ := (h : tr_d_X5_readFact_9 (ta + 19) t z u zr B)
  rcases h with ⟨c, hz, _⟩ | ⟨c, h⟩
  · rw [h1.neg c]
    exact hz
  · obtain ⟨a, r1, hE, hX, ht⟩ := h1.pos c
    rw [r1]
    show CA f N ta (if t = 0 then some a else sAd2 (some a) (-6)) z u
    rcases h with ⟨c2, hz, hu⟩ | ⟨c2, z141, A142, hq, h⟩
    · rw [if_pos c2, hu]
      exact ⟨hz, hE, hX, ht⟩
    · rw [if_neg c2]
      have b := hq.2.2.2
      rcases h with ⟨c3, hz, hu⟩ | ⟨c3, hz, hu⟩
      · exact C_ad2 hE hX ht hq (by omega) hu
      · exact C_ad2 hE hX ht hq (by omega) hu
theorem C_factB {f : Nat → Int} {N ta n b : Nat} (hta : isT ta) (hn : n + b = 8) {SS : St → Int → St → Prop} {S2 : PT} (hS : 0 < n → HT f N ta ((b : Int) + 1) SS S2) {A u : St} {z t : Int} {p : Nat} (hE : EK f N A) (hX : LXA f N p A) (h4 : A 3 4 = (b : Int)) (h : d_X5_readFact_3 SS b (ta + 19) t z u A) : CA f N ta ((sFactB f N n (sSumN f N n) S2 (tw ta A) p).bind fun a => if t = 0 then some a else sAd2 (some a) (-6)) z u := by
  have hs1 := C_sumN (f := f) (N := N) hta n (by omega)
  have e8 : 8 - b = n := by omega
  have no : ∀ {B : St}, d_X5_readFact_9 (ta + 19) t z u 0 B → z = 0 := by
    intro B h
    obtain ⟨_, _, h⟩ := (h : tr_d_X5_readFact_9 (ta + 19) t z u 0 B)
    rcases h with ⟨_, hz, _⟩ | ⟨c, _⟩
    · exact hz
    · exact absurd rfl c
  have no5 : ∀ {B : St}, d_X5_readFact_5 (ta + 19) t z u B → z = 0 := by
    intro B h
    obtain ⟨_, h⟩ := (h : tr_d_X5_readFact_5 (ta + 19) t z u B)
    obtain ⟨_, _, h⟩ := (h : tr_d_X5_readFact_6 (ta + 19) t z u 0 B)
    exact no h
  have no7 : ∀ {B : St}, d_X5_readFact_7 (ta + 19) t z u B → z = 0 := by
    intro B h
    obtain ⟨_, h⟩ := (h : tr_d_X5_readFact_7 (ta + 19) t z u B)
    obtain ⟨_, _, h⟩ := (h : tr_d_X5_readFact_8 (ta + 19) t z u 0 B)
    exact no h
  obtain ⟨_, z26, A27, hq, h⟩ := (h : tr_d_X5_readFact_3 SS b (ta + 19) t z u A)
  have h1 := C_passesWord hta (k := 19) (by decide) rfl hE hX hq
  have g1 : A27 3 4 = (b : Int) := (hq.2.2.1 3 4 rfl rfl).trans h4
  unfold sFactB
  rcases h with ⟨c, z32, A33, hq2, h⟩ | ⟨c, z127, A128, hq2, h⟩
  · obtain ⟨r1, hE1, hX1, ht1⟩ := h1.neg c
    rw [r1]
    have h2 := C_passesSign hta (by decide) hE1 (Or.inr hX1) hq2
    have g2 : A33 3 4 = (b : Int) := (hq2.2.2.1 3 4 rfl rfl).trans g1
    rcases h with ⟨c2, z42, A43, hq3, h⟩ | ⟨c2, z91, A92, hq3, h⟩
    · obtain ⟨r2, hE2, hX2, ht2⟩ := h2.neg c2
      rw [r2]
      rw [e8] at hq3
      have h3 := hs1 A33 z42 A43 p hE2 (Or.inr hX2) (by omega) hq3
      rw [ht2, ht1] at h3
      show CA f N ta (((sSumN f N n (tw ta A) p).bind _).bind _) z u
      rcases h with ⟨c3, h⟩ | ⟨c3, z49, A50, hq4, h⟩
      · rw [h3.neg c3]
        obtain ⟨_, _, h⟩ := (h : tr_d_X5_readFact_4 b (ta + 19) t z u (-1) A43)
        rcases h with ⟨_, h⟩ | ⟨c, _⟩
        · exact no5 h
        · exact absurd rfl c
      · obtain ⟨a, r3, hE3, hX3, ht3⟩ := h3.pos c3
        rw [r3]
        have z42e : z42 = 1 := by have := hq3.2.2.2.1; omega
        have g3 : A43 3 4 = (b : Int) := (hq3.2.2.2.2 z42e).trans g2
        have h4' := C_cmp hta hE3 hX3 hq4
        show CA f N ta (((sCmp f N a.2).bind _).bind _) z u
        obtain ⟨_, _, h⟩ := (h : tr_d_X5_readFact_4 b (ta + 19) t z u z49 A50)
        rcases h with ⟨c4, h⟩ | ⟨c4, z63, A64, hq5, h⟩
        · rw [h4'.neg c4]
          exact no5 h
        · obtain ⟨cc, r4, e4, hC4, ht4⟩ := h4'.pos c4
          rw [r4]
          have g4 : A50 3 4 = (b : Int) := (hq4.2.2.1 3 4 rfl rfl).trans g3
          rw [e8] at hq5
          have h5 := hs1 A50 z63 A64 cc.2 hC4.1 (Or.inl hC4.2) (by omega) hq5
          rw [ht4, ht3] at h5
          show CA f N ta ((sAd2 (sSumN f N n a.1 cc.2) cc.1).bind _) z u
          rcases h with ⟨c5, h⟩ | ⟨c5, z69, A70, hq6, h⟩
          · rw [h5.neg c5, sAd2_none]
            exact no5 h
          · rw [e4] at hq6
            rcases C_turn (k := 0) (z := 0) (u := u) h5 c5 hq6 with ⟨e1, e2⟩ | ⟨e1, x, e2, hE6, hX6, ht6⟩
            · rw [e2]
              rcases h with ⟨_, h⟩ | ⟨c6, _⟩
              · exact no5 h
              · exact absurd e1 c6
            · rw [e2]
              rcases h with ⟨c6, _⟩ | ⟨_, h⟩
              · omega
              · obtain ⟨_, _, h⟩ := (h : tr_d_X5_readFact_6 (ta + 19) t z u 1 A70)
                exact C_fact9 (r := some x) ⟨rfl, hE6, hX6, ht6⟩ h
    · obtain ⟨e, r2, hC, ht2⟩ := h2.pos c2
      rw [r2]
      show CA f N ta ((if n = 0 then none else _).bind _) z u
      rcases C_enter hta hC.1 (Or.inl hC.2) hq3 with ⟨e1, e2⟩ | ⟨e1, e2, hE3, hX3, ht3, g43⟩
      · rw [if_pos (by omega)]
        rcases h with ⟨_, h⟩ | ⟨c3, _⟩
        · exact no7 h
        · exact absurd e1 c3
      · rw [if_neg (by omega)]
        rcases h with ⟨c3, _⟩ | ⟨_, z99, A100, hq4, h⟩
        · omega
        · have h4' := hS (by omega) A92 z99 A100 e hE3 hX3 (by omega) hq4
          rw [ht3, ht2, ht1] at h4'
          rcases h with ⟨c4, h⟩ | ⟨c4, z105, A106, hq5, h⟩
          · rw [h4'.neg c4]
            exact no7 h
          · obtain ⟨a, r4, hE4, hX4, ht4⟩ := h4'.pos c4
            rw [r4]
            have h5 := C_sign hta (by decide) hE4 hX4 hq5
            show CA f N ta (((sSign f N 93 a.2).bind _).bind _) z u
            rcases h with ⟨c5, h⟩ | ⟨c5, z111, A112, hq6, h⟩
            · rw [h5.neg c5]
              exact no7 h
            · obtain ⟨p2, r5, hC5, ht5⟩ := h5.pos c5
              rw [r5]
              obtain ⟨k1, k2, k3⟩ := C_leave hta hC5.1 (Or.inl hC5.2) hq6
              obtain ⟨_, _, h⟩ := (h : tr_d_X5_readFact_8 (ta + 19) t z u 1 A112)
              exact C_fact9 (r := some (a.1, p2)) ⟨rfl, k1, k2, by rw [k3, ht5, ht4]⟩ h
  · obtain ⟨e, r1, hC, ht1⟩ := h1.pos c
    rw [r1]
    exact C_fact9 (C_ad2 (a := (tw ta A, e)) hC.1 (Or.inl hC.2) ht1 hq2 rfl rfl) h
theorem C_fact {f : Nat → Int} {N ta n b : Nat} (hta : isT ta) (hn : n + b = 8) {SS : St → Int → St → Prop} {S2 : PT} (hS : 0 < n → HT f N ta ((b : Int) + 1) SS S2) {A u : St} {z : Int} {p : Nat} (hE : EK f N A) (hX : LXA f N p A) (h4 : A 3 4 = (b : Int)) (h : q_X5_readFact SS b (ta + 19) A z u) : CA f N ta (sFact f N n (sSumN f N n) S2 (tw ta A) p) z u := by
  obtain ⟨nn, h⟩ := (h.1 : tr_r_X5_readFact SS b (ta + 19) A z u)
  have lp : ∀ (m i : Nat) (t : Int) (B : St) (q : Nat), i ≤ 1600 → EK f N B → LXA f N q B → B 3 4 = (b : Int) → tw ta B = tw ta A → d_X5_readFact_1 SS b (ta + 19) z u m (i : Int) t B → CA f N ta ((sFactB f N n (sSumN f N n) S2 (tw ta A) (sNots f N (1600 - i) t q).2).bind fun a => if (sNots f N (1600 - i) t q).1 = 0 then some a else sAd2 (some a) (-6)) z u := by
    intro m
    induction m with
    | zero => intro i t B q _ _ _ _ _ h; exact h.elim
    | succ m ih =>
      intro i t B q hi hE hX h4 ht h
      obtain ⟨_, _, _, h⟩ := (h : tr_d_X5_readFact_1 SS b (ta + 19) z u (fun z1 z2 A4 => d_X5_readFact_1 SS b (ta + 19) z u m z1 z2 A4) i t B)
      rcases h with ⟨c, h⟩ | ⟨c, z13, A14, hq, h⟩
      · rw [show 1600 - i = 0 by omega]
        have := C_factB hta hn hS hE hX h4 h
        rw [ht] at this
        exact this
      · obtain ⟨k, hk⟩ : ∃ k, 1600 - i = k + 1 := ⟨1600 - i - 1, by omega⟩
        rw [hk]
        have h1 := C_passesWord hta (k := 18) (by decide) rfl hE hX hq
        have g1 : A14 3 4 = (b : Int) := (hq.2.2.1 3 4 rfl rfl).trans h4
        rcases h with ⟨c1, h⟩ | ⟨c1, h⟩
        · obtain ⟨r1, hE1, hX1, ht1⟩ := h1.neg c1
          have e : sNots f N (k + 1) t q = (t, q) := by unfold sNots; rw [r1]
          rw [e]
          have := C_factB hta hn hS hE1 (Or.inr hX1) g1 h
          rw [ht1, ht] at this
          exact this
        · obtain ⟨e, r1, hC, ht1⟩ := h1.pos c1
          have e2 : sNots f N (k + 1) t q = sNots f N k (if t = 0 then 1 else 0) e := by
            conv => lhs; unfold sNots
            rw [r1]
          rw [e2, show k = 1600 - (i + 1) by omega]
          rcases h with ⟨c2, h⟩ | ⟨c2, h⟩
          · rw [if_neg c2]
            obtain ⟨_, h⟩ := (h : tr_d_X5_readFact_2 _ i A14 z u 0)
            exact ih (i + 1) 0 A14 e (by omega) hC.1 (Or.inl hC.2) g1 (ht1.trans ht) h
          · rw [if_pos c2]
            obtain ⟨_, h⟩ := (h : tr_d_X5_readFact_2 _ i A14 z u 1)
            exact ih (i + 1) 1 A14 e (by omega) hC.1 (Or.inl hC.2) g1 (ht1.trans ht) h
  exact lp nn 0 0 A p (by omega) hE hX h4 rfl h
def sBothL (f : Nat → Int) (N n : Nat) (S S2 : PT) : Nat → PT
  | 0 => fun T p => some (T, p)
  | k + 1 => fun T p => match sOwn f N 17 p with
    | some e => (sAd2 (sFact f N n S S2 T e) (-8)).bind fun a => sBothL f N n S S2 k a.1 a.2
    | none => some (T, p)
def sBoth (f : Nat → Int) (N n : Nat) (S S2 : PT) : PT := fun T p => (sFact f N n S S2 T p).bind fun a => sBothL f N n S S2 1600 a.1 a.2
def sTestL (f : Nat → Int) (N n : Nat) (S S2 : PT) : Nat → PT
  | 0 => fun T p => some (T, p)
  | k + 1 => fun T p => match sOwn f N 16 p with
    | some e => (sAd2 (sBoth f N n S S2 T e) (-7)).bind fun a => sTestL f N n S S2 k a.1 a.2
    | none => some (T, p)
def sTest (f : Nat → Int) (N n : Nat) (S S2 : PT) : PT := fun T p => (sBoth f N n S S2 T p).bind fun a => sTestL f N n S S2 1600 a.1 a.2
def sTestN (f : Nat → Int) (N : Nat) : Nat → PT
  | 0 => sTest f N 0 (sSumN f N 0) (fun _ _ => none)
  | n + 1 => sTest f N (n + 1) (sSumN f N (n + 1)) (sTestN f N n)
