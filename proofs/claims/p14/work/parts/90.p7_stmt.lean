/-! The class's statements. -/
theorem tw_st (ta j i : Nat) (v : Int) (B : St) : tw ta (stA B (ta + j) i v) = stA (tw ta B) j i v := by
  funext a b
  show stA B (ta + j) i v (ta + a) b = _
  by_cases h : a = j
  · subst h
    rw [stA_same, stA_same]
    rfl
  · rw [stA_ne _ _ h, stA_ne _ _ (by omega)]
    rfl
theorem LX0.fr {f : Nat → Int} {N e : Nat} {A u : St} {P : List Nat} {F : List (Nat × Nat)} (h : LX0 f N e A) (hf : fk P F A u) (p5 : P.contains 5 = false) (f5 : ∀ k, fin2 F 5 k = false) : LX0 f N e u := by
  have g : ∀ k, u 5 k = A 5 k := fun k => hf 5 k p5 (f5 k)
  unfold LX0
  rw [g 6, g 1, g 5]
  exact h
theorem CS.fr {f : Nat → Int} {N e : Nat} {A u : St} {P : List Nat} {F : List (Nat × Nat)} (h : CS f N e A) (hI : IK u) (hf : fk P F A u) (p1 : P.contains 1 = false) (p2 : P.contains 2 = false) (p4 : P.contains 4 = false) (p5 : P.contains 5 = false) (f1 : fin2 F 1 1 = false) (f2 : ∀ k, fin2 F 2 k = false) (f4 : ∀ k, fin2 F 4 k = false) (f5 : ∀ k, fin2 F 5 k = false) : CS f N e u := ⟨h.1.fr hI hf p1 p2 p4 f1 f2 f4, h.2.fr hf p5 f5⟩
def sAdd (T : St) (k : Nat) (w : Int) : St := stA (stA T (3 + k) (T 1 k).toNat w) 1 k (T 1 k + 1)
/-- a statement's answer: the town as it is then, and where the text goes on -/
def CT (f : Nat → Int) (N ta : Nat) (r : Option (St × Nat)) (z : Int) (u : St) : Prop := match r with
  | none => z = 0
  | some (T, e) => z = 1 ∧ CS f N e u ∧ tw ta u = T
theorem C_add_0 {f : Nat → Int} {N e ta : Nat} {x2 : Int} {A u : St} {z : Int} (hl : tw ta A 1 0 < 8) (hx : x2 ≠ -1) (hC : CS f N e A) (h : q_X9_add_1_0 ta x2 A z u) : z = 1 ∧ CS f N e u ∧ tw ta u = sAdd (tw ta A) 0 x2 := by
  have hl : A (ta + 1) 0 < 8 := hl
  have hC2 : CS f N e u := hC.fr h.2.1 h.2.2.1 rfl rfl rfl rfl rfl (fun _ => rfl) (fun _ => rfl) (fun _ => rfl)
  rcases (h.1 : tr_r_X9_add_1_0 ta x2 A z u) with ⟨c, _⟩ | ⟨_, z4, hz4, h⟩
  · exact absurd c hx
  · have hz4 : z4 = A (ta + 1) 0 := hz4
    rcases h with ⟨_, A8, hA8, A11, hA11, hz, hu⟩ | ⟨c, _⟩
    · refine ⟨hz, hC2, ?_⟩
      have hA8 : A8 = stA A (ta + (3 + 0)) z4.toNat x2 := hA8
      have hA11 : A11 = stA A8 (ta + 1) 0 (z4 + 1) := hA11
      rw [hu, hA11, tw_st, hA8, tw_st, hz4]
      rfl
    · omega
theorem C_add_1 {f : Nat → Int} {N e ta : Nat} {x2 : Int} {A u : St} {z : Int} (hl : tw ta A 1 1 < 10) (hx : x2 ≠ -1) (hC : CS f N e A) (h : q_X9_add_1_1 ta x2 A z u) : z = 1 ∧ CS f N e u ∧ tw ta u = sAdd (tw ta A) 1 x2 := by
  have hl : A (ta + 1) 1 < 10 := hl
  have hC2 : CS f N e u := hC.fr h.2.1 h.2.2.1 rfl rfl rfl rfl rfl (fun _ => rfl) (fun _ => rfl) (fun _ => rfl)
  rcases (h.1 : tr_r_X9_add_1_1 ta x2 A z u) with ⟨c, _⟩ | ⟨_, z4, hz4, h⟩
  · exact absurd c hx
  · have hz4 : z4 = A (ta + 1) 1 := hz4
    rcases h with ⟨_, A8, hA8, A11, hA11, hz, hu⟩ | ⟨c, _⟩
    · refine ⟨hz, hC2, ?_⟩
      have hA8 : A8 = stA A (ta + (3 + 1)) z4.toNat x2 := hA8
      have hA11 : A11 = stA A8 (ta + 1) 1 (z4 + 1) := hA11
      rw [hu, hA11, tw_st, hA8, tw_st, hz4]
      rfl
    · omega
theorem C_add_2 {f : Nat → Int} {N e ta : Nat} {x2 : Int} {A u : St} {z : Int} (hl : tw ta A 1 2 < 4) (hx : x2 ≠ -1) (hC : CS f N e A) (h : q_X9_add_1_2 ta x2 A z u) : z = 1 ∧ CS f N e u ∧ tw ta u = sAdd (tw ta A) 2 x2 := by
  have hl : A (ta + 1) 2 < 4 := hl
  have hC2 : CS f N e u := hC.fr h.2.1 h.2.2.1 rfl rfl rfl rfl rfl (fun _ => rfl) (fun _ => rfl) (fun _ => rfl)
  rcases (h.1 : tr_r_X9_add_1_2 ta x2 A z u) with ⟨c, _⟩ | ⟨_, z4, hz4, h⟩
  · exact absurd c hx
  · have hz4 : z4 = A (ta + 1) 2 := hz4
    rcases h with ⟨_, A8, hA8, A11, hA11, hz, hu⟩ | ⟨c, _⟩
    · refine ⟨hz, hC2, ?_⟩
      have hA8 : A8 = stA A (ta + (3 + 2)) z4.toNat x2 := hA8
      have hA11 : A11 = stA A8 (ta + 1) 2 (z4 + 1) := hA11
      rw [hu, hA11, tw_st, hA8, tw_st, hz4]
      rfl
    · omega
theorem C_add_3 {f : Nat → Int} {N e ta : Nat} {x2 : Int} {A u : St} {z : Int} (hl : tw ta A 1 3 < 3) (hx : x2 ≠ -1) (hC : CS f N e A) (h : q_X9_add_1_3 ta x2 A z u) : z = 1 ∧ CS f N e u ∧ tw ta u = sAdd (tw ta A) 3 x2 := by
  have hl : A (ta + 1) 3 < 3 := hl
  have hC2 : CS f N e u := hC.fr h.2.1 h.2.2.1 rfl rfl rfl rfl rfl (fun _ => rfl) (fun _ => rfl) (fun _ => rfl)
  rcases (h.1 : tr_r_X9_add_1_3 ta x2 A z u) with ⟨c, _⟩ | ⟨_, z4, hz4, h⟩
  · exact absurd c hx
  · have hz4 : z4 = A (ta + 1) 3 := hz4
    rcases h with ⟨_, A8, hA8, A11, hA11, hz, hu⟩ | ⟨c, _⟩
    · refine ⟨hz, hC2, ?_⟩
      have hA8 : A8 = stA A (ta + (3 + 3)) z4.toNat x2 := hA8
      have hA11 : A11 = stA A8 (ta + 1) 3 (z4 + 1) := hA11
      rw [hu, hA11, tw_st, hA8, tw_st, hz4]
      rfl
    · omega
theorem C_add_4 {f : Nat → Int} {N e ta : Nat} {x2 : Int} {A u : St} {z : Int} (hl : tw ta A 1 4 < 4) (hx : x2 ≠ -1) (hC : CS f N e A) (h : q_X9_add_1_4 ta x2 A z u) : z = 1 ∧ CS f N e u ∧ tw ta u = sAdd (tw ta A) 4 x2 := by
  have hl : A (ta + 1) 4 < 4 := hl
  have hC2 : CS f N e u := hC.fr h.2.1 h.2.2.1 rfl rfl rfl rfl rfl (fun _ => rfl) (fun _ => rfl) (fun _ => rfl)
  rcases (h.1 : tr_r_X9_add_1_4 ta x2 A z u) with ⟨c, _⟩ | ⟨_, z4, hz4, h⟩
  · exact absurd c hx
  · have hz4 : z4 = A (ta + 1) 4 := hz4
    rcases h with ⟨_, A8, hA8, A11, hA11, hz, hu⟩ | ⟨c, _⟩
    · refine ⟨hz, hC2, ?_⟩
      have hA8 : A8 = stA A (ta + (3 + 4)) z4.toNat x2 := hA8
      have hA11 : A11 = stA A8 (ta + 1) 4 (z4 + 1) := hA11
      rw [hu, hA11, tw_st, hA8, tw_st, hz4]
      rfl
    · omega
def sDoorAdd (T : St) (w a b m : Int) : St := stA (stA (stA (sAdd T 1 w) 8 (T 1 1).toNat a) 9 (T 1 1).toNat b) 10 (T 1 1).toNat m
theorem C_addDoor {f : Nat → Int} {N e ta : Nat} {x1 x2 x3 x4 : Int} {A u : St} {z : Int} (hl : tw ta A 1 1 < 10) (hx : x1 ≠ -1) (hC : CS f N e A) (h : q_X9_addDoor ta x1 x2 x3 x4 A z u) : z = 1 ∧ CS f N e u ∧ tw ta u = sDoorAdd (tw ta A) x1 x2 x3 x4 := by
  have hC2 : CS f N e u := hC.fr h.2.1 h.2.2.1 rfl rfl rfl rfl rfl (fun _ => rfl) (fun _ => rfl) (fun _ => rfl)
  obtain ⟨z1, A2, hq, h⟩ := (h.1 : tr_r_X9_addDoor ta x1 x2 x3 x4 A z u)
  obtain ⟨g1, _, g2⟩ := C_add_1 hl hx hC hq
  rcases h with ⟨_, z6, hz6, A7, hA7, A8, hA8, A9, hA9, hz, hu⟩ | ⟨c, _⟩
  · refine ⟨hz, hC2, ?_⟩
    have hz6 : z6 = tw ta A2 1 1 := hz6
    have e : z6 - 1 = tw ta A 1 1 := by
      rw [hz6, g2]
      show tw ta A 1 1 + 1 - 1 = _
      omega
    rw [e] at hA7 hA8 hA9
    rw [hu, hA9, tw_st, hA8, tw_st, hA7, tw_st, g2]
    rfl
  · omega
def sKeyAdd (T : St) (w a : Int) : St := stA (sAdd T 2 w) 24 (T 1 2).toNat a
theorem C_addKey {f : Nat → Int} {N e ta : Nat} {x1 x2 : Int} {A u : St} {z : Int} (hl : tw ta A 1 2 < 4) (hx : x1 ≠ -1) (hC : CS f N e A) (h : q_X9_addKey ta x1 x2 A z u) : z = 1 ∧ CS f N e u ∧ tw ta u = sKeyAdd (tw ta A) x1 x2 := by
  have hC2 : CS f N e u := hC.fr h.2.1 h.2.2.1 rfl rfl rfl rfl rfl (fun _ => rfl) (fun _ => rfl) (fun _ => rfl)
  obtain ⟨z1, A2, hq, h⟩ := (h.1 : tr_r_X9_addKey ta x1 x2 A z u)
  obtain ⟨g1, _, g2⟩ := C_add_2 hl hx hC hq
  rcases h with ⟨_, z6, hz6, A7, hA7, hz, hu⟩ | ⟨c, _⟩
  · refine ⟨hz, hC2, ?_⟩
    have hz6 : z6 = tw ta A2 1 2 := hz6
    have e : z6 - 1 = tw ta A 1 2 := by
      rw [hz6, g2]
      show tw ta A 1 2 + 1 - 1 = _
      omega
    have hA7 : A7 = stA A2 (ta + 24) (z6 - 1).toNat x2 := hA7
    rw [e] at hA7
    rw [hu, hA7, tw_st, g2]
    rfl
  · omega
def sPersonAdd (T : St) (w a : Int) : St := stA (sAdd T 3 w) 23 (T 1 3).toNat a
theorem C_addPerson {f : Nat → Int} {N e ta : Nat} {x1 x2 : Int} {A u : St} {z : Int} (hl : tw ta A 1 3 < 3) (hx : x1 ≠ -1) (hC : CS f N e A) (h : q_X9_addPerson ta x1 x2 A z u) : z = 1 ∧ CS f N e u ∧ tw ta u = sPersonAdd (tw ta A) x1 x2 := by
  have hC2 : CS f N e u := hC.fr h.2.1 h.2.2.1 rfl rfl rfl rfl rfl (fun _ => rfl) (fun _ => rfl) (fun _ => rfl)
  obtain ⟨z1, A2, hq, h⟩ := (h.1 : tr_r_X9_addPerson ta x1 x2 A z u)
  obtain ⟨g1, _, g2⟩ := C_add_3 hl hx hC hq
  rcases h with ⟨_, z6, hz6, A7, hA7, hz, hu⟩ | ⟨c, _⟩
  · refine ⟨hz, hC2, ?_⟩
    have hz6 : z6 = tw ta A2 1 3 := hz6
    have e : z6 - 1 = tw ta A 1 3 := by
      rw [hz6, g2]
      show tw ta A 1 3 + 1 - 1 = _
      omega
    have hA7 : A7 = stA A2 (ta + 23) (z6 - 1).toNat x2 := hA7
    rw [e] at hA7
    rw [hu, hA7, tw_st, g2]
    rfl
  · omega
def sThingAdd (T : St) (w a : Int) : St := stA (sAdd T 4 w) 11 (T 1 4).toNat a
theorem C_addThing {f : Nat → Int} {N e ta : Nat} {x1 x2 : Int} {A u : St} {z : Int} (hl : tw ta A 1 4 < 4) (hx : x1 ≠ -1) (hC : CS f N e A) (h : q_X9_addThing ta x1 x2 A z u) : z = 1 ∧ CS f N e u ∧ tw ta u = sThingAdd (tw ta A) x1 x2 := by
  have hC2 : CS f N e u := hC.fr h.2.1 h.2.2.1 rfl rfl rfl rfl rfl (fun _ => rfl) (fun _ => rfl) (fun _ => rfl)
  obtain ⟨z1, A2, hq, h⟩ := (h.1 : tr_r_X9_addThing ta x1 x2 A z u)
  obtain ⟨g1, _, g2⟩ := C_add_4 hl hx hC hq
  rcases h with ⟨_, z6, hz6, A7, hA7, hz, hu⟩ | ⟨c, _⟩
  · refine ⟨hz, hC2, ?_⟩
    have hz6 : z6 = tw ta A2 1 4 := hz6
    have e : z6 - 1 = tw ta A 1 4 := by
      rw [hz6, g2]
      show tw ta A 1 4 + 1 - 1 = _
      omega
    have hA7 : A7 = stA A2 (ta + 11) (z6 - 1).toNat x2 := hA7
    rw [e] at hA7
    rw [hu, hA7, tw_st, g2]
    rfl
  · omega
def sBox (f : Nat → Int) (N : Nat) (T : St) (p : Nat) : Option (St × Nat) := (sNew f N T p).bind fun a => (sOwn f N 12 a.2).bind fun b => (sAsk f N T 0 b).bind fun c => some (sDoorAdd T a.1 c.1 c.1 0, c.2)
theorem C_readBox {f : Nat → Int} {N p ta : Nat} (hta : isT ta) {B u : St} {z : Int} (hE : EK f N B) (hX : LXA f N p B) (hl : tw ta B 1 1 < 10) (h : q_X5_readBox ta B z u) : CT f N ta (sBox f N (tw ta B) p) z u := by
  obtain ⟨z1, A2, hq, h⟩ := (h.1 : tr_r_X5_readBox ta B z u)
  have h1 := C_newName hta hE hX hq
  unfold sBox
  cases r1 : sNew f N (tw ta B) p with
  | none =>
    rw [r1] at h1
    have h1 : z1 = -1 := h1
    rcases h with ⟨_, hz, _⟩ | ⟨c, _⟩
    · exact hz
    · exact absurd h1 c
  | some a =>
    rw [r1] at h1
    obtain ⟨e1, n1, hC, ht⟩ := (show z1 = a.1 ∧ z1 ≠ -1 ∧ CS f N a.2 A2 ∧ tw ta A2 = tw ta B from h1)
    rcases h with ⟨c, _⟩ | ⟨_, z6, A7, hq2, h⟩
    · exact absurd c n1
    · have h2 := C_ownWord hta (k := 12) (by decide) rfl hC.1 (Or.inl hC.2) hq2
      show CT f N ta ((sOwn f N 12 a.2).bind _) z u
      cases r2 : sOwn f N 12 a.2 with
      | none =>
        rw [r2] at h2
        have h2 : z6 = 0 := h2
        rcases h with ⟨c, _⟩ | ⟨_, hz, _⟩
        · exact absurd h2 c
        · exact hz
      | some b =>
        rw [r2] at h2
        obtain ⟨n2, hC2, ht2⟩ := (show z6 = 1 ∧ CS f N b A7 ∧ tw ta A7 = tw ta A2 from h2)
        rcases h with ⟨_, z11, A12, hq3, h⟩ | ⟨c, _⟩
        · have h3 := C_asked_0 hta hC2.1 (Or.inl hC2.2) hq3
          rw [ht2, ht] at h3
          show CT f N ta ((sAsk f N (tw ta B) 0 b).bind _) z u
          cases r3 : sAsk f N (tw ta B) 0 b with
          | none =>
            rw [r3] at h3
            have h3 : z11 = -1 := h3
            rcases h with ⟨_, hz, _⟩ | ⟨c, _⟩
            · exact hz
            · exact absurd h3 c
          | some c =>
            rw [r3] at h3
            obtain ⟨e3, n3, hC3, ht3⟩ := (show z11 = c.1 ∧ z11 ≠ -1 ∧ CS f N c.2 A12 ∧ tw ta A12 = tw ta A7 from h3)
            rcases h with ⟨c1, _⟩ | ⟨_, z16, A17, hq4, h⟩
            · exact absurd c1 n3
            · have e12 : tw ta A12 = tw ta B := by rw [ht3, ht2, ht]
              obtain ⟨g1, g2, g3⟩ := C_addDoor (by rw [e12]; exact hl) n1 hC3 hq4
              rw [e12, e1, e3] at g3
              rcases h with ⟨c1, _⟩ | ⟨_, hz, hu⟩
              · omega
              · rw [hu]
                exact ⟨hz, g2, g3⟩
        · omega
def sKey (f : Nat → Int) (N : Nat) (T : St) (p : Nat) : Option (St × Nat) := (sNew f N T p).bind fun a => (sOwn f N 13 a.2).bind fun b => (sSpot f N T b).bind fun c => some (sKeyAdd T a.1 c.1, c.2)
theorem C_readKey {f : Nat → Int} {N p ta : Nat} (hta : isT ta) {B u : St} {z : Int} (hE : EK f N B) (hX : LXA f N p B) (hl : tw ta B 1 2 < 4) (h : q_X5_readKey ta B z u) : CT f N ta (sKey f N (tw ta B) p) z u := by
  obtain ⟨z1, A2, hq, h⟩ := (h.1 : tr_r_X5_readKey ta B z u)
  have h1 := C_newName hta hE hX hq
  unfold sKey
  cases r1 : sNew f N (tw ta B) p with
  | none =>
    rw [r1] at h1
    have h1 : z1 = -1 := h1
    rcases h with ⟨_, hz, _⟩ | ⟨c, _⟩
    · exact hz
    · exact absurd h1 c
  | some a =>
    rw [r1] at h1
    obtain ⟨e1, n1, hC, ht⟩ := (show z1 = a.1 ∧ z1 ≠ -1 ∧ CS f N a.2 A2 ∧ tw ta A2 = tw ta B from h1)
    rcases h with ⟨c, _⟩ | ⟨_, z6, A7, hq2, h⟩
    · exact absurd c n1
    · have h2 := C_ownWord hta (k := 13) (by decide) rfl hC.1 (Or.inl hC.2) hq2
      show CT f N ta ((sOwn f N 13 a.2).bind _) z u
      cases r2 : sOwn f N 13 a.2 with
      | none =>
        rw [r2] at h2
        have h2 : z6 = 0 := h2
        rcases h with ⟨c, _⟩ | ⟨_, hz, _⟩
        · exact absurd h2 c
        · exact hz
      | some b =>
        rw [r2] at h2
        obtain ⟨n2, hC2, ht2⟩ := (show z6 = 1 ∧ CS f N b A7 ∧ tw ta A7 = tw ta A2 from h2)
        rcases h with ⟨_, z11, A12, hq3, h⟩ | ⟨c, _⟩
        · have h3 := C_askedSpot hta hC2.1 (Or.inl hC2.2) hq3
          rw [ht2, ht] at h3
          show CT f N ta ((sSpot f N (tw ta B) b).bind _) z u
          cases r3 : sSpot f N (tw ta B) b with
          | none =>
            rw [r3] at h3
            have h3 : z11 = -1 := h3
            rcases h with ⟨_, hz, _⟩ | ⟨c, _⟩
            · exact hz
            · exact absurd h3 c
          | some c =>
            rw [r3] at h3
            obtain ⟨e3, n3, hC3, ht3⟩ := (show z11 = c.1 ∧ z11 ≠ -1 ∧ CS f N c.2 A12 ∧ tw ta A12 = tw ta A7 from h3)
            rcases h with ⟨c1, _⟩ | ⟨_, z16, A17, hq4, h⟩
            · exact absurd c1 n3
            · have e12 : tw ta A12 = tw ta B := by rw [ht3, ht2, ht]
              obtain ⟨g1, g2, g3⟩ := C_addKey (by rw [e12]; exact hl) n1 hC3 hq4
              rw [e12, e1, e3] at g3
              rcases h with ⟨c1, _⟩ | ⟨_, hz, hu⟩
              · omega
              · rw [hu]
                exact ⟨hz, g2, g3⟩
        · omega
def sPerson (f : Nat → Int) (N : Nat) (T : St) (p : Nat) : Option (St × Nat) := (sNew f N T p).bind fun a => (sOwn f N 12 a.2).bind fun b => (sAsk f N T 0 b).bind fun c => some (sPersonAdd T a.1 c.1, c.2)
theorem C_readPerson {f : Nat → Int} {N p ta : Nat} (hta : isT ta) {B u : St} {z : Int} (hE : EK f N B) (hX : LXA f N p B) (hl : tw ta B 1 3 < 3) (h : q_X5_readPerson ta B z u) : CT f N ta (sPerson f N (tw ta B) p) z u := by
  obtain ⟨z1, A2, hq, h⟩ := (h.1 : tr_r_X5_readPerson ta B z u)
  have h1 := C_newName hta hE hX hq
  unfold sPerson
  cases r1 : sNew f N (tw ta B) p with
  | none =>
    rw [r1] at h1
    have h1 : z1 = -1 := h1
    rcases h with ⟨_, hz, _⟩ | ⟨c, _⟩
    · exact hz
    · exact absurd h1 c
  | some a =>
    rw [r1] at h1
    obtain ⟨e1, n1, hC, ht⟩ := (show z1 = a.1 ∧ z1 ≠ -1 ∧ CS f N a.2 A2 ∧ tw ta A2 = tw ta B from h1)
    rcases h with ⟨c, _⟩ | ⟨_, z6, A7, hq2, h⟩
    · exact absurd c n1
    · have h2 := C_ownWord hta (k := 12) (by decide) rfl hC.1 (Or.inl hC.2) hq2
      show CT f N ta ((sOwn f N 12 a.2).bind _) z u
      cases r2 : sOwn f N 12 a.2 with
      | none =>
        rw [r2] at h2
        have h2 : z6 = 0 := h2
        rcases h with ⟨c, _⟩ | ⟨_, hz, _⟩
        · exact absurd h2 c
        · exact hz
      | some b =>
        rw [r2] at h2
        obtain ⟨n2, hC2, ht2⟩ := (show z6 = 1 ∧ CS f N b A7 ∧ tw ta A7 = tw ta A2 from h2)
        rcases h with ⟨_, z11, A12, hq3, h⟩ | ⟨c, _⟩
        · have h3 := C_asked_0 hta hC2.1 (Or.inl hC2.2) hq3
          rw [ht2, ht] at h3
          show CT f N ta ((sAsk f N (tw ta B) 0 b).bind _) z u
          cases r3 : sAsk f N (tw ta B) 0 b with
          | none =>
            rw [r3] at h3
            have h3 : z11 = -1 := h3
            rcases h with ⟨_, hz, _⟩ | ⟨c, _⟩
            · exact hz
            · exact absurd h3 c
          | some c =>
            rw [r3] at h3
            obtain ⟨e3, n3, hC3, ht3⟩ := (show z11 = c.1 ∧ z11 ≠ -1 ∧ CS f N c.2 A12 ∧ tw ta A12 = tw ta A7 from h3)
            rcases h with ⟨c1, _⟩ | ⟨_, z16, A17, hq4, h⟩
            · exact absurd c1 n3
            · have e12 : tw ta A12 = tw ta B := by rw [ht3, ht2, ht]
              obtain ⟨g1, g2, g3⟩ := C_addPerson (by rw [e12]; exact hl) n1 hC3 hq4
              rw [e12, e1, e3] at g3
              rcases h with ⟨c1, _⟩ | ⟨_, hz, hu⟩
              · omega
              · rw [hu]
                exact ⟨hz, g2, g3⟩
        · omega
def sThing (f : Nat → Int) (N : Nat) (T : St) (p : Nat) : Option (St × Nat) := (sNew f N T p).bind fun a => (sOwn f N 13 a.2).bind fun b => (sSpot f N T b).bind fun c => some (sThingAdd T a.1 c.1, c.2)
theorem C_readThing {f : Nat → Int} {N p ta : Nat} (hta : isT ta) {B u : St} {z : Int} (hE : EK f N B) (hX : LXA f N p B) (hl : tw ta B 1 4 < 4) (h : q_X5_readThing ta B z u) : CT f N ta (sThing f N (tw ta B) p) z u := by
  obtain ⟨z1, A2, hq, h⟩ := (h.1 : tr_r_X5_readThing ta B z u)
  have h1 := C_newName hta hE hX hq
  unfold sThing
  cases r1 : sNew f N (tw ta B) p with
  | none =>
    rw [r1] at h1
    have h1 : z1 = -1 := h1
    rcases h with ⟨_, hz, _⟩ | ⟨c, _⟩
    · exact hz
    · exact absurd h1 c
  | some a =>
    rw [r1] at h1
    obtain ⟨e1, n1, hC, ht⟩ := (show z1 = a.1 ∧ z1 ≠ -1 ∧ CS f N a.2 A2 ∧ tw ta A2 = tw ta B from h1)
    rcases h with ⟨c, _⟩ | ⟨_, z6, A7, hq2, h⟩
    · exact absurd c n1
    · have h2 := C_ownWord hta (k := 13) (by decide) rfl hC.1 (Or.inl hC.2) hq2
      show CT f N ta ((sOwn f N 13 a.2).bind _) z u
      cases r2 : sOwn f N 13 a.2 with
      | none =>
        rw [r2] at h2
        have h2 : z6 = 0 := h2
        rcases h with ⟨c, _⟩ | ⟨_, hz, _⟩
        · exact absurd h2 c
        · exact hz
      | some b =>
        rw [r2] at h2
        obtain ⟨n2, hC2, ht2⟩ := (show z6 = 1 ∧ CS f N b A7 ∧ tw ta A7 = tw ta A2 from h2)
        rcases h with ⟨_, z11, A12, hq3, h⟩ | ⟨c, _⟩
        · have h3 := C_askedSpot hta hC2.1 (Or.inl hC2.2) hq3
          rw [ht2, ht] at h3
          show CT f N ta ((sSpot f N (tw ta B) b).bind _) z u
          cases r3 : sSpot f N (tw ta B) b with
          | none =>
            rw [r3] at h3
            have h3 : z11 = -1 := h3
            rcases h with ⟨_, hz, _⟩ | ⟨c, _⟩
            · exact hz
            · exact absurd h3 c
          | some c =>
            rw [r3] at h3
            obtain ⟨e3, n3, hC3, ht3⟩ := (show z11 = c.1 ∧ z11 ≠ -1 ∧ CS f N c.2 A12 ∧ tw ta A12 = tw ta A7 from h3)
            rcases h with ⟨c1, _⟩ | ⟨_, z16, A17, hq4, h⟩
            · exact absurd c1 n3
            · have e12 : tw ta A12 = tw ta B := by rw [ht3, ht2, ht]
              obtain ⟨g1, g2, g3⟩ := C_addThing (by rw [e12]; exact hl) n1 hC3 hq4
              rw [e12, e1, e3] at g3
              rcases h with ⟨c1, _⟩ | ⟨_, hz, hu⟩
              · omega
              · rw [hu]
                exact ⟨hz, g2, g3⟩
        · omega
def sDoor (f : Nat → Int) (N : Nat) (T : St) (p : Nat) : Option (St × Nat) := (sNew f N T p).bind fun a => (sAsk f N T 0 a.2).bind fun b => (sAsk f N T 0 b.2).bind fun c => if c.1 = b.1 then none else (sNum f N 1 99 c.2).bind fun d => some (sDoorAdd T a.1 b.1 c.1 d.1, d.2)
theorem C_readDoor {f : Nat → Int} {N p ta : Nat} (hta : isT ta) {B u : St} {z : Int} (hE : EK f N B) (hX : LXA f N p B) (hl : tw ta B 1 1 < 10) (h : q_X5_readDoor ta B z u) : CT f N ta (sDoor f N (tw ta B) p) z u := by
  obtain ⟨z1, A2, hq, h⟩ := (h.1 : tr_r_X5_readDoor ta B z u)
  have h1 := C_newName hta hE hX hq
  have no2 : ∀ (z11 : Int) (A24 : St), d_X5_readDoor_2 ta z1 z11 z u (-1) A24 → z = 0 := by
    intro z11 A24 h
    obtain ⟨_, _, h⟩ := (h : tr_d_X5_readDoor_2 ta z1 z11 z u (-1) A24)
    rcases h with ⟨c, _⟩ | ⟨_, hz, _⟩
    · exact absurd rfl c
    · exact hz
  have no1 : ∀ (A13 : St), d_X5_readDoor_1 ta z1 z u (-1) A13 → z = 0 := by
    intro A13 h
    obtain ⟨_, _, h⟩ := (h : tr_d_X5_readDoor_1 ta z1 z u (-1) A13)
    rcases h with ⟨c, _⟩ | ⟨_, h⟩
    · exact absurd rfl c
    · exact no2 _ _ h
  unfold sDoor
  cases r1 : sNew f N (tw ta B) p with
  | none =>
    rw [r1] at h1
    have h1 : z1 = -1 := h1
    rcases h with ⟨c, _⟩ | ⟨_, h⟩
    · exact absurd h1 c
    · exact no1 _ h
  | some a =>
    rw [r1] at h1
    obtain ⟨e1, n1, hC, ht⟩ := (show z1 = a.1 ∧ z1 ≠ -1 ∧ CS f N a.2 A2 ∧ tw ta A2 = tw ta B from h1)
    rcases h with ⟨_, z7, A8, hq2, h⟩ | ⟨c, _⟩
    · have h2 := C_asked_0 hta hC.1 (Or.inl hC.2) hq2
      rw [ht] at h2
      show CT f N ta ((sAsk f N (tw ta B) 0 a.2).bind _) z u
      cases r2 : sAsk f N (tw ta B) 0 a.2 with
      | none =>
        rw [r2] at h2
        have h2 : z7 = -1 := h2
        rw [h2] at h
        exact no1 _ h
      | some b =>
        rw [r2] at h2
        obtain ⟨e2, n2, hC2, ht2⟩ := (show z7 = b.1 ∧ z7 ≠ -1 ∧ CS f N b.2 A8 ∧ tw ta A8 = tw ta A2 from h2)
        obtain ⟨_, _, h⟩ := (h : tr_d_X5_readDoor_1 ta z1 z u z7 A8)
        rcases h with ⟨_, z18, A19, hq3, h⟩ | ⟨c, _⟩
        · have h3 := C_asked_0 hta hC2.1 (Or.inl hC2.2) hq3
          rw [ht2, ht] at h3
          show CT f N ta ((sAsk f N (tw ta B) 0 b.2).bind _) z u
          cases r3 : sAsk f N (tw ta B) 0 b.2 with
          | none =>
            rw [r3] at h3
            have h3 : z18 = -1 := h3
            rw [h3] at h
            exact no2 _ _ h
          | some c =>
            rw [r3] at h3
            obtain ⟨e3, n3, hC3, ht3⟩ := (show z18 = c.1 ∧ z18 ≠ -1 ∧ CS f N c.2 A19 ∧ tw ta A19 = tw ta A8 from h3)
            obtain ⟨_, _, h⟩ := (h : tr_d_X5_readDoor_2 ta z1 z7 z u z18 A19)
            show CT f N ta (if c.1 = b.1 then none else (sNum f N 1 99 c.2).bind _) z u
            rcases h with ⟨_, h⟩ | ⟨c1, _⟩
            · rcases h with ⟨c2, z29, A30, hq4, h⟩ | ⟨c2, z39, A40, hb, hz, hu⟩
              · rw [if_neg (by rw [← e3, ← e2]; exact c2)]
                have h4 := C_number hta hC3.1 (Or.inl hC3.2) hq4
                cases r4 : sNum f N 1 99 c.2 with
                | none =>
                  rw [r4] at h4
                  have h4 : z29 = -1 := h4
                  rcases h with ⟨_, hz, _⟩ | ⟨c, _⟩
                  · exact hz
                  · exact absurd h4 c
                | some d =>
                  rw [r4] at h4
                  obtain ⟨e4, n4, hC4, ht4⟩ := (show z29 = d.1 ∧ z29 ≠ -1 ∧ CS f N d.2 A30 ∧ tw ta A30 = tw ta A19 from h4)
                  rcases h with ⟨c1, _⟩ | ⟨_, z34, A35, hq5, h⟩
                  · exact absurd c1 n4
                  · have e30 : tw ta A30 = tw ta B := by rw [ht4, ht3, ht2, ht]
                    obtain ⟨g1, g2, g3⟩ := C_addDoor (by rw [e30]; exact hl) n1 hC4 hq5
                    rw [e30, e1, e2, e3, e4] at g3
                    rcases h with ⟨c1, _⟩ | ⟨_, hz, hu⟩
                    · omega
                    · rw [hu]
                      exact ⟨hz, g2, g3⟩
              · rw [if_pos (by rw [← e3, ← e2]; exact c2)]
                exact hz.trans hb.2.2.2.2
            · exact absurd c1 n3
        · exact absurd c n2
    · exact absurd c n1
