/-! The reference's readers of names, numbers, words and signs. -/
def rq (A B : St) : Prop := ∀ j, j ≠ 0 → A j = B j
theorem rq.rf {A : St} : rq A A := fun _ _ => rfl
theorem rq.trans {A B C : St} (h : rq A B) (g : rq B C) : rq A C := fun j hj => (h j hj).trans (g j hj)
theorem rq.st {A B : St} {i : Nat} {v : Int} {j : Nat} (h : rq A B) (hj : j ≠ 0) : rq (stA A j i v) (stA B j i v) := by
  intro k hk
  by_cases e : k = j
  · subst e
    rw [stA_same, stA_same, h k hk]
  · rw [stA_ne _ _ e, stA_ne _ _ e, h k hk]
theorem rq.s0 {A B : St} {i : Nat} {v : Int} (h : rq A B) : rq (stA A 0 i v) B := by
  intro k hk
  rw [stA_ne _ _ hk, h k hk]
theorem fr.rq {N' : List Nat} {A u : St} (h : fr [] N' A u) : rq u A := fun j hj => h.1 j hj rfl
theorem tEnd_b {f : Nat → Int} {N p : Nat} (hp : p ≤ N) : p ≤ sAt f N p ∧ sAt f N p ≤ tEnd f N p ∧ tEnd f N p ≤ N ∧ (tKind f N p ≠ 0 → sAt f N p < tEnd f N p) := by
  have hs := sAt_le (f := f) hp
  unfold tEnd tKind
  by_cases h1 : N ≤ sAt f N p
  · rw [if_pos h1, if_pos h1]
    exact ⟨hs.1, Nat.le_refl _, hs.2, fun g => absurd rfl g⟩
  · rw [if_neg h1, if_neg h1]
    by_cases h2 : isL (f (sAt f N p))
    · rw [if_pos h2]
      have := wEnd_le (f := f) (N := N) (by omega) h2
      exact ⟨hs.1, by omega, this.2.1, fun _ => this.1⟩
    · rw [if_neg h2]
      by_cases h3 : isD (f (sAt f N p))
      · rw [if_pos h3]
        have := nEnd_le (f := f) (N := N) (by omega) h3
        exact ⟨hs.1, by omega, this.2.1, fun _ => this.1⟩
      · rw [if_neg h3]
        exact ⟨hs.1, by omega, by omega, fun _ => by omega⟩
/-- the reference stands with the token behind p, and nothing is blamed -/
def MS (f : Nat → Int) (N b p : Nat) (A : St) : Prop := EM f N A ∧ A 0 47 = (b : Int) ∧ b ≤ 1 ∧ A 0 8 = 0 ∧ p ≤ N ∧ tKind f N p ≠ 4 ∧ RT f N p A
/-- ready to look ahead, from e on -/
def MG (f : Nat → Int) (N b e : Nat) (A : St) : Prop := EM f N A ∧ A 0 47 = (b : Int) ∧ b ≤ 1 ∧ A 0 8 = 0 ∧ e ≤ N ∧ A 0 5 = (e : Int)
/-- behind a look ahead -/
def MO (f : Nat → Int) (N b e : Nat) (u : St) : Prop := (tKind f N e = 4 ∧ 1 ≤ u 0 8) ∨ (u 0 8 = 0 ∧ MS f N b e u)
theorem MS.ns {f : Nat → Int} {N b p : Nat} {A : St} (h : MS f N b p A) : A 0 8 = 0 := h.2.2.2.1
theorem MS.le {f : Nat → Int} {N b p : Nat} {A : St} (h : MS f N b p A) : p ≤ N := h.2.2.2.2.1
theorem MS.bk {f : Nat → Int} {N b p : Nat} {A : St} (h : MS f N b p A) : A 0 47 = (b : Int) := h.2.1
theorem MS.b1 {f : Nat → Int} {N b p : Nat} {A : St} (h : MS f N b p A) : b ≤ 1 := h.2.2.1
theorem MS.nb {f : Nat → Int} {N b p : Nat} {A : St} (h : MS f N b p A) : tKind f N p ≠ 4 := h.2.2.2.2.2.1
theorem MS.rt {f : Nat → Int} {N b p : Nat} {A : St} (h : MS f N b p A) : RT f N p A := h.2.2.2.2.2.2
theorem MS.sg {f : Nat → Int} {N b p : Nat} {A : St} (h : MS f N b p A) : A 0 3 = tKind f N p := h.rt.1
theorem MS.go {f : Nat → Int} {N b p : Nat} {A : St} (h : MS f N b p A) : MG f N b (tEnd f N p) A := ⟨h.1, h.bk, h.b1, h.ns, (tEnd_b h.le).2.2.1, h.rt.2.2.1⟩
/-- the token's own numbers are those of rows 1 and 0 -/
theorem MS.fr {f : Nat → Int} {N b p : Nat} {A u : St} (h : MS f N b p A) (h1 : u 1 = A 1) (h0 : ∀ k, k < 9 ∨ k = 47 → u 0 k = A 0 k) : MS f N b p u := by
  obtain ⟨he, hb, hb1, h8, hp, hk, r1, r2, r3, r4, r5, r6⟩ := h
  refine ⟨⟨(h0 2 (Or.inl (by decide))).trans he.1, he.2.1, fun k hk => by rw [h1]; exact he.2.2 k hk⟩, (h0 47 (Or.inr rfl)).trans hb, hb1, (h0 8 (Or.inl (by decide))).trans h8, hp, hk, ?_⟩
  unfold RT
  rw [h0 3 (Or.inl (by decide)), h0 4 (Or.inl (by decide)), h0 5 (Or.inl (by decide)), h0 6 (Or.inl (by decide)), h0 7 (Or.inl (by decide))]
  exact ⟨r1, r2, r3, r4, r5, r6⟩
theorem MG.fr {f : Nat → Int} {N b e : Nat} {A u : St} (h : MG f N b e A) (h1 : u 1 = A 1) (h0 : ∀ k, k = 2 ∨ k = 5 ∨ k = 8 ∨ k = 47 → u 0 k = A 0 k) : MG f N b e u := by
  obtain ⟨he, hb, hb1, h8, hp, h5⟩ := h
  exact ⟨⟨(h0 2 (by omega)).trans he.1, he.2.1, fun k hk => by rw [h1]; exact he.2.2 k hk⟩, (h0 47 (by omega)).trans hb, hb1, (h0 8 (by omega)).trans h8, hp, (h0 5 (by omega)).trans h5⟩
theorem MG.ahead {f : Nat → Int} {N b e : Nat} {A u : St} (h : MG f N b e A) (hq : q_X12_ahead A u) : MO f N b e u ∧ rq u A := by
  obtain ⟨he, hb, hb1, h8, hp, h5⟩ := h
  obtain ⟨hE, h⟩ := M_ahead he h5 hp h8 hq
  refine ⟨?_, hq.2.2.1.rq⟩
  rcases h with h | ⟨hk, h8, hr⟩
  · exact Or.inl h
  · exact Or.inr ⟨h8, hE, (hq.2.2.1.2 47 rfl).trans hb, hb1, h8, hp, hk, hr⟩
theorem MS.word {f : Nat → Int} {N b p : Nat} {A : St} (h : MS f N b p A) (tk : tKind f N p = 1) : WR (A 0 7) (wv f N p) := by
  obtain ⟨h1, h2, h3, h4, _⟩ := tk1 tk
  have h5 := wEnd_le h1 h2
  refine ⟨f, sAt f N p, tEnd f N p - sAt f N p, fun k hk => h5.2.2 _ (by omega) (by omega), h.rt.2.2.2.1 tk, rfl, by omega, by omega⟩
theorem MS.isW {f : Nat → Int} {N b p : Nat} {A : St} {x y z : Int} (h : MS f N b p A) (hw : WR x y) (hq : q_X12_isWord x A z) : (z = 1 ∧ tKind f N p = 1 ∧ wv f N p = y) ∨ (z = 0 ∧ ¬ (tKind f N p = 1 ∧ wv f N p = y)) := by
  obtain ⟨_, hz, hi⟩ := hq
  by_cases g : A 0 3 = 1 ∧ A 0 7 = x
  · have tk : tKind f N p = 1 := by rw [← h.sg]; exact g.1
    exact Or.inl ⟨hi.mpr g, tk, ((h.word tk).inj hw).mp g.2⟩
  · have z0 : z = 0 := by
      have : ¬ z = 1 := fun e => g (hi.mp e)
      omega
    refine Or.inr ⟨z0, fun k => g ⟨by rw [h.sg]; exact k.1, ((h.word k.1).inj hw).mpr k.2⟩⟩
theorem MS.isS {f : Nat → Int} {N b p : Nat} {A : St} {c z : Int} (h : MS f N b p A) (hq : q_X12_isSign c A z) : (z = 1 ∧ tKind f N p = 3 ∧ f (sAt f N p) = c) ∨ (z = 0 ∧ ¬ (tKind f N p = 3 ∧ f (sAt f N p) = c)) := by
  obtain ⟨_, hz, hi⟩ := hq
  by_cases g : A 0 3 = 3 ∧ A 0 6 = c
  · have tk : tKind f N p = 3 := by rw [← h.sg]; exact g.1
    exact Or.inl ⟨hi.mpr g, tk, by rw [← h.rt.2.2.2.2.2 tk]; exact g.2⟩
  · have z0 : z = 0 := by
      have : ¬ z = 1 := fun e => g (hi.mp e)
      omega
    exact Or.inr ⟨z0, fun k => g ⟨by rw [h.sg]; exact k.1, by rw [h.rt.2.2.2.2.2 k.1]; exact k.2⟩⟩
theorem MS.own {f : Nat → Int} {N b p : Nat} {A : St} {z : Int} (h : MS f N b p A) (tk : tKind f N p = 1) (hq : q_X12_isOwn (A 0 7) A z) : (z = 0 ∧ isOwn5 (wv f N p) = false) ∨ (z = 1 ∧ isOwn5 (wv f N p) = true) := by
  have e := hq.2.2
  have i := ownz_iff (h.word tk)
  rcases ownz_01 (A 0 7) with g | g
  · refine Or.inl ⟨e.trans g, ?_⟩
    cases ho : isOwn5 (wv f N p) with
    | false => rfl
    | true => have := i.mpr ho; omega
  · exact Or.inr ⟨e.trans g, i.mp g⟩
/-- no text goes on so: none, or a bad token next -/
def Bad {α : Type} (f : Nat → Int) (N : Nat) (r : Option (α × Nat)) : Prop := r = none ∨ ∃ a, r = some a ∧ tKind f N a.2 = 4
def BadN (f : Nat → Int) (N : Nat) (r : Option Nat) : Prop := r = none ∨ ∃ e, r = some e ∧ tKind f N e = 4
theorem Bad.bd {α β : Type} {f : Nat → Int} {N : Nat} {r : Option (α × Nat)} {k : α × Nat → Option (β × Nat)} (h : Bad f N r) (hk : ∀ a, tKind f N a.2 = 4 → Bad f N (k a)) : Bad f N (r.bind k) := by
  rcases h with h | ⟨a, h, g⟩
  · rw [h]; exact Or.inl rfl
  · rw [h]; exact hk a g
theorem BadN.bd {β : Type} {f : Nat → Int} {N : Nat} {r : Option Nat} {k : Nat → Option (β × Nat)} (h : BadN f N r) (hk : ∀ a, tKind f N a = 4 → Bad f N (k a)) : Bad f N (r.bind k) := by
  rcases h with h | ⟨a, h, g⟩
  · rw [h]; exact Or.inl rfl
  · rw [h]; exact hk a g
theorem bad_own {f : Nat → Int} {N k p : Nat} (h : tKind f N p = 4) : sOwn f N k p = none := by
  unfold sOwn
  rw [if_neg (fun g => by omega)]
theorem bad_sign {f : Nat → Int} {N p : Nat} {c : Int} (h : tKind f N p = 4) : sSign f N c p = none := by
  unfold sSign
  rw [if_neg (fun g => by omega)]
theorem bad_num {f : Nat → Int} {N p : Nat} {a c : Int} (h : tKind f N p = 4) : sNum f N a c p = none := by
  unfold sNum
  rw [if_neg (fun g => by omega)]
theorem bad_name {f : Nat → Int} {N p : Nat} (h : tKind f N p = 4) : sName f N p = none := by
  unfold sName
  rw [if_neg (fun g => by omega)]
theorem bad_new {f : Nat → Int} {N p : Nat} {T : St} (h : tKind f N p = 4) : sNew f N T p = none := by
  unfold sNew
  rw [bad_name h]
theorem bad_ask {f : Nat → Int} {N p k : Nat} {T : St} (h : tKind f N p = 4) : sAsk f N T k p = none := by
  unfold sAsk
  rw [bad_name h]
theorem bad_spot {f : Nat → Int} {N p : Nat} {T : St} (h : tKind f N p = 4) : sSpot f N T p = none := by
  unfold sSpot
  rw [bad_name h]
/-- an answer that is a number, or a fault -/
def MV (f : Nat → Int) (N b : Nat) (r : Option (Int × Nat)) (z : Int) (u : St) : Prop := (u 0 8 = 0 ∧ ∃ a, r = some a ∧ z = a.1 ∧ MS f N b a.2 u) ∨ (1 ≤ u 0 8 ∧ Bad f N r)
def MUq (f : Nat → Int) (N b : Nat) (r : Option Nat) (u : St) : Prop := (u 0 8 = 0 ∧ ∃ e, r = some e ∧ MS f N b e u) ∨ (1 ≤ u 0 8 ∧ BadN f N r)
theorem MO.mq {f : Nat → Int} {N b e : Nat} {r : Option Nat} {u : St} (h : MO f N b e u) (hr : r = some e) : MUq f N b r u := by
  rcases h with ⟨h, g⟩ | ⟨h, g⟩
  · exact Or.inr ⟨g, Or.inr ⟨e, hr, h⟩⟩
  · exact Or.inl ⟨h, e, hr, g⟩
theorem MO.mv {f : Nat → Int} {N b e : Nat} {r : Option (Int × Nat)} {u : St} {z v : Int} (h : MO f N b e u) (hr : r = some (v, e)) (hz : u 0 8 = 0 → z = v) : MV f N b r z u := by
  rcases h with ⟨h, g⟩ | ⟨h, g⟩
  · exact Or.inr ⟨g, Or.inr ⟨(v, e), hr, h⟩⟩
  · exact Or.inl ⟨h, (v, e), hr, hz h, g⟩
theorem M_sign {f : Nat → Int} {N b p : Nat} {A u : St} {c : Int} (h : MS f N b p A) (hq : q_X12_must c A u) : MUq f N b (sSign f N c p) u ∧ rq u A := by
  refine ⟨?_, hq.2.2.1.rq⟩
  obtain ⟨z1, hs, h2⟩ := (hq.1 : tr_r_X12_must c A u)
  have g := h.isS hs
  rcases h2 with ⟨c1, h2⟩ | ⟨c1, A6, hb, h2⟩
  · rcases g with ⟨_, g1, g2⟩ | ⟨g, _⟩
    · obtain ⟨_, h2⟩ := (h2 : tr_d_X12_must_1 u A)
      rcases h2 with ⟨c2, _⟩ | ⟨_, A13, ha, rfl⟩
      · exact absurd h.ns c2
      · exact (h.go.ahead ha).1.mq (by unfold sSign; rw [if_pos ⟨g1, g2⟩])
    · exact absurd g c1
  · rcases g with ⟨g, _⟩ | ⟨_, g⟩
    · omega
    · obtain ⟨_, h2⟩ := (h2 : tr_d_X12_must_1 u A6)
      have f1 := hb.2.2.2
      rcases h2 with ⟨_, rfl⟩ | ⟨c2, _⟩
      · exact Or.inr ⟨f1, Or.inl (by unfold sSign; rw [if_neg g])⟩
      · omega
theorem M_wd {f : Nat → Int} {N b p k : Nat} {A u : St} {x : Int} (hk : k < 26) (hx : x = own8 k) (h : MS f N b p A) (hq : q_X12_must_ x A u) : MUq f N b (sOwn f N k p) u ∧ rq u A := by
  refine ⟨?_, hq.2.2.1.rq⟩
  have hw : WR x (own5 k) := by rw [hx]; exact WR_own k hk
  rcases (hq.1 : tr_r_X12_must_ x A u) with ⟨_, z2, hs, h2⟩ | ⟨c0, _⟩
  · have g := h.isW hw hs
    rcases h2 with ⟨c1, h2⟩ | ⟨c1, A7, hb, h2⟩
    · rcases g with ⟨_, g1, g2⟩ | ⟨g, _⟩
      · obtain ⟨_, h2⟩ := (h2 : tr_d_X12_must__1 u A)
        rcases h2 with ⟨c2, _⟩ | ⟨_, A14, ha, rfl⟩
        · exact absurd h.ns c2
        · exact (h.go.ahead ha).1.mq (by unfold sOwn; rw [if_pos ⟨g1, g2⟩])
      · exact absurd g c1
    · rcases g with ⟨g, _⟩ | ⟨_, g⟩
      · omega
      · obtain ⟨_, h2⟩ := (h2 : tr_d_X12_must__1 u A7)
        have f1 := hb.2.2.2
        rcases h2 with ⟨_, rfl⟩ | ⟨c2, _⟩
        · exact Or.inr ⟨f1, Or.inl (by unfold sOwn; rw [if_neg g])⟩
        · omega
  · have := h.ns
    omega
theorem X_wd {A u : St} {x : Int} (h : 1 ≤ A 0 8) (hq : q_X12_must_ x A u) : u = A := by
  rcases (hq.1 : tr_r_X12_must_ x A u) with ⟨c0, _⟩ | ⟨_, e⟩
  · omega
  · exact e
theorem M_num {f : Nat → Int} {N b p : Nat} {A u : St} {lo hi z : Int} (h : MS f N b p A) (hq : q_X12_number lo hi A z u) : MV f N b (sNum f N lo hi p) z u ∧ rq u A := by
  refine ⟨?_, hq.2.2.1.rq⟩
  have n2 : ∀ A8 : St, 1 ≤ A8 0 8 → d_X12_number_2 A z u A8 → u = A8 := by
    intro A8 h8 h2
    obtain ⟨_, h2⟩ := (h2 : tr_d_X12_number_2 A z u A8)
    rcases h2 with ⟨_, _, e⟩ | ⟨c, _⟩
    · exact e
    · omega
  rcases (hq.1 : tr_r_X12_number lo hi A z u) with ⟨_, h2⟩ | ⟨c0, _⟩
  · rcases h2 with ⟨c1, h2⟩ | ⟨c1, A4, hb, h2⟩
    · have tk : tKind f N p = 2 := by rw [← h.sg]; exact c1
      have hv : A 0 6 = nv f N p := h.rt.2.2.2.2.1 tk
      obtain ⟨_, h2⟩ := (h2 : tr_d_X12_number_1 lo hi A z u A)
      rcases h2 with ⟨c2, _⟩ | ⟨_, z12, hi2, h2⟩
      · exact absurd h.ns c2
      · have hi3 := hi2.2.2
        have hz := hi2.2.1
        rw [hv] at hi3
        rcases h2 with ⟨c3, h2⟩ | ⟨c3, A16, hb, h2⟩
        · obtain ⟨_, h2⟩ := (h2 : tr_d_X12_number_2 A z u A)
          rcases h2 with ⟨c2, _⟩ | ⟨_, A23, ha, hz2, rfl⟩
          · exact absurd h.ns c2
          · have := hi3.mp (by omega)
            exact (h.go.ahead ha).1.mv (v := nv f N p) (by unfold sNum; rw [if_pos ⟨tk, this.1, this.2⟩]) (fun _ => by rw [hz2, hv])
        · have f1 := hb.2.2.2
          rw [n2 A16 f1 h2]
          refine Or.inr ⟨f1, Or.inl ?_⟩
          unfold sNum
          rw [if_neg (fun g => by have := hi3.mpr g.2; omega)]
    · have f1 := hb.2.2.2
      obtain ⟨_, h2⟩ := (h2 : tr_d_X12_number_1 lo hi A z u A4)
      rcases h2 with ⟨_, h2⟩ | ⟨c2, _⟩
      · rw [n2 A4 f1 h2]
        refine Or.inr ⟨f1, Or.inl ?_⟩
        unfold sNum
        rw [if_neg (fun g => c1 (by rw [h.sg]; exact g.1))]
      · omega
  · have := h.ns
    omega
theorem X_num {A u : St} {lo hi z : Int} (h : 1 ≤ A 0 8) (hq : q_X12_number lo hi A z u) : u = A := by
  rcases (hq.1 : tr_r_X12_number lo hi A z u) with ⟨c0, _⟩ | ⟨_, _, e⟩
  · omega
  · exact e
def NKx (c : Int) (o : Nat) (g h : Nat → Int) : Prop := ∀ j : Nat, (j : Int) < c → WR (g (o + j)) (h j)
theorem NK_find {c x y : Int} {o : Nat} {g h : Nat → Int} (hn : NKx c o g h) (hw : WR x y) : fnd (fun k => g (o + k)) x c.toNat 0 = fnd h y c.toNat 0 := fnd_congr _ _ (fun k _ hk => (hn k (by omega)).inj hw)
def NK0 (b : Nat) (A T : St) : Prop := A 2 b = T 1 0 ∧ NKx (T 1 0) (8 * b) (A 3) (T 3)
theorem NK0.rq {b : Nat} {A u T : St} (h : NK0 b A T) (g : rq u A) : NK0 b u T := by
  unfold NK0
  rw [g 2 (by decide), g 3 (by decide)]
  exact h
theorem nmd_0 {b : Nat} {A T : St} {x x1 y z : Int} (hb : A 0 47 = (b : Int)) (hn : NK0 b A T) (hw : WR x y) (hq : q_X12_named_0 x1 x A z) : z = sFind T 0 y := by
  have e := hq.2.2.2
  have o1 : (8 * A 0 47).toNat = 8 * b := by rw [hb]; omega
  have o2 : (A 0 47).toNat = b := by rw [hb]; omega
  rw [o1, o2, lk_fnd, hn.1] at e
  rw [e]
  exact NK_find hn.2 hw
theorem M_ask_0 {f : Nat → Int} {N b p : Nat} {A u T : St} {x1 z : Int} (h : MS f N b p A) (hn : NK0 b A T) (hq : q_X12_asked_0 x1 A z u) : MV f N b (sAsk f N T 0 p) z u ∧ rq u A := by
  refine ⟨?_, hq.2.2.1.rq⟩
  have d5 : ∀ (z22 : Int) (A44 : St), 1 ≤ A44 0 8 → d_X12_asked_0_5 z22 z u A44 → u = A44 := by
    intro z22 A44 h8 h2
    obtain ⟨_, h2⟩ := (h2 : tr_d_X12_asked_0_5 z22 z u A44)
    rcases h2 with ⟨c, _⟩ | ⟨_, _, e⟩
    · omega
    · exact e
  have d4 : ∀ (z22 : Int) (A33 : St), 1 ≤ A33 0 8 → d_X12_asked_0_4 z22 z u A33 → u = A33 := by
    intro z22 A33 h8 h2
    obtain ⟨_, h2⟩ := (h2 : tr_d_X12_asked_0_4 z22 z u A33)
    rcases h2 with ⟨_, h2⟩ | ⟨c, _⟩
    · exact d5 z22 A33 h8 h2
    · omega
  have d1 : sAsk f N T 0 p = none → d_X12_asked_0_1 x1 A z u → MV f N b (sAsk f N T 0 p) z u := by
    intro hs h2
    obtain ⟨A10, hb, h2⟩ := (h2 : tr_d_X12_asked_0_1 x1 A z u)
    have f1 := hb.2.2.2
    obtain ⟨_, h2⟩ := (h2 : tr_d_X12_asked_0_2 x1 A z u A10)
    rcases h2 with ⟨c, _⟩ | ⟨_, h2⟩
    · omega
    · obtain ⟨_, h2⟩ := (h2 : tr_d_X12_asked_0_3 A A10 z u 0)
      rcases h2 with ⟨_, h2⟩ | ⟨c, _⟩
      · rw [d4 0 A10 f1 h2]
        exact Or.inr ⟨f1, Or.inl hs⟩
      · omega
  rcases (hq.1 : tr_r_X12_asked_0 x1 A z u) with ⟨_, h2⟩ | ⟨c0, _⟩
  · rcases h2 with ⟨c1, h2⟩ | ⟨c1, z5, ho, h2⟩
    · refine d1 ?_ h2
      unfold sAsk sName
      rw [if_neg (fun g => c1 (by rw [h.sg]; exact g.1))]
    · have tk : tKind f N p = 1 := by rw [← h.sg]; exact c1
      have g := h.own tk ho
      rcases h2 with ⟨c2, h2⟩ | ⟨c2, h2⟩
      · have ow : isOwn5 (wv f N p) = false := by
          rcases g with g | g
          · exact g.2
          · omega
        have sn : sName f N p = some (wv f N p, tEnd f N p) := by
          unfold sName
          rw [if_pos ⟨tk, ow⟩]
        have sa : sAsk f N T 0 p = if sFind T 0 (wv f N p) = -1 then none else some (sFind T 0 (wv f N p), tEnd f N p) := by
          unfold sAsk
          rw [sn]
        obtain ⟨_, h2⟩ := (h2 : tr_d_X12_asked_0_2 x1 A z u A)
        rcases h2 with ⟨_, z19, hm, h2⟩ | ⟨c, _⟩
        · have e := nmd_0 h.bk hn (h.word tk) hm
          rw [← e] at sa
          obtain ⟨_, h2⟩ := (h2 : tr_d_X12_asked_0_3 A A z u z19)
          rcases h2 with ⟨c, _⟩ | ⟨_, h2⟩
          · exact absurd h.ns c
          · rcases h2 with ⟨c3, h2⟩ | ⟨c3, A29, hb, h2⟩
            · rw [if_neg c3] at sa
              obtain ⟨_, h2⟩ := (h2 : tr_d_X12_asked_0_4 z19 z u A)
              rcases h2 with ⟨c, _⟩ | ⟨_, A38, ha, h2⟩
              · exact absurd h.ns c
              · obtain ⟨_, h2⟩ := (h2 : tr_d_X12_asked_0_5 z19 z u A38)
                have k1 := (h.go.ahead ha).1
                rcases h2 with ⟨c4, hz, rfl⟩ | ⟨c4, hz, rfl⟩
                · exact k1.mv sa (fun _ => hz)
                · exact k1.mv sa (fun g => by omega)
            · have f1 := hb.2.2.2
              rw [d4 z19 A29 f1 h2]
              exact Or.inr ⟨f1, Or.inl (by rw [sa, if_pos c3])⟩
        · have := h.ns
          omega
      · refine d1 ?_ h2
        have ow : isOwn5 (wv f N p) = true := by
          rcases g with g | g
          · exact absurd g.1 c2
          · exact g.2
        unfold sAsk sName
        rw [if_neg (fun g => by rw [ow] at g; exact absurd g.2 (by decide))]
  · have := h.ns
    omega
theorem X_ask_0 {A u : St} {x1 z : Int} (h : 1 ≤ A 0 8) (hq : q_X12_asked_0 x1 A z u) : u = A := by
  rcases (hq.1 : tr_r_X12_asked_0 x1 A z u) with ⟨c0, _⟩ | ⟨_, _, e⟩
  · omega
  · exact e
def NK1 (b : Nat) (A T : St) : Prop := A 4 b = T 1 1 ∧ NKx (T 1 1) (10 * b) (A 5) (T 4)
theorem NK1.rq {b : Nat} {A u T : St} (h : NK1 b A T) (g : rq u A) : NK1 b u T := by
  unfold NK1
  rw [g 4 (by decide), g 5 (by decide)]
  exact h
theorem nmd_1 {b : Nat} {A T : St} {x x1 y z : Int} (hb : A 0 47 = (b : Int)) (hn : NK1 b A T) (hw : WR x y) (hq : q_X12_named_1 x1 x A z) : z = sFind T 1 y := by
  have e := hq.2.2.2
  have o1 : (10 * A 0 47).toNat = 10 * b := by rw [hb]; omega
  have o2 : (A 0 47).toNat = b := by rw [hb]; omega
  rw [o1, o2, lk_fnd, hn.1] at e
  rw [e]
  exact NK_find hn.2 hw
theorem M_ask_1 {f : Nat → Int} {N b p : Nat} {A u T : St} {x1 z : Int} (h : MS f N b p A) (hn : NK1 b A T) (hq : q_X12_asked_1 x1 A z u) : MV f N b (sAsk f N T 1 p) z u ∧ rq u A := by
  refine ⟨?_, hq.2.2.1.rq⟩
  have d5 : ∀ (z22 : Int) (A44 : St), 1 ≤ A44 0 8 → d_X12_asked_1_5 z22 z u A44 → u = A44 := by
    intro z22 A44 h8 h2
    obtain ⟨_, h2⟩ := (h2 : tr_d_X12_asked_1_5 z22 z u A44)
    rcases h2 with ⟨c, _⟩ | ⟨_, _, e⟩
    · omega
    · exact e
  have d4 : ∀ (z22 : Int) (A33 : St), 1 ≤ A33 0 8 → d_X12_asked_1_4 z22 z u A33 → u = A33 := by
    intro z22 A33 h8 h2
    obtain ⟨_, h2⟩ := (h2 : tr_d_X12_asked_1_4 z22 z u A33)
    rcases h2 with ⟨_, h2⟩ | ⟨c, _⟩
    · exact d5 z22 A33 h8 h2
    · omega
  have d1 : sAsk f N T 1 p = none → d_X12_asked_1_1 x1 A z u → MV f N b (sAsk f N T 1 p) z u := by
    intro hs h2
    obtain ⟨A10, hb, h2⟩ := (h2 : tr_d_X12_asked_1_1 x1 A z u)
    have f1 := hb.2.2.2
    obtain ⟨_, h2⟩ := (h2 : tr_d_X12_asked_1_2 x1 A z u A10)
    rcases h2 with ⟨c, _⟩ | ⟨_, h2⟩
    · omega
    · obtain ⟨_, h2⟩ := (h2 : tr_d_X12_asked_1_3 A A10 z u 0)
      rcases h2 with ⟨_, h2⟩ | ⟨c, _⟩
      · rw [d4 0 A10 f1 h2]
        exact Or.inr ⟨f1, Or.inl hs⟩
      · omega
  rcases (hq.1 : tr_r_X12_asked_1 x1 A z u) with ⟨_, h2⟩ | ⟨c0, _⟩
  · rcases h2 with ⟨c1, h2⟩ | ⟨c1, z5, ho, h2⟩
    · refine d1 ?_ h2
      unfold sAsk sName
      rw [if_neg (fun g => c1 (by rw [h.sg]; exact g.1))]
    · have tk : tKind f N p = 1 := by rw [← h.sg]; exact c1
      have g := h.own tk ho
      rcases h2 with ⟨c2, h2⟩ | ⟨c2, h2⟩
      · have ow : isOwn5 (wv f N p) = false := by
          rcases g with g | g
          · exact g.2
          · omega
        have sn : sName f N p = some (wv f N p, tEnd f N p) := by
          unfold sName
          rw [if_pos ⟨tk, ow⟩]
        have sa : sAsk f N T 1 p = if sFind T 1 (wv f N p) = -1 then none else some (sFind T 1 (wv f N p), tEnd f N p) := by
          unfold sAsk
          rw [sn]
        obtain ⟨_, h2⟩ := (h2 : tr_d_X12_asked_1_2 x1 A z u A)
        rcases h2 with ⟨_, z19, hm, h2⟩ | ⟨c, _⟩
        · have e := nmd_1 h.bk hn (h.word tk) hm
          rw [← e] at sa
          obtain ⟨_, h2⟩ := (h2 : tr_d_X12_asked_1_3 A A z u z19)
          rcases h2 with ⟨c, _⟩ | ⟨_, h2⟩
          · exact absurd h.ns c
          · rcases h2 with ⟨c3, h2⟩ | ⟨c3, A29, hb, h2⟩
            · rw [if_neg c3] at sa
              obtain ⟨_, h2⟩ := (h2 : tr_d_X12_asked_1_4 z19 z u A)
              rcases h2 with ⟨c, _⟩ | ⟨_, A38, ha, h2⟩
              · exact absurd h.ns c
              · obtain ⟨_, h2⟩ := (h2 : tr_d_X12_asked_1_5 z19 z u A38)
                have k1 := (h.go.ahead ha).1
                rcases h2 with ⟨c4, hz, rfl⟩ | ⟨c4, hz, rfl⟩
                · exact k1.mv sa (fun _ => hz)
                · exact k1.mv sa (fun g => by omega)
            · have f1 := hb.2.2.2
              rw [d4 z19 A29 f1 h2]
              exact Or.inr ⟨f1, Or.inl (by rw [sa, if_pos c3])⟩
        · have := h.ns
          omega
      · refine d1 ?_ h2
        have ow : isOwn5 (wv f N p) = true := by
          rcases g with g | g
          · exact absurd g.1 c2
          · exact g.2
        unfold sAsk sName
        rw [if_neg (fun g => by rw [ow] at g; exact absurd g.2 (by decide))]
  · have := h.ns
    omega
theorem X_ask_1 {A u : St} {x1 z : Int} (h : 1 ≤ A 0 8) (hq : q_X12_asked_1 x1 A z u) : u = A := by
  rcases (hq.1 : tr_r_X12_asked_1 x1 A z u) with ⟨c0, _⟩ | ⟨_, _, e⟩
  · omega
  · exact e
def NK2 (b : Nat) (A T : St) : Prop := A 11 b = T 1 2 ∧ NKx (T 1 2) (4 * b) (A 12) (T 5)
theorem NK2.rq {b : Nat} {A u T : St} (h : NK2 b A T) (g : rq u A) : NK2 b u T := by
  unfold NK2
  rw [g 11 (by decide), g 12 (by decide)]
  exact h
theorem nmd_2 {b : Nat} {A T : St} {x x1 y z : Int} (hb : A 0 47 = (b : Int)) (hn : NK2 b A T) (hw : WR x y) (hq : q_X12_named_2 x1 x A z) : z = sFind T 2 y := by
  have e := hq.2.2.2
  have o1 : (4 * A 0 47).toNat = 4 * b := by rw [hb]; omega
  have o2 : (A 0 47).toNat = b := by rw [hb]; omega
  rw [o1, o2, lk_fnd, hn.1] at e
  rw [e]
  exact NK_find hn.2 hw
theorem M_ask_2 {f : Nat → Int} {N b p : Nat} {A u T : St} {x1 z : Int} (h : MS f N b p A) (hn : NK2 b A T) (hq : q_X12_asked_2 x1 A z u) : MV f N b (sAsk f N T 2 p) z u ∧ rq u A := by
  refine ⟨?_, hq.2.2.1.rq⟩
  have d5 : ∀ (z22 : Int) (A44 : St), 1 ≤ A44 0 8 → d_X12_asked_2_5 z22 z u A44 → u = A44 := by
    intro z22 A44 h8 h2
    obtain ⟨_, h2⟩ := (h2 : tr_d_X12_asked_2_5 z22 z u A44)
    rcases h2 with ⟨c, _⟩ | ⟨_, _, e⟩
    · omega
    · exact e
  have d4 : ∀ (z22 : Int) (A33 : St), 1 ≤ A33 0 8 → d_X12_asked_2_4 z22 z u A33 → u = A33 := by
    intro z22 A33 h8 h2
    obtain ⟨_, h2⟩ := (h2 : tr_d_X12_asked_2_4 z22 z u A33)
    rcases h2 with ⟨_, h2⟩ | ⟨c, _⟩
    · exact d5 z22 A33 h8 h2
    · omega
  have d1 : sAsk f N T 2 p = none → d_X12_asked_2_1 x1 A z u → MV f N b (sAsk f N T 2 p) z u := by
    intro hs h2
    obtain ⟨A10, hb, h2⟩ := (h2 : tr_d_X12_asked_2_1 x1 A z u)
    have f1 := hb.2.2.2
    obtain ⟨_, h2⟩ := (h2 : tr_d_X12_asked_2_2 x1 A z u A10)
    rcases h2 with ⟨c, _⟩ | ⟨_, h2⟩
    · omega
    · obtain ⟨_, h2⟩ := (h2 : tr_d_X12_asked_2_3 A A10 z u 0)
      rcases h2 with ⟨_, h2⟩ | ⟨c, _⟩
      · rw [d4 0 A10 f1 h2]
        exact Or.inr ⟨f1, Or.inl hs⟩
      · omega
  rcases (hq.1 : tr_r_X12_asked_2 x1 A z u) with ⟨_, h2⟩ | ⟨c0, _⟩
  · rcases h2 with ⟨c1, h2⟩ | ⟨c1, z5, ho, h2⟩
    · refine d1 ?_ h2
      unfold sAsk sName
      rw [if_neg (fun g => c1 (by rw [h.sg]; exact g.1))]
    · have tk : tKind f N p = 1 := by rw [← h.sg]; exact c1
      have g := h.own tk ho
      rcases h2 with ⟨c2, h2⟩ | ⟨c2, h2⟩
      · have ow : isOwn5 (wv f N p) = false := by
          rcases g with g | g
          · exact g.2
          · omega
        have sn : sName f N p = some (wv f N p, tEnd f N p) := by
          unfold sName
          rw [if_pos ⟨tk, ow⟩]
        have sa : sAsk f N T 2 p = if sFind T 2 (wv f N p) = -1 then none else some (sFind T 2 (wv f N p), tEnd f N p) := by
          unfold sAsk
          rw [sn]
        obtain ⟨_, h2⟩ := (h2 : tr_d_X12_asked_2_2 x1 A z u A)
        rcases h2 with ⟨_, z19, hm, h2⟩ | ⟨c, _⟩
        · have e := nmd_2 h.bk hn (h.word tk) hm
          rw [← e] at sa
          obtain ⟨_, h2⟩ := (h2 : tr_d_X12_asked_2_3 A A z u z19)
          rcases h2 with ⟨c, _⟩ | ⟨_, h2⟩
          · exact absurd h.ns c
          · rcases h2 with ⟨c3, h2⟩ | ⟨c3, A29, hb, h2⟩
            · rw [if_neg c3] at sa
              obtain ⟨_, h2⟩ := (h2 : tr_d_X12_asked_2_4 z19 z u A)
              rcases h2 with ⟨c, _⟩ | ⟨_, A38, ha, h2⟩
              · exact absurd h.ns c
              · obtain ⟨_, h2⟩ := (h2 : tr_d_X12_asked_2_5 z19 z u A38)
                have k1 := (h.go.ahead ha).1
                rcases h2 with ⟨c4, hz, rfl⟩ | ⟨c4, hz, rfl⟩
                · exact k1.mv sa (fun _ => hz)
                · exact k1.mv sa (fun g => by omega)
            · have f1 := hb.2.2.2
              rw [d4 z19 A29 f1 h2]
              exact Or.inr ⟨f1, Or.inl (by rw [sa, if_pos c3])⟩
        · have := h.ns
          omega
      · refine d1 ?_ h2
        have ow : isOwn5 (wv f N p) = true := by
          rcases g with g | g
          · exact absurd g.1 c2
          · exact g.2
        unfold sAsk sName
        rw [if_neg (fun g => by rw [ow] at g; exact absurd g.2 (by decide))]
  · have := h.ns
    omega
theorem X_ask_2 {A u : St} {x1 z : Int} (h : 1 ≤ A 0 8) (hq : q_X12_asked_2 x1 A z u) : u = A := by
  rcases (hq.1 : tr_r_X12_asked_2 x1 A z u) with ⟨c0, _⟩ | ⟨_, _, e⟩
  · omega
  · exact e
def NK3 (b : Nat) (A T : St) : Prop := A 16 b = T 1 3 ∧ NKx (T 1 3) (3 * b) (A 17) (T 6)
theorem NK3.rq {b : Nat} {A u T : St} (h : NK3 b A T) (g : rq u A) : NK3 b u T := by
  unfold NK3
  rw [g 16 (by decide), g 17 (by decide)]
  exact h
theorem nmd_3 {b : Nat} {A T : St} {x x1 y z : Int} (hb : A 0 47 = (b : Int)) (hn : NK3 b A T) (hw : WR x y) (hq : q_X12_named_3 x1 x A z) : z = sFind T 3 y := by
  have e := hq.2.2.2
  have o1 : (3 * A 0 47).toNat = 3 * b := by rw [hb]; omega
  have o2 : (A 0 47).toNat = b := by rw [hb]; omega
  rw [o1, o2, lk_fnd, hn.1] at e
  rw [e]
  exact NK_find hn.2 hw
theorem M_ask_3 {f : Nat → Int} {N b p : Nat} {A u T : St} {x1 z : Int} (h : MS f N b p A) (hn : NK3 b A T) (hq : q_X12_asked_3 x1 A z u) : MV f N b (sAsk f N T 3 p) z u ∧ rq u A := by
  refine ⟨?_, hq.2.2.1.rq⟩
  have d5 : ∀ (z22 : Int) (A44 : St), 1 ≤ A44 0 8 → d_X12_asked_3_5 z22 z u A44 → u = A44 := by
    intro z22 A44 h8 h2
    obtain ⟨_, h2⟩ := (h2 : tr_d_X12_asked_3_5 z22 z u A44)
    rcases h2 with ⟨c, _⟩ | ⟨_, _, e⟩
    · omega
    · exact e
  have d4 : ∀ (z22 : Int) (A33 : St), 1 ≤ A33 0 8 → d_X12_asked_3_4 z22 z u A33 → u = A33 := by
    intro z22 A33 h8 h2
    obtain ⟨_, h2⟩ := (h2 : tr_d_X12_asked_3_4 z22 z u A33)
    rcases h2 with ⟨_, h2⟩ | ⟨c, _⟩
    · exact d5 z22 A33 h8 h2
    · omega
  have d1 : sAsk f N T 3 p = none → d_X12_asked_3_1 x1 A z u → MV f N b (sAsk f N T 3 p) z u := by
    intro hs h2
    obtain ⟨A10, hb, h2⟩ := (h2 : tr_d_X12_asked_3_1 x1 A z u)
    have f1 := hb.2.2.2
    obtain ⟨_, h2⟩ := (h2 : tr_d_X12_asked_3_2 x1 A z u A10)
    rcases h2 with ⟨c, _⟩ | ⟨_, h2⟩
    · omega
    · obtain ⟨_, h2⟩ := (h2 : tr_d_X12_asked_3_3 A A10 z u 0)
      rcases h2 with ⟨_, h2⟩ | ⟨c, _⟩
      · rw [d4 0 A10 f1 h2]
        exact Or.inr ⟨f1, Or.inl hs⟩
      · omega
  rcases (hq.1 : tr_r_X12_asked_3 x1 A z u) with ⟨_, h2⟩ | ⟨c0, _⟩
  · rcases h2 with ⟨c1, h2⟩ | ⟨c1, z5, ho, h2⟩
    · refine d1 ?_ h2
      unfold sAsk sName
      rw [if_neg (fun g => c1 (by rw [h.sg]; exact g.1))]
    · have tk : tKind f N p = 1 := by rw [← h.sg]; exact c1
      have g := h.own tk ho
      rcases h2 with ⟨c2, h2⟩ | ⟨c2, h2⟩
      · have ow : isOwn5 (wv f N p) = false := by
          rcases g with g | g
          · exact g.2
          · omega
        have sn : sName f N p = some (wv f N p, tEnd f N p) := by
          unfold sName
          rw [if_pos ⟨tk, ow⟩]
        have sa : sAsk f N T 3 p = if sFind T 3 (wv f N p) = -1 then none else some (sFind T 3 (wv f N p), tEnd f N p) := by
          unfold sAsk
          rw [sn]
        obtain ⟨_, h2⟩ := (h2 : tr_d_X12_asked_3_2 x1 A z u A)
        rcases h2 with ⟨_, z19, hm, h2⟩ | ⟨c, _⟩
        · have e := nmd_3 h.bk hn (h.word tk) hm
          rw [← e] at sa
          obtain ⟨_, h2⟩ := (h2 : tr_d_X12_asked_3_3 A A z u z19)
          rcases h2 with ⟨c, _⟩ | ⟨_, h2⟩
          · exact absurd h.ns c
          · rcases h2 with ⟨c3, h2⟩ | ⟨c3, A29, hb, h2⟩
            · rw [if_neg c3] at sa
              obtain ⟨_, h2⟩ := (h2 : tr_d_X12_asked_3_4 z19 z u A)
              rcases h2 with ⟨c, _⟩ | ⟨_, A38, ha, h2⟩
              · exact absurd h.ns c
              · obtain ⟨_, h2⟩ := (h2 : tr_d_X12_asked_3_5 z19 z u A38)
                have k1 := (h.go.ahead ha).1
                rcases h2 with ⟨c4, hz, rfl⟩ | ⟨c4, hz, rfl⟩
                · exact k1.mv sa (fun _ => hz)
                · exact k1.mv sa (fun g => by omega)
            · have f1 := hb.2.2.2
              rw [d4 z19 A29 f1 h2]
              exact Or.inr ⟨f1, Or.inl (by rw [sa, if_pos c3])⟩
        · have := h.ns
          omega
      · refine d1 ?_ h2
        have ow : isOwn5 (wv f N p) = true := by
          rcases g with g | g
          · exact absurd g.1 c2
          · exact g.2
        unfold sAsk sName
        rw [if_neg (fun g => by rw [ow] at g; exact absurd g.2 (by decide))]
  · have := h.ns
    omega
theorem X_ask_3 {A u : St} {x1 z : Int} (h : 1 ≤ A 0 8) (hq : q_X12_asked_3 x1 A z u) : u = A := by
  rcases (hq.1 : tr_r_X12_asked_3 x1 A z u) with ⟨c0, _⟩ | ⟨_, _, e⟩
  · omega
  · exact e
def NK4 (b : Nat) (A T : St) : Prop := A 19 b = T 1 4 ∧ NKx (T 1 4) (4 * b) (A 20) (T 7)
theorem NK4.rq {b : Nat} {A u T : St} (h : NK4 b A T) (g : rq u A) : NK4 b u T := by
  unfold NK4
  rw [g 19 (by decide), g 20 (by decide)]
  exact h
theorem nmd_4 {b : Nat} {A T : St} {x x1 y z : Int} (hb : A 0 47 = (b : Int)) (hn : NK4 b A T) (hw : WR x y) (hq : q_X12_named_4 x1 x A z) : z = sFind T 4 y := by
  have e := hq.2.2.2
  have o1 : (4 * A 0 47).toNat = 4 * b := by rw [hb]; omega
  have o2 : (A 0 47).toNat = b := by rw [hb]; omega
  rw [o1, o2, lk_fnd, hn.1] at e
  rw [e]
  exact NK_find hn.2 hw
theorem M_ask_4 {f : Nat → Int} {N b p : Nat} {A u T : St} {x1 z : Int} (h : MS f N b p A) (hn : NK4 b A T) (hq : q_X12_asked_4 x1 A z u) : MV f N b (sAsk f N T 4 p) z u ∧ rq u A := by
  refine ⟨?_, hq.2.2.1.rq⟩
  have d5 : ∀ (z22 : Int) (A44 : St), 1 ≤ A44 0 8 → d_X12_asked_4_5 z22 z u A44 → u = A44 := by
    intro z22 A44 h8 h2
    obtain ⟨_, h2⟩ := (h2 : tr_d_X12_asked_4_5 z22 z u A44)
    rcases h2 with ⟨c, _⟩ | ⟨_, _, e⟩
    · omega
    · exact e
  have d4 : ∀ (z22 : Int) (A33 : St), 1 ≤ A33 0 8 → d_X12_asked_4_4 z22 z u A33 → u = A33 := by
    intro z22 A33 h8 h2
    obtain ⟨_, h2⟩ := (h2 : tr_d_X12_asked_4_4 z22 z u A33)
    rcases h2 with ⟨_, h2⟩ | ⟨c, _⟩
    · exact d5 z22 A33 h8 h2
    · omega
  have d1 : sAsk f N T 4 p = none → d_X12_asked_4_1 x1 A z u → MV f N b (sAsk f N T 4 p) z u := by
    intro hs h2
    obtain ⟨A10, hb, h2⟩ := (h2 : tr_d_X12_asked_4_1 x1 A z u)
    have f1 := hb.2.2.2
    obtain ⟨_, h2⟩ := (h2 : tr_d_X12_asked_4_2 x1 A z u A10)
    rcases h2 with ⟨c, _⟩ | ⟨_, h2⟩
    · omega
    · obtain ⟨_, h2⟩ := (h2 : tr_d_X12_asked_4_3 A A10 z u 0)
      rcases h2 with ⟨_, h2⟩ | ⟨c, _⟩
      · rw [d4 0 A10 f1 h2]
        exact Or.inr ⟨f1, Or.inl hs⟩
      · omega
  rcases (hq.1 : tr_r_X12_asked_4 x1 A z u) with ⟨_, h2⟩ | ⟨c0, _⟩
  · rcases h2 with ⟨c1, h2⟩ | ⟨c1, z5, ho, h2⟩
    · refine d1 ?_ h2
      unfold sAsk sName
      rw [if_neg (fun g => c1 (by rw [h.sg]; exact g.1))]
    · have tk : tKind f N p = 1 := by rw [← h.sg]; exact c1
      have g := h.own tk ho
      rcases h2 with ⟨c2, h2⟩ | ⟨c2, h2⟩
      · have ow : isOwn5 (wv f N p) = false := by
          rcases g with g | g
          · exact g.2
          · omega
        have sn : sName f N p = some (wv f N p, tEnd f N p) := by
          unfold sName
          rw [if_pos ⟨tk, ow⟩]
        have sa : sAsk f N T 4 p = if sFind T 4 (wv f N p) = -1 then none else some (sFind T 4 (wv f N p), tEnd f N p) := by
          unfold sAsk
          rw [sn]
        obtain ⟨_, h2⟩ := (h2 : tr_d_X12_asked_4_2 x1 A z u A)
        rcases h2 with ⟨_, z19, hm, h2⟩ | ⟨c, _⟩
        · have e := nmd_4 h.bk hn (h.word tk) hm
          rw [← e] at sa
          obtain ⟨_, h2⟩ := (h2 : tr_d_X12_asked_4_3 A A z u z19)
          rcases h2 with ⟨c, _⟩ | ⟨_, h2⟩
          · exact absurd h.ns c
          · rcases h2 with ⟨c3, h2⟩ | ⟨c3, A29, hb, h2⟩
            · rw [if_neg c3] at sa
              obtain ⟨_, h2⟩ := (h2 : tr_d_X12_asked_4_4 z19 z u A)
              rcases h2 with ⟨c, _⟩ | ⟨_, A38, ha, h2⟩
              · exact absurd h.ns c
              · obtain ⟨_, h2⟩ := (h2 : tr_d_X12_asked_4_5 z19 z u A38)
                have k1 := (h.go.ahead ha).1
                rcases h2 with ⟨c4, hz, rfl⟩ | ⟨c4, hz, rfl⟩
                · exact k1.mv sa (fun _ => hz)
                · exact k1.mv sa (fun g => by omega)
            · have f1 := hb.2.2.2
              rw [d4 z19 A29 f1 h2]
              exact Or.inr ⟨f1, Or.inl (by rw [sa, if_pos c3])⟩
        · have := h.ns
          omega
      · refine d1 ?_ h2
        have ow : isOwn5 (wv f N p) = true := by
          rcases g with g | g
          · exact absurd g.1 c2
          · exact g.2
        unfold sAsk sName
        rw [if_neg (fun g => by rw [ow] at g; exact absurd g.2 (by decide))]
  · have := h.ns
    omega
theorem X_ask_4 {A u : St} {x1 z : Int} (h : 1 ≤ A 0 8) (hq : q_X12_asked_4 x1 A z u) : u = A := by
  rcases (hq.1 : tr_r_X12_asked_4 x1 A z u) with ⟨c0, _⟩ | ⟨_, _, e⟩
  · omega
  · exact e
