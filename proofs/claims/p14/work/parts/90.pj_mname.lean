/-! The reference's new names, spots, and what is barred. -/
theorem nmx_0 {b : Nat} {A T : St} {x y z : Int} (hb : A 0 47 = (b : Int)) (hn : NK0 b A T) (hw : WR x y) (hq : q_X12_named 0 x A z) : z = sFind T 0 y := by
  rcases (hq.1 : tr_r_X12_named 0 x A z) with ⟨_, z2, hz2, nn, h⟩ | ⟨c, _⟩ | ⟨c, _⟩ | ⟨c, _⟩ | ⟨c, _⟩
  · have e : z = fnd (fun j => A 3 (8 * b + j)) x z2.toNat 0 := by
      refine fnd_loop (c := z2) (g := fun j => A 3 (8 * b + j)) (d_X12_named_1 x z2 A z) (fun _ h => h) (fun n i h => ?_) nn 0 h
      obtain ⟨hi, h⟩ := (h : tr_d_X12_named_1 x z2 A z (fun z3 => d_X12_named_1 x z2 A z n z3) i)
      rcases h with h | ⟨c, z11, hnm, z14, h14, h⟩
      · exact Or.inl h
      rcases (hnm.1 : tr_r_X12_nameOf (A 0 47) 0 i A z11) with ⟨cc, _⟩ | ⟨_, z3, h3, h4⟩ | ⟨cc, _⟩ | ⟨cc, _⟩ | ⟨cc, _⟩
      · omega
      · have e2 : z11 = A 3 (8 * b + i.toNat) := by rw [h4, h3, hb, show (8 * (b : Int) + i).toNat = 8 * b + i.toNat by omega]
        rcases h with ⟨c3, h⟩ | ⟨c3, h⟩
        · exact Or.inr ⟨c, Or.inl ⟨fun g => c3 (h14.2.1.mpr (e2.trans g)), h⟩⟩
        · exact Or.inr ⟨c, Or.inr ⟨e2.symm.trans (h14.2.1.mp c3), h⟩⟩
      · omega
      · omega
      · omega
    rw [hb, Int.toNat_natCast, hn.1] at hz2
    rw [e, hz2]
    exact NK_find hn.2 hw
  · omega
  · omega
  · omega
  · omega
theorem nmx_1 {b : Nat} {A T : St} {x y z : Int} (hb : A 0 47 = (b : Int)) (hn : NK1 b A T) (hw : WR x y) (hq : q_X12_named 1 x A z) : z = sFind T 1 y := by
  rcases (hq.1 : tr_r_X12_named 1 x A z) with ⟨c, _⟩ | ⟨_, z2, hz2, nn, h⟩ | ⟨c, _⟩ | ⟨c, _⟩ | ⟨c, _⟩
  · omega
  · have e : z = fnd (fun j => A 5 (10 * b + j)) x z2.toNat 0 := by
      refine fnd_loop (c := z2) (g := fun j => A 5 (10 * b + j)) (d_X12_named_2 x z2 A z) (fun _ h => h) (fun n i h => ?_) nn 0 h
      obtain ⟨hi, h⟩ := (h : tr_d_X12_named_2 x z2 A z (fun z3 => d_X12_named_2 x z2 A z n z3) i)
      rcases h with h | ⟨c, z11, hnm, z14, h14, h⟩
      · exact Or.inl h
      rcases (hnm.1 : tr_r_X12_nameOf (A 0 47) 1 i A z11) with ⟨cc, _⟩ | ⟨cc, _⟩ | ⟨_, z3, h3, h4⟩ | ⟨cc, _⟩ | ⟨cc, _⟩
      · omega
      · omega
      · have e2 : z11 = A 5 (10 * b + i.toNat) := by rw [h4, h3, hb, show (10 * (b : Int) + i).toNat = 10 * b + i.toNat by omega]
        rcases h with ⟨c3, h⟩ | ⟨c3, h⟩
        · exact Or.inr ⟨c, Or.inl ⟨fun g => c3 (h14.2.1.mpr (e2.trans g)), h⟩⟩
        · exact Or.inr ⟨c, Or.inr ⟨e2.symm.trans (h14.2.1.mp c3), h⟩⟩
      · omega
      · omega
    rw [hb, Int.toNat_natCast, hn.1] at hz2
    rw [e, hz2]
    exact NK_find hn.2 hw
  · omega
  · omega
  · omega
theorem nmx_2 {b : Nat} {A T : St} {x y z : Int} (hb : A 0 47 = (b : Int)) (hn : NK2 b A T) (hw : WR x y) (hq : q_X12_named 2 x A z) : z = sFind T 2 y := by
  rcases (hq.1 : tr_r_X12_named 2 x A z) with ⟨c, _⟩ | ⟨c, _⟩ | ⟨_, z2, hz2, nn, h⟩ | ⟨c, _⟩ | ⟨c, _⟩
  · omega
  · omega
  · have e : z = fnd (fun j => A 12 (4 * b + j)) x z2.toNat 0 := by
      refine fnd_loop (c := z2) (g := fun j => A 12 (4 * b + j)) (d_X12_named_3 x z2 A z) (fun _ h => h) (fun n i h => ?_) nn 0 h
      obtain ⟨hi, h⟩ := (h : tr_d_X12_named_3 x z2 A z (fun z3 => d_X12_named_3 x z2 A z n z3) i)
      rcases h with h | ⟨c, z11, hnm, z14, h14, h⟩
      · exact Or.inl h
      rcases (hnm.1 : tr_r_X12_nameOf (A 0 47) 2 i A z11) with ⟨cc, _⟩ | ⟨cc, _⟩ | ⟨cc, _⟩ | ⟨_, z3, h3, h4⟩ | ⟨cc, _⟩
      · omega
      · omega
      · omega
      · have e2 : z11 = A 12 (4 * b + i.toNat) := by rw [h4, h3, hb, show (4 * (b : Int) + i).toNat = 4 * b + i.toNat by omega]
        rcases h with ⟨c3, h⟩ | ⟨c3, h⟩
        · exact Or.inr ⟨c, Or.inl ⟨fun g => c3 (h14.2.1.mpr (e2.trans g)), h⟩⟩
        · exact Or.inr ⟨c, Or.inr ⟨e2.symm.trans (h14.2.1.mp c3), h⟩⟩
      · omega
    rw [hb, Int.toNat_natCast, hn.1] at hz2
    rw [e, hz2]
    exact NK_find hn.2 hw
  · omega
  · omega
theorem nmx_3 {b : Nat} {A T : St} {x y z : Int} (hb : A 0 47 = (b : Int)) (hn : NK3 b A T) (hw : WR x y) (hq : q_X12_named 3 x A z) : z = sFind T 3 y := by
  rcases (hq.1 : tr_r_X12_named 3 x A z) with ⟨c, _⟩ | ⟨c, _⟩ | ⟨c, _⟩ | ⟨_, z2, hz2, nn, h⟩ | ⟨c, _⟩
  · omega
  · omega
  · omega
  · have e : z = fnd (fun j => A 17 (3 * b + j)) x z2.toNat 0 := by
      refine fnd_loop (c := z2) (g := fun j => A 17 (3 * b + j)) (d_X12_named_4 x z2 A z) (fun _ h => h) (fun n i h => ?_) nn 0 h
      obtain ⟨hi, h⟩ := (h : tr_d_X12_named_4 x z2 A z (fun z3 => d_X12_named_4 x z2 A z n z3) i)
      rcases h with h | ⟨c, z11, hnm, z14, h14, h⟩
      · exact Or.inl h
      rcases (hnm.1 : tr_r_X12_nameOf (A 0 47) 3 i A z11) with ⟨cc, _⟩ | ⟨cc, _⟩ | ⟨cc, _⟩ | ⟨cc, _⟩ | ⟨_, z3, h3, h4⟩
      · omega
      · omega
      · omega
      · omega
      · have e2 : z11 = A 17 (3 * b + i.toNat) := by rw [h4, h3, hb, show (3 * (b : Int) + i).toNat = 3 * b + i.toNat by omega]
        rcases h with ⟨c3, h⟩ | ⟨c3, h⟩
        · exact Or.inr ⟨c, Or.inl ⟨fun g => c3 (h14.2.1.mpr (e2.trans g)), h⟩⟩
        · exact Or.inr ⟨c, Or.inr ⟨e2.symm.trans (h14.2.1.mp c3), h⟩⟩
    rw [hb, Int.toNat_natCast, hn.1] at hz2
    rw [e, hz2]
    exact NK_find hn.2 hw
  · omega
theorem nmx_4 {b : Nat} {A T : St} {x y z : Int} (hb : A 0 47 = (b : Int)) (hn : NK4 b A T) (hw : WR x y) (hq : q_X12_named 4 x A z) : z = sFind T 4 y := by
  rcases (hq.1 : tr_r_X12_named 4 x A z) with ⟨c, _⟩ | ⟨c, _⟩ | ⟨c, _⟩ | ⟨c, _⟩ | ⟨_, z2, hz2, nn, h⟩
  · omega
  · omega
  · omega
  · omega
  · have e : z = fnd (fun j => A 20 (4 * b + j)) x z2.toNat 0 := by
      refine fnd_loop (c := z2) (g := fun j => A 20 (4 * b + j)) (d_X12_named_5 x z2 A z) (fun _ h => h) (fun n i h => ?_) nn 0 h
      obtain ⟨hi, h⟩ := (h : tr_d_X12_named_5 x z2 A z (fun z3 => d_X12_named_5 x z2 A z n z3) i)
      rcases h with h | ⟨c, z11, hnm, z14, h14, h⟩
      · exact Or.inl h
      rcases (hnm.1 : tr_r_X12_nameOf (A 0 47) 4 i A z11) with ⟨_, z3, h3, h4⟩ | ⟨cc, _⟩ | ⟨cc, _⟩ | ⟨cc, _⟩ | ⟨cc, _⟩
      · have e2 : z11 = A 20 (4 * b + i.toNat) := by rw [h4, h3, hb, show (4 * (b : Int) + i).toNat = 4 * b + i.toNat by omega]
        rcases h with ⟨c3, h⟩ | ⟨c3, h⟩
        · exact Or.inr ⟨c, Or.inl ⟨fun g => c3 (h14.2.1.mpr (e2.trans g)), h⟩⟩
        · exact Or.inr ⟨c, Or.inr ⟨e2.symm.trans (h14.2.1.mp c3), h⟩⟩
      · omega
      · omega
      · omega
      · omega
    rw [hb, Int.toNat_natCast, hn.1] at hz2
    rw [e, hz2]
    exact NK_find hn.2 hw
def NKA (b : Nat) (A T : St) : Prop := NK0 b A T ∧ NK1 b A T ∧ NK2 b A T ∧ NK3 b A T ∧ NK4 b A T
theorem NKA.rq {b : Nat} {A u T : St} (h : NKA b A T) (g : rq u A) : NKA b u T := ⟨h.1.rq g, h.2.1.rq g, h.2.2.1.rq g, h.2.2.2.1.rq g, h.2.2.2.2.rq g⟩
theorem nmx {b k : Nat} {A T : St} {x y z : Int} (hk : k < 5) (hb : A 0 47 = (b : Int)) (hn : NKA b A T) (hw : WR x y) (hq : q_X12_named (k : Int) x A z) : z = sFind T k y := by
  rcases (show k = 0 ∨ k = 1 ∨ k = 2 ∨ k = 3 ∨ k = 4 by omega) with rfl | rfl | rfl | rfl | rfl
  · exact nmx_0 hb hn.1 hw hq
  · exact nmx_1 hb hn.2.1 hw hq
  · exact nmx_2 hb hn.2.2.1 hw hq
  · exact nmx_3 hb hn.2.2.2.1 hw hq
  · exact nmx_4 hb hn.2.2.2.2 hw hq
def MW (f : Nat → Int) (N b : Nat) (r : Option (Int × Nat)) (z : Int) (u : St) : Prop := (u 0 8 = 0 ∧ ∃ a, r = some a ∧ WR z a.1 ∧ MS f N b a.2 u) ∨ (1 ≤ u 0 8 ∧ Bad f N r)
theorem M_fresh {f : Nat → Int} {N b p : Nat} {A u T : St} {z : Int} (h : MS f N b p A) (hn : NKA b A T) (hq : q_X12_fresh A z u) : MW f N b (sNew f N T p) z u ∧ rq u A := by
  refine ⟨?_, hq.2.2.1.rq⟩
  have d5 : ∀ (A18 : St), 1 ≤ A18 0 8 → d_X12_fresh_5 A A18 z u → u = A18 := by
    intro A18 h8 h2
    rcases (h2 : tr_d_X12_fresh_5 A A18 z u) with ⟨_, _, e⟩ | ⟨c, _⟩
    · exact e
    · omega
  have d3 : ∀ (nn : Nat) (i : Int) (A18 : St), 1 ≤ A18 0 8 → d_X12_fresh_3 A z u nn i A18 → u = A18 := by
    intro nn i A18 h8 h2
    cases nn with
    | zero => exact h2.elim
    | succ nn =>
      obtain ⟨_, _, h2⟩ := (h2 : tr_d_X12_fresh_3 A z u (fun z16 A18 => d_X12_fresh_3 A z u nn z16 A18) i A18)
      rcases h2 with ⟨_, h2⟩ | ⟨_, h2⟩
      · exact d5 A18 h8 h2
      · rcases h2 with ⟨_, h2⟩ | ⟨c, _⟩
        · exact d5 A18 h8 h2
        · omega
  have d1 : sNew f N T p = none → d_X12_fresh_1 A z u → MW f N b (sNew f N T p) z u := by
    intro hs h2
    obtain ⟨A10, hb, h2⟩ := (h2 : tr_d_X12_fresh_1 A z u)
    have f1 := hb.2.2.2
    obtain ⟨_, nn, h2⟩ := (h2 : tr_d_X12_fresh_2 A z u A10)
    rw [d3 nn 0 A10 f1 h2]
    exact Or.inr ⟨f1, Or.inl hs⟩
  rcases (hq.1 : tr_r_X12_fresh A z u) with ⟨_, h2⟩ | ⟨c0, _⟩
  · rcases h2 with ⟨c1, h2⟩ | ⟨c1, z5, ho, h2⟩
    · refine d1 ?_ h2
      unfold sNew sName
      rw [if_neg (fun g => c1 (by rw [h.sg]; exact g.1))]
    · have tk : tKind f N p = 1 := by rw [← h.sg]; exact c1
      have g := h.own tk ho
      rcases h2 with ⟨c2, h2⟩ | ⟨c2, h2⟩
      · have ow : isOwn5 (wv f N p) = false := by
          rcases g with g | g
          · exact g.2
          · omega
        have sn : sName f N p = some (wv f N p, tEnd f N p) := by
          unfold sName
          rw [if_pos ⟨tk, ow⟩]
        have sa : sNew f N T p = if sFind T 0 (wv f N p) = -1 ∧ sFind T 1 (wv f N p) = -1 ∧ sFind T 2 (wv f N p) = -1 ∧ sFind T 3 (wv f N p) = -1 ∧ sFind T 4 (wv f N p) = -1 then some (wv f N p, tEnd f N p) else none := by
          unfold sNew
          rw [sn]
        obtain ⟨_, nn, h2⟩ := (h2 : tr_d_X12_fresh_2 A z u A)
        have lp : ∀ n (i : Nat), i ≤ 5 → (∀ k, k < i → sFind T k (wv f N p) = -1) → d_X12_fresh_3 A z u n (i : Int) A → (∃ k, k < 5 ∧ sFind T k (wv f N p) ≠ -1 ∧ 1 ≤ u 0 8) ∨ ((∀ k, k < 5 → sFind T k (wv f N p) = -1) ∧ z = A 0 7 ∧ q_X12_ahead A u) := by
          intro n
          induction n with
          | zero => intro i _ _ h; exact h.elim
          | succ n ih =>
            intro i hi hk h2
            obtain ⟨_, _, h2⟩ := (h2 : tr_d_X12_fresh_3 A z u (fun z16 A18 => d_X12_fresh_3 A z u n z16 A18) i A)
            have fin : (∀ k, k < 5 → sFind T k (wv f N p) = -1) → d_X12_fresh_5 A A z u → (∃ k, k < 5 ∧ sFind T k (wv f N p) ≠ -1 ∧ 1 ≤ u 0 8) ∨ ((∀ k, k < 5 → sFind T k (wv f N p) = -1) ∧ z = A 0 7 ∧ q_X12_ahead A u) := by
              intro hk h2
              rcases (h2 : tr_d_X12_fresh_5 A A z u) with ⟨c, _⟩ | ⟨_, A41, ha, hz, hu⟩
              · exact absurd h.ns c
              · exact Or.inr ⟨hk, hz, by rw [hu]; exact ha⟩
            rcases h2 with ⟨c3, h2⟩ | ⟨c3, h2⟩
            · exact fin (fun k hk2 => hk k (by omega)) h2
            · rcases h2 with ⟨c, _⟩ | ⟨_, z28, hm, h2⟩
              · exact absurd h.ns c
              · have e := nmx (k := i) (by omega) h.bk hn (h.word tk) hm
                rcases h2 with ⟨c4, h2⟩ | ⟨c4, A33, hb, h2⟩
                · obtain ⟨_, h2⟩ := (h2 : tr_d_X12_fresh_4 (fun z16 A18 => d_X12_fresh_3 A z u n z16 A18) i z u A)
                  refine ih (i + 1) (by omega) (fun k hk2 => ?_) h2
                  by_cases e2 : k = i
                  · rw [e2, ← e]; exact c4
                  · exact hk k (by omega)
                · have f1 := hb.2.2.2
                  obtain ⟨_, h2⟩ := (h2 : tr_d_X12_fresh_4 (fun z16 A18 => d_X12_fresh_3 A z u n z16 A18) i z u A33)
                  have eu := d3 n (i + 1) A33 f1 h2
                  exact Or.inl ⟨i, by omega, by rw [← e]; exact c4, by rw [eu]; exact f1⟩
        rcases lp nn 0 (by omega) (fun k hk => absurd hk (by omega)) h2 with ⟨k, hk, g, g8⟩ | ⟨g, hz, ha⟩
        · refine Or.inr ⟨g8, Or.inl ?_⟩
          rw [sa, if_neg (fun g2 => by
            rcases (show k = 0 ∨ k = 1 ∨ k = 2 ∨ k = 3 ∨ k = 4 by omega) with rfl | rfl | rfl | rfl | rfl
            · exact g g2.1
            · exact g g2.2.1
            · exact g g2.2.2.1
            · exact g g2.2.2.2.1
            · exact g g2.2.2.2.2)]
        · rw [if_pos ⟨g 0 (by decide), g 1 (by decide), g 2 (by decide), g 3 (by decide), g 4 (by decide)⟩] at sa
          rcases (h.go.ahead ha).1 with ⟨k4, k8⟩ | ⟨k8, ks⟩
          · exact Or.inr ⟨k8, Or.inr ⟨_, sa, k4⟩⟩
          · exact Or.inl ⟨k8, _, sa, by rw [hz]; exact h.word tk, ks⟩
      · refine d1 ?_ h2
        have ow : isOwn5 (wv f N p) = true := by
          rcases g with g | g
          · exact absurd g.1 c2
          · exact g.2
        unfold sNew sName
        rw [if_neg (fun g => by rw [ow] at g; exact absurd g.2 (by decide))]
  · have := h.ns
    omega
theorem X_fresh {A u : St} {z : Int} (h : 1 ≤ A 0 8) (hq : q_X12_fresh A z u) : u = A := by
  rcases (hq.1 : tr_r_X12_fresh A z u) with ⟨c0, _⟩ | ⟨_, _, e⟩
  · omega
  · exact e
/-- no word names a place and a door -/
def TD (T : St) : Prop := ∀ w, sFind T 0 w = -1 ∨ sFind T 1 w = -1
/-- the doors' boxes -/
def NB (b : Nat) (A T : St) : Prop := ∀ k : Nat, (k : Int) < T 1 1 → (A 8 (10 * b + k) = 0 ↔ T 10 k ≠ 0)
theorem NB.rq {b : Nat} {A u T : St} (h : NB b A T) (g : rq u A) : NB b u T := by
  unfold NB
  rw [g 8 (by decide)]
  exact h
def sIn (f : Nat → Int) (N : Nat) (T : St) (p : Nat) : Option (Int × Nat) := (sOwn f N 13 p).bind fun e => sSpot f N T e
theorem X_within {A u : St} {z : Int} (h : 1 ≤ A 0 8) (hq : q_X12_within A z u) : u = A := by
  obtain ⟨A1, hw, h2⟩ := (hq.1 : tr_r_X12_within A z u)
  have e := X_wd h hw
  subst e
  rcases h2 with ⟨c, _⟩ | ⟨_, _, e⟩
  · omega
  · exact e
theorem M_within {f : Nat → Int} {N b p : Nat} {A u T : St} {z : Int} (h : MS f N b p A) (hn0 : NK0 b A T) (hn1 : NK1 b A T) (hB : NB b A T) (hT : TD T) (hq : q_X12_within A z u) : MV f N b (sIn f N T p) z u ∧ rq u A := by
  refine ⟨?_, hq.2.2.1.rq⟩
  obtain ⟨A1, hw, h2⟩ := (hq.1 : tr_r_X12_within A z u)
  obtain ⟨g, q1⟩ := M_wd (k := 13) (by decide) rfl h hw
  have e47 : A 0 47 = (b : Int) := h.bk
  rcases g with ⟨g8, e, se, hs⟩ | ⟨g8, gb⟩
  · have si : sIn f N T p = sSpot f N T e := by unfold sIn; rw [se]; rfl
    have k0 := hn0.rq q1
    have k1 := hn1.rq q1
    have kB := hB.rq q1
    rw [si]
    have d3 : (sName f N e = none ∨ ∃ w e2, sName f N e = some (w, e2) ∧ ¬ (sFind T 1 w ≠ -1 ∧ T 10 (sFind T 1 w).toNat = 0)) → d_X12_within_3 A1 z u → MV f N b (sSpot f N T e) z u := by
      intro hs2 h2
      obtain ⟨z30, A31, hak, hz, rfl⟩ := (h2 : tr_d_X12_within_3 A1 z u)
      have ma := (M_ask_0 hs k0 hak).1
      rcases hs2 with hs2 | ⟨w, e2, hs2, hnb⟩
      · have sa : sAsk f N T 0 e = none := by unfold sAsk; rw [hs2]
        have ss : sSpot f N T e = none := by unfold sSpot; rw [hs2]
        rw [ss]
        rcases ma with ⟨_, a, ha, _⟩ | ⟨m8, _⟩
        · rw [sa] at ha; exact absurd ha (by simp)
        · exact Or.inr ⟨m8, Or.inl rfl⟩
      · have sa : sAsk f N T 0 e = if sFind T 0 w = -1 then none else some (sFind T 0 w, e2) := by unfold sAsk; rw [hs2]
        have ss : sSpot f N T e = if sFind T 0 w ≠ -1 then some (sFind T 0 w + 10, e2) else none := by
          unfold sSpot
          rw [hs2]
          show (if sFind T 0 w ≠ -1 then some (sFind T 0 w + 10, e2) else if sFind T 1 w ≠ -1 ∧ T 10 (sFind T 1 w).toNat = 0 then some (sFind T 1 w + 20, e2) else none) = _
          rw [if_neg hnb]
        by_cases g0 : sFind T 0 w = -1
        · rw [if_pos g0] at sa
          rw [if_neg (fun g => g g0)] at ss
          rw [ss]
          rcases ma with ⟨_, a, ha, _⟩ | ⟨m8, _⟩
          · rw [sa] at ha; exact absurd ha (by simp)
          · exact Or.inr ⟨m8, Or.inl rfl⟩
        · rw [if_neg g0] at sa
          rw [if_pos g0] at ss
          rw [ss]
          rw [sa] at ma
          rcases ma with ⟨m8, a, ha, hz2, ms⟩ | ⟨m8, mb⟩
          · have ha := Option.some.inj ha
            subst ha
            exact Or.inl ⟨m8, _, rfl, by rw [hz, hz2], ms⟩
          · rcases mb with mb | ⟨a, ha, mb⟩
            · exact absurd mb (by simp)
            · have ha := Option.some.inj ha
              subst ha
              exact Or.inr ⟨m8, Or.inr ⟨_, rfl, mb⟩⟩
    have d1 : sName f N e = none → d_X12_within_1 A A1 z u → MV f N b (sSpot f N T e) z u := by
      intro hs2 h2
      obtain ⟨_, h2⟩ := (h2 : tr_d_X12_within_2 A A1 z u (-1))
      rcases h2 with ⟨_, h2⟩ | ⟨c, _⟩
      · exact d3 (Or.inl hs2) h2
      · exact absurd rfl c
    rcases h2 with ⟨_, h2⟩ | ⟨c, _⟩
    · rcases h2 with ⟨c1, h2⟩ | ⟨c1, z9, ho, h2⟩
      · refine d1 ?_ h2
        unfold sName
        rw [if_neg (fun g => c1 (by rw [hs.sg]; exact g.1))]
      · have tk : tKind f N e = 1 := by rw [← hs.sg]; exact c1
        have g := hs.own tk ho
        rcases h2 with ⟨c2, h2⟩ | ⟨c2, z13, hm, h2⟩
        · refine d1 ?_ h2
          have ow : isOwn5 (wv f N e) = true := by
            rcases g with g | g
            · exact absurd g.1 c2
            · exact g.2
          unfold sName
          rw [if_neg (fun g => by rw [ow] at g; exact absurd g.2 (by decide))]
        · have ow : isOwn5 (wv f N e) = false := by
            rcases g with g | g
            · exact g.2
            · omega
          have sn : sName f N e = some (wv f N e, tEnd f N e) := by
            unfold sName
            rw [if_pos ⟨tk, ow⟩]
          have e1 := nmd_1 hs.bk k1 (hs.word tk) hm
          have b1 := sFind_b T 1 (wv f N e)
          obtain ⟨_, h2⟩ := (h2 : tr_d_X12_within_2 A A1 z u z13)
          rcases h2 with ⟨c3, h2⟩ | ⟨c3, z22, hz22, h2⟩
          · exact d3 (Or.inr ⟨_, _, sn, fun g => g.1 (by rw [← e1]; exact c3)⟩) h2
          · rw [← e1] at b1
            have b2 : 0 ≤ z13 ∧ z13 < T 1 1 := by
              rcases b1 with b1 | b1
              · exact absurd b1 c3
              · exact b1
            have ix : (10 * A 0 47 + z13).toNat = 10 * b + z13.toNat := by rw [e47]; omega
            rw [ix] at hz22
            have kb := kB z13.toNat (by omega)
            rw [← hz22] at kb
            rcases h2 with ⟨c4, A24, ha, hz, rfl⟩ | ⟨c4, h2⟩
            · have t0 : T 10 z13.toNat = 0 := by
                by_cases g : T 10 z13.toNat = 0
                · exact g
                · exact absurd (kb.mpr g) c4
              have f0 : sFind T 0 (wv f N e) = -1 := by
                rcases hT (wv f N e) with g | g
                · exact g
                · rw [← e1] at g; exact absurd g c3
              have ss : sSpot f N T e = some (z13 + 20, tEnd f N e) := by
                unfold sSpot
                rw [sn]
                show (if sFind T 0 (wv f N e) ≠ -1 then some (sFind T 0 (wv f N e) + 10, tEnd f N e) else if sFind T 1 (wv f N e) ≠ -1 ∧ T 10 (sFind T 1 (wv f N e)).toNat = 0 then some (sFind T 1 (wv f N e) + 20, tEnd f N e) else none) = _
                rw [if_neg (fun g => g f0), ← e1, if_pos ⟨c3, t0⟩]
              exact (hs.go.ahead ha).1.mv ss (fun _ => hz)
            · refine d3 (Or.inr ⟨_, _, sn, fun g => ?_⟩) h2
              rw [← e1] at g
              exact kb.mp c4 g.2
    · omega
  · rcases h2 with ⟨c, _⟩ | ⟨_, _, rfl⟩
    · omega
    · refine Or.inr ⟨g8, ?_⟩
      unfold sIn
      exact gb.bd (fun a ha => Or.inl (bad_spot ha))
theorem X_bars {A u : St} {x1 x2 : Int} (h : 1 ≤ A 0 8) (hq : q_X12_bars x1 x2 A u) : u = A := by
  rcases (hq.1 : tr_r_X12_bars x1 x2 A u) with ⟨_, h2⟩ | ⟨_, h2⟩ | ⟨_, h2⟩ | ⟨_, h2⟩ | ⟨_, h2⟩ <;>
  · rcases h2 with ⟨_, e⟩ | ⟨c, _⟩
    · exact e
    · omega
theorem M_bars_0 {f : Nat → Int} {N b p : Nat} {A u T : St} {x : Int} (hx : x ≠ -1) (h : MS f N b p A) (hn : NK0 b A T) (hq : q_X12_bars 0 x A u) : (u = A ∧ ¬ (tKind f N p = 1 ∧ isOwn5 (wv f N p) = false ∧ sFind T 0 (wv f N p) = x)) ∨ (1 ≤ u 0 8 ∧ tKind f N p = 1 ∧ isOwn5 (wv f N p) = false ∧ sFind T 0 (wv f N p) = x) := by
  rcases (hq.1 : tr_r_X12_bars 0 x A u) with ⟨_, h2⟩ | ⟨c, _⟩ | ⟨c, _⟩ | ⟨c, _⟩ | ⟨c, _⟩
  · rcases h2 with ⟨c, _⟩ | ⟨_, h2⟩
    · exact absurd h.ns c
    · rcases h2 with ⟨c1, rfl⟩ | ⟨c1, z3, ho, h2⟩
      · exact Or.inl ⟨rfl, fun g => c1 (by rw [h.sg]; exact g.1)⟩
      · have tk : tKind f N p = 1 := by rw [← h.sg]; exact c1
        have g := h.own tk ho
        rcases h2 with ⟨c2, rfl⟩ | ⟨c2, h2⟩
        · refine Or.inl ⟨rfl, fun g2 => ?_⟩
          rcases g with g | g
          · exact c2 g.1
          · rw [g.2] at g2; exact absurd g2.2.1 (by decide)
        · have ow : isOwn5 (wv f N p) = false := by
            rcases g with g | g
            · exact g.2
            · omega
          rcases h2 with ⟨c3, _⟩ | ⟨_, z8, hm, h2⟩
          · exact absurd c3 hx
          · have e := nmd_0 h.bk hn (h.word tk) hm
            rcases h2 with ⟨c4, rfl⟩ | ⟨c4, A12, hb, rfl⟩
            · exact Or.inl ⟨rfl, fun g2 => c4 (by rw [e]; exact g2.2.2)⟩
            · exact Or.inr ⟨hb.2.2.2, tk, ow, by rw [← e]; exact c4⟩
  · omega
  · omega
  · omega
  · omega
theorem M_bars_4 {f : Nat → Int} {N b p : Nat} {A u T : St} {x : Int} (hx : x ≠ -1) (h : MS f N b p A) (hn : NK4 b A T) (hq : q_X12_bars 4 x A u) : (u = A ∧ ¬ (tKind f N p = 1 ∧ isOwn5 (wv f N p) = false ∧ sFind T 4 (wv f N p) = x)) ∨ (1 ≤ u 0 8 ∧ tKind f N p = 1 ∧ isOwn5 (wv f N p) = false ∧ sFind T 4 (wv f N p) = x) := by
  rcases (hq.1 : tr_r_X12_bars 4 x A u) with ⟨c, _⟩ | ⟨c, _⟩ | ⟨c, _⟩ | ⟨c, _⟩ | ⟨_, h2⟩
  · omega
  · omega
  · omega
  · omega
  · rcases h2 with ⟨c, _⟩ | ⟨_, h2⟩
    · exact absurd h.ns c
    · rcases h2 with ⟨c1, rfl⟩ | ⟨c1, z3, ho, h2⟩
      · exact Or.inl ⟨rfl, fun g => c1 (by rw [h.sg]; exact g.1)⟩
      · have tk : tKind f N p = 1 := by rw [← h.sg]; exact c1
        have g := h.own tk ho
        rcases h2 with ⟨c2, rfl⟩ | ⟨c2, h2⟩
        · refine Or.inl ⟨rfl, fun g2 => ?_⟩
          rcases g with g | g
          · exact c2 g.1
          · rw [g.2] at g2; exact absurd g2.2.1 (by decide)
        · have ow : isOwn5 (wv f N p) = false := by
            rcases g with g | g
            · exact g.2
            · omega
          rcases h2 with ⟨c3, _⟩ | ⟨_, z8, hm, h2⟩
          · exact absurd c3 hx
          · have e := nmd_4 h.bk hn (h.word tk) hm
            rcases h2 with ⟨c4, rfl⟩ | ⟨c4, A12, hb, rfl⟩
            · exact Or.inl ⟨rfl, fun g2 => c4 (by rw [e]; exact g2.2.2)⟩
            · exact Or.inr ⟨hb.2.2.2, tk, ow, by rw [← e]; exact c4⟩
