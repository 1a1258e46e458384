theorem tk1 {f : Nat → Int} {N p : Nat} (h : tKind f N p = 1) : sAt f N p < N ∧ isL (f (sAt f N p)) ∧ tEnd f N p = wEnd f N (sAt f N p) ∧ wEnd f N (sAt f N p) ≤ sAt f N p + 6 ∧ ¬ adj f (sAt f N p) := by
  unfold tKind at h
  unfold tEnd
  by_cases h1 : N ≤ sAt f N p
  · rw [if_pos h1] at h; exact absurd h (by decide)
  · rw [if_neg h1] at h ⊢
    by_cases h2 : isL (f (sAt f N p))
    · rw [if_pos h2] at h ⊢
      by_cases h3 : adj f (sAt f N p) ∨ sAt f N p + 6 < wEnd f N (sAt f N p)
      · rw [if_pos h3] at h; exact absurd h (by decide)
      · exact ⟨by omega, h2, rfl, by omega, fun g => h3 (Or.inl g)⟩
    · rw [if_neg h2] at h
      by_cases h3 : isD (f (sAt f N p))
      · rw [if_pos h3] at h
        split at h <;> exact absurd h (by decide)
      · rw [if_neg h3] at h; exact absurd h (by decide)
theorem tk2 {f : Nat → Int} {N p : Nat} (h : tKind f N p = 2) : sAt f N p < N ∧ isD (f (sAt f N p)) ∧ tEnd f N p = nEnd f N (sAt f N p) ∧ nEnd f N (sAt f N p) ≤ sAt f N p + 4 ∧ ¬ adj f (sAt f N p) := by
  unfold tKind at h
  unfold tEnd
  by_cases h1 : N ≤ sAt f N p
  · rw [if_pos h1] at h; exact absurd h (by decide)
  · rw [if_neg h1] at h ⊢
    by_cases h2 : isL (f (sAt f N p))
    · rw [if_pos h2] at h
      split at h <;> exact absurd h (by decide)
    · rw [if_neg h2] at h ⊢
      by_cases h3 : isD (f (sAt f N p))
      · rw [if_pos h3] at h ⊢
        by_cases h4 : adj f (sAt f N p) ∨ sAt f N p + 4 < nEnd f N (sAt f N p)
        · rw [if_pos h4] at h; exact absurd h (by decide)
        · exact ⟨by omega, h3, rfl, by omega, fun g => h4 (Or.inl g)⟩
      · rw [if_neg h3] at h; exact absurd h (by decide)
theorem tk3 {f : Nat → Int} {N p : Nat} (h : tKind f N p = 3) : sAt f N p < N ∧ tEnd f N p = sAt f N p + 1 ∧ ¬ isL (f (sAt f N p)) ∧ ¬ isD (f (sAt f N p)) := by
  unfold tKind at h
  unfold tEnd
  by_cases h1 : N ≤ sAt f N p
  · rw [if_pos h1] at h; exact absurd h (by decide)
  · rw [if_neg h1] at h ⊢
    by_cases h2 : isL (f (sAt f N p))
    · rw [if_pos h2] at h
      split at h <;> exact absurd h (by decide)
    · rw [if_neg h2] at h ⊢
      by_cases h3 : isD (f (sAt f N p))
      · rw [if_pos h3] at h
        split at h <;> exact absurd h (by decide)
      · rw [if_neg h3]
        exact ⟨by omega, rfl, h2, h3⟩
theorem wv_b {f : Nat → Int} {N p : Nat} (h : tKind f N p = 1) : 0 ≤ wv f N p ∧ wv f N p < 1073741824 := by
  obtain ⟨h1, h2, h3, h4, _⟩ := tk1 h
  have h5 := wEnd_le h1 h2
  unfold wv
  rw [h3]
  have b := w5_lt (f := f) (s := sAt f N p) (wEnd f N (sAt f N p) - sAt f N p) (fun k hk => h5.2.2 _ (by omega) (by omega))
  have h6 : (32 : Nat) ^ (wEnd f N (sAt f N p) - sAt f N p) ≤ 32 ^ 6 := Nat.pow_le_pow_right (by decide) (by omega)
  have h7 : ((32 ^ (wEnd f N (sAt f N p) - sAt f N p) : Nat) : Int) = 32 ^ (wEnd f N (sAt f N p) - sAt f N p) := by simp
  have h8 : (32 : Nat) ^ 6 = 1073741824 := by decide
  omega
theorem nv_b {f : Nat → Int} {N p : Nat} (h : tKind f N p = 2) : 0 ≤ nv f N p ∧ nv f N p ≤ 9999 := by
  obtain ⟨h1, h2, h3, h4, _⟩ := tk2 h
  have h5 := nEnd_le h1 h2
  unfold nv
  rw [h3]
  exact nm10_4 (fun k hk => h5.2.2 _ (by omega) (by omega)) (by omega)
theorem C_newName {f : Nat → Int} {N p ta : Nat} (hta : isT ta) {B u : St} {z : Int} (hE : EK f N B) (hX : LXA f N p B) (h : q_X5_newName ta B z u) : CR f N ta B (sNew f N (tw ta B) p) z u := by
  have ht : tw ta u = tw ta B := tw_fk hta h.2.2.1 rfl
  obtain ⟨z1, A2, hq, h⟩ := (h.1 : tr_r_X5_newName ta B z u)
  obtain ⟨hE2, hX2, hn⟩ := C_isNameAhead hE hX hq
  unfold CR sNew
  rcases h with ⟨c, A6, hp, nn, h⟩ | ⟨c, z19, A20, hb, hz, hu⟩
  · rcases hn with ⟨_, hn, tk, hv⟩ | ⟨hz, _⟩
    · rw [hn]
      have hP := passX hE2 hX2 (by omega) hp
      have e6 : tw ta A6 = tw ta B := (tw_fk hta hp.2.2.1 rfl).trans (tw_fk hta hq.2.2.1 rfl)
      have hb := wv_b tk
      have lp : ∀ n (i : Nat), i ≤ 5 → (∀ k, k < i → sFind (tw ta B) k (wv f N p) = -1) → d_X5_newName_1 ta A2 A6 z u n (i : Int) → (z = -1 ∧ ∃ k, k < 5 ∧ sFind (tw ta B) k (wv f N p) ≠ -1) ∨ (z = wv f N p ∧ u = A6 ∧ ∀ k, k < 5 → sFind (tw ta B) k (wv f N p) = -1) := by
        intro n
        induction n with
        | zero => intro i _ _ h; exact h.elim
        | succ n ih =>
          intro i hi hk h
          obtain ⟨_, h⟩ := (h : tr_d_X5_newName_1 ta A2 A6 z u (fun z9 => d_X5_newName_1 ta A2 A6 z u n z9) i)
          rcases h with ⟨c1, hz, hu⟩ | ⟨c1, z20, hf, h⟩
          · exact Or.inr ⟨hz.trans hv, hu, fun k hk2 => hk k (by omega)⟩
          · have e : z20 = sFind (tw ta B) i (wv f N p) := by rw [F_x (by omega) hf.1, hv, e6, Int.toNat_natCast]
            rcases h with ⟨c2, h⟩ | ⟨c2, z24, A25, hb, hz, hu⟩
            · refine ih (i + 1) (by omega) (fun k hk2 => ?_) h
              by_cases e2 : k = i
              · rw [e2, ← e]; exact c2
              · exact hk k (by omega)
            · exact Or.inl ⟨hz.trans (C_none hb), i, by omega, by rw [← e]; exact c2⟩
      show match (if sFind (tw ta B) 0 (wv f N p) = -1 ∧ sFind (tw ta B) 1 (wv f N p) = -1 ∧ sFind (tw ta B) 2 (wv f N p) = -1 ∧ sFind (tw ta B) 3 (wv f N p) = -1 ∧ sFind (tw ta B) 4 (wv f N p) = -1 then some (wv f N p, tEnd f N p) else none) with
        | none => z = -1
        | some (v, e) => z = v ∧ z ≠ -1 ∧ CS f N e u ∧ tw ta u = tw ta B
      rcases lp nn 0 (by omega) (fun k hk => absurd hk (by omega)) h with ⟨hz, k, hk, g⟩ | ⟨hz, hu, g⟩
      · rw [if_neg (fun g2 => by
          rcases (show k = 0 ∨ k = 1 ∨ k = 2 ∨ k = 3 ∨ k = 4 by omega) with rfl | rfl | rfl | rfl | rfl
          · exact g g2.1
          · exact g g2.2.1
          · exact g g2.2.2.1
          · exact g g2.2.2.2.1
          · exact g g2.2.2.2.2)]
        exact hz
      · rw [if_pos ⟨g 0 (by decide), g 1 (by decide), g 2 (by decide), g 3 (by decide), g 4 (by decide)⟩]
        exact ⟨hz, by omega, by rw [hu]; exact ⟨hP.1, hP.2.1⟩, ht⟩
    · exact absurd hz c
  · rcases hn with ⟨hz1, _⟩ | ⟨_, hn⟩
    · omega
    · rw [hn]
      exact hz.trans (C_none hb)
theorem sFind_b (T : St) (kind : Nat) (w : Int) : sFind T kind w = -1 ∨ (0 ≤ sFind T kind w ∧ sFind T kind w < T 1 kind) := by
  have lp : ∀ (g : Nat → Int) k i, fnd g w k i = -1 ∨ ((i : Int) ≤ fnd g w k i ∧ fnd g w k i < (i : Int) + k) := by
    intro g k
    induction k with
    | zero => intro i; exact Or.inl rfl
    | succ k ih =>
      intro i
      unfold fnd
      split
      · right; omega
      · rcases ih (i + 1) with h | h
        · exact Or.inl h
        · right; omega
  rcases lp (T (3 + kind)) (T 1 kind).toNat 0 with h | h
  · exact Or.inl h
  · right
    unfold sFind
    omega
theorem C_isBox {ta : Nat} {x1 : Int} {A : St} {z : Int} (hx : 0 ≤ x1 ∧ x1 < tw ta A 1 1) (h : r_X9_isBox ta x1 A z) : (z = 1 ∧ tw ta A 10 x1.toNat = 0) ∨ (z = 0 ∧ tw ta A 10 x1.toNat ≠ 0) := by
  have hx2 : x1 < A (ta + 1) 1 := hx.2
  rcases (h : tr_r_X9_isBox ta x1 A z) with ⟨c, _⟩ | ⟨_, z2, hz2, h⟩
  · omega
  · have hz2 : z2 = A (ta + 1) 1 := hz2
    rcases h with ⟨c, _⟩ | ⟨_, z4, rfl, h⟩
    · omega
    · rcases h with ⟨c, hz⟩ | ⟨c, hz⟩
      · exact Or.inr ⟨hz, c⟩
      · exact Or.inl ⟨hz, c⟩
theorem C_askedSpot {f : Nat → Int} {N p ta : Nat} (hta : isT ta) {B u : St} {z : Int} (hE : EK f N B) (hX : LXA f N p B) (h : q_X5_askedSpot ta B z u) : CR f N ta B (sSpot f N (tw ta B) p) z u := by
  have ht : tw ta u = tw ta B := tw_fk hta h.2.2.1 rfl
  obtain ⟨z1, A2, hq, h⟩ := (h.1 : tr_r_X5_askedSpot ta B z u)
  obtain ⟨hE2, hX2, hn⟩ := C_isNameAhead hE hX hq
  unfold CR sSpot
  rcases h with ⟨c, A6, hp, z11, hf, h⟩ | ⟨c, z19, A20, hb, hz, hu⟩
  · rcases hn with ⟨_, hn, tk, hv⟩ | ⟨hz, _⟩
    · rw [hn]
      have hP := passX hE2 hX2 (by omega) hp
      have e6 : tw ta A6 = tw ta B := (tw_fk hta hp.2.2.1 rfl).trans (tw_fk hta hq.2.2.1 rfl)
      have e : z11 = sFind (tw ta B) 0 (wv f N p) := by rw [F_0 hf.1, hv, e6]
      show match (if sFind (tw ta B) 0 (wv f N p) ≠ -1 then some (sFind (tw ta B) 0 (wv f N p) + 10, tEnd f N p) else if sFind (tw ta B) 1 (wv f N p) ≠ -1 ∧ tw ta B 10 (sFind (tw ta B) 1 (wv f N p)).toNat = 0 then some (sFind (tw ta B) 1 (wv f N p) + 20, tEnd f N p) else none) with
        | none => z = -1
        | some (v, e) => z = v ∧ z ≠ -1 ∧ CS f N e u ∧ tw ta u = tw ta B
      rw [← e]
      rcases h with ⟨c, z15, hf1, h⟩ | ⟨c, hz, hu⟩
      · rw [if_neg (fun g => g c)]
        have e1 : z15 = sFind (tw ta B) 1 (wv f N p) := by rw [F_1 hf1.1, hv, e6]
        have b1 := sFind_b (tw ta B) 1 (wv f N p)
        rw [← e1] at b1 ⊢
        rcases h with ⟨c2, z19, A20, hb, hz, hu⟩ | ⟨c2, z23, hbx, h⟩
        · rw [if_neg (fun g => g.1 c2)]
          exact hz.trans (C_none hb)
        · have b1 : 0 ≤ z15 ∧ z15 < tw ta A6 1 1 := by
            rw [e6]
            rcases b1 with b1 | b1
            · exact absurd b1 c2
            · exact b1
          have hB := C_isBox b1 hbx.1
          rw [e6] at hB
          rcases h with ⟨c3, z27, A28, hb, hz, hu⟩ | ⟨c3, hz, hu⟩
          · rw [if_neg (fun g => by rcases hB with ⟨g1, _⟩ | ⟨_, g2⟩; omega; exact g2 g.2)]
            exact hz.trans (C_none hb)
          · rw [if_pos ⟨c2, by rcases hB with ⟨_, g⟩ | ⟨g, _⟩; exact g; exact absurd g c3⟩]
            exact ⟨hz, by omega, by rw [hu]; exact ⟨hP.1, hP.2.1⟩, ht⟩
      · rw [if_pos c]
        have := hf.2
        exact ⟨hz, by omega, by rw [hu]; exact ⟨hP.1, hP.2.1⟩, ht⟩
    · exact absurd hz c
  · rcases hn with ⟨hz1, _⟩ | ⟨_, hn⟩
    · omega
    · rw [hn]
      exact hz.trans (C_none hb)
theorem C_number {f : Nat → Int} {N p ta : Nat} (hta : isT ta) {x1 x2 : Int} {B u : St} {z : Int} (hE : EK f N B) (hX : LXA f N p B) (h : q_X5_number x1 x2 B z u) : CR f N ta B (sNum f N x1 x2 p) z u := by
  have ht : tw ta u = tw ta B := tw_fk hta h.2.2.1 rfl
  obtain ⟨A1, hq, h⟩ := (h.1 : tr_r_X5_number x1 x2 B z u)
  obtain ⟨hE1, hX1⟩ := lookA hE hX hq
  have k2 := hX1.2.2.1
  unfold CR sNum
  rcases h with ⟨c, A6, hp, h⟩ | ⟨c, z21, A22, hb, hz, hu⟩
  · have tk : tKind f N p = 2 := by omega
    have hv : A1 5 4 = nv f N p := hX1.2.2.2.2.2.1 tk
    have hP := passX hE1 hX1 (by omega) hp
    have hb := nv_b tk
    rw [hv] at h
    rcases h with ⟨c1, z12, A13, hb, hz, hu⟩ | ⟨c1, h⟩
    · rw [if_neg (by omega)]
      exact hz.trans (C_none hb)
    · rcases h with ⟨c2, hz, hu⟩ | ⟨c2, z17, A18, hb, hz, hu⟩
      · rw [if_pos ⟨tk, by omega, c2⟩]
        exact ⟨hz, by omega, by rw [hu]; exact ⟨hP.1, hP.2.1⟩, ht⟩
      · rw [if_neg (by omega)]
        exact hz.trans (C_none hb)
  · rw [if_neg (by omega)]
    exact hz.trans (C_none hb)
/-- an answer of yes or no; with no, the token is still there -/
def CP (f : Nat → Int) (N ta p : Nat) (B : St) (r : Option Nat) (z : Int) (u : St) : Prop := match r with
  | none => z = 0 ∧ EK f N u ∧ LX1 f N p u ∧ tw ta u = tw ta B
  | some e => z = 1 ∧ CS f N e u ∧ tw ta u = tw ta B
/-- an answer of yes or no; with no, nothing is said -/
def CQ (f : Nat → Int) (N ta : Nat) (B : St) (r : Option Nat) (z : Int) (u : St) : Prop := match r with
  | none => z = 0
  | some e => z = 1 ∧ CS f N e u ∧ tw ta u = tw ta B
theorem isS_iff {f : Nat → Int} {N p : Nat} {c z : Int} {A : St} (hc : 0 ≤ c ∧ c ≤ 127) (hX : LX1 f N p A) (h : q_X3_isSign c A z) : (z = 1 ∧ tKind f N p = 3 ∧ f (sAt f N p) = c) ∨ (z = 0 ∧ ¬ (tKind f N p = 3 ∧ f (sAt f N p) = c)) := by
  have k2 := hX.2.2.1
  rcases (h.1 : tr_r_X3_isSign c A z) with ⟨c1, hz⟩ | ⟨c1, h⟩
  · exact Or.inr ⟨hz, fun g => c1 (by omega)⟩
  · have tk : tKind f N p = 3 := by omega
    have hv := hX.2.2.2.2.2.2 tk
    rcases h with ⟨c2, hz⟩ | ⟨c2, hz⟩
    · exact Or.inr ⟨hz, fun g => by omega⟩
    · exact Or.inl ⟨hz, tk, by omega⟩
theorem C_sign {f : Nat → Int} {N p ta : Nat} (hta : isT ta) {c : Int} (hc : 0 ≤ c ∧ c ≤ 127) {B u : St} {z : Int} (hE : EK f N B) (hX : LXA f N p B) (h : q_X5_sign c B z u) : CQ f N ta B (sSign f N c p) z u := by
  have ht : tw ta u = tw ta B := tw_fk hta h.2.2.1 rfl
  obtain ⟨A1, hq, z4, hs, h⟩ := (h.1 : tr_r_X5_sign c B z u)
  obtain ⟨hE1, hX1⟩ := lookA hE hX hq
  have hS := isS_iff hc hX1 hs
  unfold CQ sSign
  rcases h with ⟨c1, A8, hp, hz, hu⟩ | ⟨c1, z11, A12, hb, hz, hu⟩
  · rcases hS with ⟨_, g1, g2⟩ | ⟨g, _⟩
    · rw [if_pos ⟨g1, g2⟩]
      have hP := passX hE1 hX1 (by omega) hp
      exact ⟨hz, by rw [hu]; exact ⟨hP.1, hP.2.1⟩, ht⟩
    · exact absurd g c1
  · rcases hS with ⟨g, _⟩ | ⟨_, g⟩
    · omega
    · rw [if_neg g]
      exact hz.trans hb.2.2.2.2
theorem C_passesSign {f : Nat → Int} {N p ta : Nat} (hta : isT ta) {c : Int} (hc : 0 ≤ c ∧ c ≤ 127) {B u : St} {z : Int} (hE : EK f N B) (hX : LXA f N p B) (h : q_X5_passesSign c B z u) : CP f N ta p B (sSign f N c p) z u := by
  have ht : tw ta u = tw ta B := tw_fk hta h.2.2.1 rfl
  obtain ⟨A1, hq, z4, hs, h⟩ := (h.1 : tr_r_X5_passesSign c B z u)
  obtain ⟨hE1, hX1⟩ := lookA hE hX hq
  have hS := isS_iff hc hX1 hs
  unfold CP sSign
  rcases h with ⟨c1, A8, hp, hz, hu⟩ | ⟨c1, hz, hu⟩
  · rcases hS with ⟨_, g1, g2⟩ | ⟨g, _⟩
    · rw [if_pos ⟨g1, g2⟩]
      have hP := passX hE1 hX1 (by omega) hp
      exact ⟨hz, by rw [hu]; exact ⟨hP.1, hP.2.1⟩, ht⟩
    · exact absurd g c1
  · rcases hS with ⟨g, _⟩ | ⟨_, g⟩
    · omega
    · rw [if_neg g]
      exact ⟨hz, by rw [hu]; exact hE1, by rw [hu]; exact hX1, ht⟩
theorem C_passesWord {f : Nat → Int} {N p ta : Nat} (hta : isT ta) {k : Nat} (hk : k < 26) {x : Int} (hx : x = (k : Int)) {B u : St} {z : Int} (hE : EK f N B) (hX : LXA f N p B) (h : q_X5_passesWord x B z u) : CP f N ta p B (sOwn f N k p) z u := by
  have ht : tw ta u = tw ta B := tw_fk hta h.2.2.1 rfl
  obtain ⟨A1, hq, h⟩ := (h.1 : tr_r_X5_passesWord x B z u)
  obtain ⟨hE1, hX1⟩ := lookA hE hX hq
  have k2 := hX1.2.2.1
  unfold CP sOwn
  rcases h with ⟨c1, hz, hu⟩ | ⟨c1, h⟩
  · rw [if_neg (fun g => c1 (by omega))]
    exact ⟨hz, by rw [hu]; exact hE1, by rw [hu]; exact hX1, ht⟩
  · have tk : tKind f N p = 1 := by omega
    have hv : A1 5 4 = wv f N p := hX1.2.2.2.2.1 tk
    rcases h with ⟨c2, _⟩ | ⟨_, h⟩
    · omega
    · rcases h with ⟨c3, _⟩ | ⟨_, z10, hz10, h⟩
      · omega
      · have e : z10 = own5 k := by
          rw [hz10, hx, Int.toNat_natCast]
          exact hE1.2.2.2.2 k hk
        rw [e, hv] at h
        rcases h with ⟨c4, A12, hp, hz, hu⟩ | ⟨c4, hz, hu⟩
        · rw [if_pos ⟨tk, c4⟩]
          have hP := passX hE1 hX1 (by omega) hp
          exact ⟨hz, by rw [hu]; exact ⟨hP.1, hP.2.1⟩, ht⟩
        · rw [if_neg (fun g => c4 g.2)]
          exact ⟨hz, by rw [hu]; exact hE1, by rw [hu]; exact hX1, ht⟩
theorem C_ownWord {f : Nat → Int} {N p ta : Nat} (hta : isT ta) {k : Nat} (hk : k < 26) {x : Int} (hx : x = (k : Int)) {B u : St} {z : Int} (hE : EK f N B) (hX : LXA f N p B) (h : q_X5_ownWord x B z u) : CQ f N ta B (sOwn f N k p) z u := by
  obtain ⟨z1, A2, hq, h⟩ := (h.1 : tr_r_X5_ownWord x B z u)
  have hP := C_passesWord hta hk hx hE hX hq
  unfold CP at hP
  unfold CQ
  cases ho : sOwn f N k p with
  | none =>
    rw [ho] at hP
    rcases h with ⟨c, _⟩ | ⟨_, z6, A7, _, hz, _⟩
    · exact absurd hP.1 c
    · exact hz
  | some e =>
    rw [ho] at hP
    rcases h with ⟨_, hz, hu⟩ | ⟨c, _⟩
    · rw [hu]
      exact ⟨hz, hP.2⟩
    · have := hP.1
      omega
