theorem skp_blank {f : Nat → Int} : ∀ k p i, p ≤ i → i < skp f k p → isB (f i) := by
  intro k
  induction k with
  | zero =>
    intro p i h1 h2
    have h2 : i < p := h2
    omega
  | succ k ih =>
    intro p i h1 h2
    unfold skp at h2
    split at h2
    · by_cases h : i = p
      · subst h; assumption
      · exact ih (p + 1) i (by omega) h2
    · omega
theorem adjS {f : Nat → Int} {N p : Nat} {l : Int} (hp : p ≤ N) (h : l = (p : Int) ↔ adj f p) (hl : l ≤ (p : Int)) : (l = (sAt f N p : Int) ↔ adj f (sAt f N p)) ∧ l ≤ (sAt f N p : Int) := by
  have hs := sAt_le (f := f) hp
  by_cases e : sAt f N p = p
  · rw [e]
    exact ⟨h, hl⟩
  · have hb : isB (f (sAt f N p - 1)) := skp_blank (N - p) p (sAt f N p - 1) (by omega) (by show sAt f N p - 1 < sAt f N p; omega)
    refine ⟨⟨fun g => by omega, fun g => ?_⟩, by omega⟩
    have g2 := g.2
    rcases hb with hb | hb <;> rw [hb] at g2 <;> omega
theorem wEnd_le {f : Nat → Int} {N s : Nat} (h : s < N) (hl : isL (f s)) : s < wEnd f N s ∧ wEnd f N s ≤ N ∧ ∀ k, s ≤ k → k < wEnd f N s → isL (f k) := by
  have h1 := rnn_le 97 122 f (N - (s + 1)) (s + 1)
  have e : wEnd f N s = rnn 97 122 f (N - (s + 1)) (s + 1) := rnn_go h hl
  refine ⟨by omega, by omega, fun k h1 h2 => rnn_all _ _ k h1 h2⟩
theorem nEnd_le {f : Nat → Int} {N s : Nat} (h : s < N) (hl : isD (f s)) : s < nEnd f N s ∧ nEnd f N s ≤ N ∧ ∀ k, s ≤ k → k < nEnd f N s → isD (f k) := by
  have h1 := rnn_le 48 57 f (N - (s + 1)) (s + 1)
  have e : nEnd f N s = rnn 48 57 f (N - (s + 1)) (s + 1) := rnn_go h hl
  refine ⟨by omega, by omega, fun k h1 h2 => rnn_all _ _ k h1 h2⟩
theorem cutW {f : Nat → Int} {N s : Nat} {A u : St} (hT : ET f N A) (h1 : A 5 1 = (s : Int)) (h3 : A 5 3 = (s : Int)) (hs : s < N) (hl : isL (f s)) (h : r_X3_cut 1 97 122 6 A u) : u 5 6 = A 5 6 ∧ (s + 6 < wEnd f N s → u 5 2 = 4) ∧ (wEnd f N s ≤ s + 6 → u 5 2 = (if A 5 5 = (s : Int) then 4 else 1) ∧ u 5 1 = (wEnd f N s : Int) ∧ u 5 5 = (wEnd f N s : Int) ∧ u 5 4 = w5 f s (wEnd f N s - s)) := by
  have key : ∀ z5 : Int, d_X3_cut_1 1 97 122 6 A u z5 → u 5 6 = A 5 6 ∧ (s + 6 < wEnd f N s → u 5 2 = 4) ∧ (wEnd f N s ≤ s + 6 → u 5 2 = z5 ∧ u 5 1 = (wEnd f N s : Int) ∧ u 5 5 = (wEnd f N s : Int) ∧ u 5 4 = w5 f s (wEnd f N s - s)) := by
    intro z5 h
    obtain ⟨_, A8, hA8, A9, hA9, nn, h⟩ := (h : tr_d_X3_cut_1 1 97 122 6 A u z5)
    have e9 : A9 = stA (stA A9 5 4 (w5 f s (s - s))) 5 1 (s : Int) := by
      rw [stA_self (stA A9 5 4 (w5 f s (s - s))) 5 1 (s : Int) (by rw [hA9, hA8]; exact h1), stA_self A9 5 4 (w5 f s (s - s)) (by rw [Nat.sub_self, hA9]; rfl)]
    rcases cut_loopW (A9 := A9) hT h3 (fun k => by rw [hA9, hA8]; rfl) nn s A9 e9 (Nat.le_refl _) (by omega) (by omega) (fun k hk => by omega) h with ⟨g1, g2, g3⟩ | ⟨g1, g2⟩
    · exact ⟨by rw [g3, hA9, hA8]; rfl, fun _ => g2, fun g => by have g1 : s + 6 < wEnd f N s := g1; omega⟩
    · have g2 : u = stA (stA (stA A9 5 4 (w5 f s (wEnd f N s - s))) 5 1 (wEnd f N s : Int)) 5 5 (wEnd f N s : Int) := g2
      refine ⟨by rw [g2, hA9, hA8]; rfl, fun g => ?_, fun _ => ⟨by rw [g2, hA9, hA8]; rfl, by rw [g2]; rfl, by rw [g2]; rfl, by rw [g2]; rfl⟩⟩
      have g1 : wEnd f N s ≤ s + 6 := g1
      omega
  rcases (h : tr_r_X3_cut 1 97 122 6 A u) with ⟨c, h⟩ | ⟨c, h⟩
  · rw [if_neg (by omega)]
    exact key 1 h
  · rw [if_pos (by omega)]
    exact key 4 h
theorem cutN {f : Nat → Int} {N s : Nat} {A u : St} (hT : ET f N A) (h1 : A 5 1 = (s : Int)) (h3 : A 5 3 = (s : Int)) (hs : s < N) (hl : isD (f s)) (h : r_X3_cut 2 48 57 4 A u) : u 5 6 = A 5 6 ∧ (s + 4 < nEnd f N s → u 5 2 = 4) ∧ (nEnd f N s ≤ s + 4 → u 5 2 = (if A 5 5 = (s : Int) then 4 else 2) ∧ u 5 1 = (nEnd f N s : Int) ∧ u 5 5 = (nEnd f N s : Int) ∧ u 5 4 = nm10 f s (nEnd f N s - s)) := by
  have key : ∀ z5 : Int, d_X3_cut_1 2 48 57 4 A u z5 → u 5 6 = A 5 6 ∧ (s + 4 < nEnd f N s → u 5 2 = 4) ∧ (nEnd f N s ≤ s + 4 → u 5 2 = z5 ∧ u 5 1 = (nEnd f N s : Int) ∧ u 5 5 = (nEnd f N s : Int) ∧ u 5 4 = nm10 f s (nEnd f N s - s)) := by
    intro z5 h
    obtain ⟨_, A8, hA8, A9, hA9, nn, h⟩ := (h : tr_d_X3_cut_1 2 48 57 4 A u z5)
    have e9 : A9 = stA (stA A9 5 4 (nm10 f s (s - s))) 5 1 (s : Int) := by
      rw [stA_self (stA A9 5 4 (nm10 f s (s - s))) 5 1 (s : Int) (by rw [hA9, hA8]; exact h1), stA_self A9 5 4 (nm10 f s (s - s)) (by rw [Nat.sub_self, hA9]; rfl)]
    rcases cut_loopN (A9 := A9) hT h3 (fun k => by rw [hA9, hA8]; rfl) nn s A9 e9 (Nat.le_refl _) (by omega) (by omega) (fun k hk => by omega) h with ⟨g1, g2, g3⟩ | ⟨g1, g2⟩
    · exact ⟨by rw [g3, hA9, hA8]; rfl, fun _ => g2, fun g => by have g1 : s + 4 < nEnd f N s := g1; omega⟩
    · have g2 : u = stA (stA (stA A9 5 4 (nm10 f s (nEnd f N s - s))) 5 1 (nEnd f N s : Int)) 5 5 (nEnd f N s : Int) := g2
      refine ⟨by rw [g2, hA9, hA8]; rfl, fun g => ?_, fun _ => ⟨by rw [g2, hA9, hA8]; rfl, by rw [g2]; rfl, by rw [g2]; rfl, by rw [g2]; rfl⟩⟩
      have g1 : nEnd f N s ≤ s + 4 := g1
      omega
  rcases (h : tr_r_X3_cut 2 48 57 4 A u) with ⟨c, h⟩ | ⟨c, h⟩
  · rw [if_neg (by omega)]
    exact key 2 h
  · rw [if_pos (by omega)]
    exact key 4 h
theorem look0 {f : Nat → Int} {N p : Nat} {B u : St} (hE : EK f N B) (h0 : LX0 f N p B) (h : q_X3_look B u) : EK f N u ∧ LX1 f N p u := by
  have hEu : EK f N u := hE.fr h.2.1 h.2.2.1 rfl rfl rfl rfl (fun _ => rfl) (fun _ => rfl)
  refine ⟨hEu, ?_⟩
  obtain ⟨b6, b1, hp, b5, b5'⟩ := h0
  have hs := sAt_le (f := f) hp
  have ha := adjS hp b5 b5'
  rcases (h.1 : tr_r_X3_look B u) with ⟨_, A3, hA3, nn, h⟩ | ⟨c, _⟩
  · obtain ⟨A5, hA5, hI5, h⟩ := look_loop (A3 := A3) hE (fun k => by rw [hA3]; rfl) nn p A3 (by rw [stA_self A3 5 1 _ (by rw [hA3]; exact b1)]) hp h
    have hA5 : A5 = stA A3 5 1 (sAt f N p : Int) := hA5
    obtain ⟨s, hsd⟩ : ∃ s, sAt f N p = s := ⟨_, rfl⟩
    rw [hsd] at hs ha hA5
    have a1 : A5 5 1 = (s : Int) := by rw [hA5]; rfl
    obtain ⟨A28, hA28, h⟩ := (h : tr_d_X3_look_3 B A5 u)
    rw [a1, hE.2.1] at h
    rw [a1] at hA28
    have c5 : A28 5 5 = B 5 5 := by rw [hA28, hA5, hA3]; rfl
    have c1 : A28 5 1 = (s : Int) := by rw [hA28, hA5]; rfl
    have c3 : A28 5 3 = (s : Int) := by rw [hA28]; rfl
    have c6 : A28 5 6 = 1 := by rw [hA28, hA5, hA3]; rfl
    have c2 : ∀ k, A28 2 k = B 2 k := fun k => by rw [hA28, hA5, hA3]; rfl
    have c4 : ∀ k, A28 4 k = B 4 k := fun k => by rw [hA28, hA5, hA3]; rfl
    have c11 : A28 1 1 = B 1 1 := by rw [hA28, hA5, hA3]; rfl
    rcases h with ⟨c, A32, hA32, hu⟩ | ⟨c, z37, hz, A38, hA38, h⟩
    · have hN : N ≤ s := by omega
      have tk : tKind f N p = 0 := by unfold tKind; rw [hsd, if_pos hN]
      have te : tEnd f N p = s := by unfold tEnd; rw [hsd, if_pos hN]
      unfold LX1 LV
      rw [tk, te]
      have u6 : u 5 6 = 1 := by rw [hu, hA32]; exact c6
      have u2 : u 5 2 = 0 := by rw [hu, hA32]; rfl
      have u1 : u 5 1 = (s : Int) := by rw [hu, hA32]; exact c1
      have u5 : u 5 5 = B 5 5 := by rw [hu, hA32]; exact c5
      refine ⟨u6, hp, u2, fun _ => ⟨u1, by omega, ?_⟩, fun g => absurd g (by decide), fun g => absurd g (by decide), fun g => absurd g (by decide)⟩
      rw [u5]
      exact ha
    · have hN : ¬ N ≤ s := by omega
      have hf : f s = z37 % 256 := by
        rw [hz, Int.toNat_natCast, c2]
        exact hE.2.2.2.1 s (by omega)
      have hr : -128 ≤ z37 ∧ z37 ≤ 127 := by rw [hz, c2]; exact irTPb hE.1
      have d1 : A38 5 1 = (s : Int) := by rw [hA38]; exact c1
      have d3 : A38 5 3 = (s : Int) := by rw [hA38]; exact c3
      have d5 : A38 5 5 = B 5 5 := by rw [hA38]; exact c5
      have d6 : A38 5 6 = 1 := by rw [hA38]; exact c6
      have hT : ET f N A38 := by
        refine ⟨by rw [hA38]; exact c11.trans hE.2.1, hE.2.2.1, fun k hk => ?_, fun k hk => ?_⟩
        · rw [hA38]
          exact (hE.2.2.2.1 k hk).trans (by show B 2 k % 256 = A28 2 k % 256; rw [c2])
        · rw [hA38]
          exact (c4 k).trans (hE.2.2.2.2 k hk)
      have sg : ¬ isL (f s) → ¬ isD (f s) → d_X3_look_5 A5 A38 u → LX1 f N p u := by
        intro n1 n2 h
        obtain ⟨A54, hA54, A57, hA57, hu⟩ := (h : tr_d_X3_look_5 A5 A38 u)
        have tk : tKind f N p = 3 := by unfold tKind; rw [hsd, if_neg hN, if_neg n1, if_neg n2]
        have te : tEnd f N p = s + 1 := by unfold tEnd; rw [hsd, if_neg hN, if_neg n1, if_neg n2]
        unfold LX1 LV
        rw [tk, te, hsd]
        have u6 : u 5 6 = 1 := by rw [hu, hA57, hA54]; exact d6
        have u2 : u 5 2 = 3 := by rw [hu, hA57, hA54]; rfl
        have u1 : u 5 1 = (s : Int) + 1 := by rw [hu, hA57, a1]; rfl
        have u5 : u 5 5 = B 5 5 := by rw [hu, hA57, hA54]; exact d5
        have u4 : u 5 4 = z37 := by rw [hu, hA57, hA54, hA38]; rfl
        refine ⟨u6, hp, u2, fun _ => ⟨by rw [u1]; omega, by omega, ⟨fun g => by omega, fun g => ?_⟩, by omega⟩, fun g => absurd g (by decide), fun g => absurd g (by decide), fun _ => ⟨by rw [u4, hf], by omega, by omega⟩⟩
        have g2 := g.2
        rw [show s + 1 - 1 = s by omega] at g2
        exact absurd g2 (by rintro (g | g); exact n1 g; exact n2 g)
      have dg : ¬ isL (f s) → isD (f s) → (∃ A50 : St, q_X3_cut 2 48 57 4 A38 A50 ∧ u = A50) → LX1 f N p u := by
        rintro n1 n2 ⟨A50, h, rfl⟩
        have hc := cutN hT d1 d3 (by omega) n2 h.1
        rw [d6, d5] at hc
        have hn := nEnd_le (N := N) (show s < N by omega) n2
        have te : tEnd f N p = nEnd f N s := by unfold tEnd; rw [hsd, if_neg hN, if_neg n1, if_pos n2]
        by_cases g : adj f s ∨ s + 4 < nEnd f N s
        · have tk : tKind f N p = 4 := by unfold tKind; rw [hsd, if_neg hN, if_neg n1, if_pos n2, if_pos g]
          have u2 : u 5 2 = 4 := by
            by_cases g2 : s + 4 < nEnd f N s
            · exact hc.2.1 g2
            · have g3 := (hc.2.2 (by omega)).1
              rw [if_pos (ha.1.mpr (by rcases g with g | g; exact g; exact absurd g g2))] at g3
              exact g3
          unfold LX1 LV
          rw [tk]
          exact ⟨hc.1, hp, u2, fun g => absurd rfl g, fun g => absurd g (by decide), fun g => absurd g (by decide), fun g => absurd g (by decide)⟩
        · have tk : tKind f N p = 2 := by unfold tKind; rw [hsd, if_neg hN, if_neg n1, if_pos n2, if_neg g]
          have g3 := hc.2.2 (by omega)
          rw [if_neg (fun e => g (Or.inl (ha.1.mp e)))] at g3
          unfold LX1 LV
          rw [tk, te, hsd]
          refine ⟨hc.1, hp, g3.1, fun _ => ⟨g3.2.1, hn.2.1, ⟨fun _ => ⟨by omega, Or.inr (hn.2.2 _ (by omega) (by omega))⟩, fun _ => g3.2.2.1⟩, by rw [g3.2.2.1]; omega⟩, fun g => absurd g (by decide), fun _ => g3.2.2.2, fun g => absurd g (by decide)⟩
      have lt : isL (f s) → (∃ A43 : St, q_X3_cut 1 97 122 6 A38 A43 ∧ u = A43) → LX1 f N p u := by
        rintro n1 ⟨A43, h, rfl⟩
        have hc := cutW hT d1 d3 (by omega) n1 h.1
        rw [d6, d5] at hc
        have hn := wEnd_le (N := N) (show s < N by omega) n1
        have te : tEnd f N p = wEnd f N s := by unfold tEnd; rw [hsd, if_neg hN, if_pos n1]
        by_cases g : adj f s ∨ s + 6 < wEnd f N s
        · have tk : tKind f N p = 4 := by unfold tKind; rw [hsd, if_neg hN, if_pos n1, if_pos g]
          have u2 : u 5 2 = 4 := by
            by_cases g2 : s + 6 < wEnd f N s
            · exact hc.2.1 g2
            · have g3 := (hc.2.2 (by omega)).1
              rw [if_pos (ha.1.mpr (by rcases g with g | g; exact g; exact absurd g g2))] at g3
              exact g3
          unfold LX1 LV
          rw [tk]
          exact ⟨hc.1, hp, u2, fun g => absurd rfl g, fun g => absurd g (by decide), fun g => absurd g (by decide), fun g => absurd g (by decide)⟩
        · have tk : tKind f N p = 1 := by unfold tKind; rw [hsd, if_neg hN, if_pos n1, if_neg g]
          have g3 := hc.2.2 (by omega)
          rw [if_neg (fun e => g (Or.inl (ha.1.mp e)))] at g3
          unfold LX1 LV
          rw [tk, te, hsd]
          refine ⟨hc.1, hp, g3.1, fun _ => ⟨g3.2.1, hn.2.1, ⟨fun _ => ⟨by omega, Or.inl (hn.2.2 _ (by omega) (by omega))⟩, fun _ => g3.2.2.1⟩, by rw [g3.2.2.1]; omega⟩, fun _ => g3.2.2.2, fun g => absurd g (by decide), fun g => absurd g (by decide)⟩
      have d4 : ¬ isL (f s) → d_X3_look_4 z37 A5 A38 u → LX1 f N p u := by
        intro n1 h
        rcases (h : tr_d_X3_look_4 z37 A5 A38 u) with ⟨c2, h⟩ | ⟨c2, h⟩
        · exact sg n1 (by omega) h
        · rcases h with ⟨c3, h⟩ | ⟨c3, h⟩
          · exact sg n1 (by omega) h
          · exact dg n1 (by omega) h
      rcases h with ⟨c2, h⟩ | ⟨c2, h⟩
      · exact d4 (by omega) h
      · rcases h with ⟨c3, h⟩ | ⟨c3, h⟩
        · exact d4 (by omega) h
        · exact lt (by omega) h
  · exact absurd b6 c
theorem look1 {f : Nat → Int} {N p : Nat} {B u : St} (h1 : LX1 f N p B) (h : q_X3_look B u) : u = B := by
  rcases (h.1 : tr_r_X3_look B u) with ⟨c, _⟩ | ⟨_, h⟩
  · have := h1.1
    omega
  · exact h
theorem lookA {f : Nat → Int} {N p : Nat} {B u : St} (hE : EK f N B) (h0 : LXA f N p B) (h : q_X3_look B u) : EK f N u ∧ LX1 f N p u := by
  rcases h0 with h0 | h0
  · exact look0 hE h0 h
  · have e := look1 h0 h
    rw [e]
    exact ⟨hE, h0⟩
theorem passX {f : Nat → Int} {N p : Nat} {B u : St} (hE : EK f N B) (h1 : LX1 f N p B) (hk : tKind f N p ≠ 4) (h : q_X3_pass B u) : EK f N u ∧ LX0 f N (tEnd f N p) u ∧ u 5 4 = B 5 4 := by
  refine ⟨hE.fr h.2.1 h.2.2.1 rfl rfl rfl rfl (fun _ => rfl) (fun _ => rfl), ?_, h.2.2.1 5 4 rfl rfl⟩
  obtain ⟨A1, hA1, hu⟩ := (h.1 : tr_r_X3_pass B u)
  obtain ⟨_, hp, _, g, _⟩ := h1
  have g := g hk
  exact ⟨by rw [hu, hA1]; rfl, by rw [hu, hA1]; exact g.1, g.2.1, by rw [hu, hA1]; exact g.2.2.1, by rw [hu, hA1]; exact g.2.2.2⟩
