/-- the token behind p, as the reference has it -/
def RT (f : Nat → Int) (N p : Nat) (A : St) : Prop := A 0 3 = tKind f N p ∧ A 0 4 = (sAt f N p : Int) ∧ A 0 5 = (tEnd f N p : Int) ∧ (tKind f N p = 1 → A 0 7 = w8 f (sAt f N p) (tEnd f N p - sAt f N p)) ∧ (tKind f N p = 2 → A 0 6 = nv f N p) ∧ (tKind f N p = 3 → A 0 6 = f (sAt f N p))
theorem EM.fr {f : Nat → Int} {N : Nat} {A u : St} {M' N' : List Nat} (h : EM f N A) (hf : fr M' N' A u) (h1 : M'.contains 1 = false) (h2 : N'.contains 2 = false) : EM f N u := by
  refine ⟨(hf.2 2 h2).trans h.1, h.2.1, fun k hk => ?_⟩
  rw [hf.1 1 (by decide) h1]
  exact h.2.2 k hk
theorem ah_skip {f : Nat → Int} {N : Nat} {A u : St} (hE : EM f N A) : ∀ (nn q : Nat), q ≤ N → d_X12_ahead_1 A u nn (q : Int) → d_X12_ahead_3 ((skp f (N - q) q : Nat) : Int) A u := by
  intro nn
  induction nn with
  | zero => intro q _ h; exact h.elim
  | succ m ih =>
    intro q hq h
    obtain ⟨_, h⟩ := (h : tr_d_X12_ahead_1 A u (fun z1 => d_X12_ahead_1 A u m z1) q)
    rw [hE.1] at h
    rcases h with ⟨c, h⟩ | ⟨c, z10, hz, h⟩
    · rw [skp_stop (Or.inl (by omega))]
      exact h
    · have hqN : q < N := by omega
      have hf : f q = z10 := by rw [hz, Int.toNat_natCast]; exact hE.2.2 q hqN
      have go : isB (f q) → d_X12_ahead_2 (fun z1 => d_X12_ahead_1 A u m z1) q u → d_X12_ahead_3 ((skp f (N - q) q : Nat) : Int) A u := by
        intro hb h
        rw [skp_go hqN hb]
        exact ih (q + 1) (by omega) (h : tr_d_X12_ahead_2 _ q u)
      rcases h with ⟨c2, h⟩ | ⟨c2, z13, hz13, h⟩
      · exact go (Or.inr (by omega)) h
      · have hf2 : f q = z13 := by rw [hz13, Int.toNat_natCast]; exact hE.2.2 q hqN
        rcases h with ⟨c3, h⟩ | ⟨c3, h⟩
        · rw [skp_stop (Or.inr (by omega))]
          exact h
        · exact go (Or.inl (by omega)) h
theorem M_ahead {f : Nat → Int} {N p : Nat} {A u : St} (hE : EM f N A) (h5 : A 0 5 = (p : Int)) (hp : p ≤ N) (h8 : A 0 8 = 0) (h : q_X12_ahead A u) : EM f N u ∧ ((tKind f N p = 4 ∧ 1 ≤ u 0 8) ∨ (tKind f N p ≠ 4 ∧ u 0 8 = 0 ∧ RT f N p u)) := by
  refine ⟨hE.fr h.2.2.1 rfl rfl, ?_⟩
  obtain ⟨nn, h⟩ := (h.1 : tr_r_X12_ahead A u)
  rw [h5] at h
  have h := ah_skip hE nn p hp h
  have hs := sAt_le (f := f) hp
  obtain ⟨s, hsd⟩ : ∃ s, sAt f N p = s := ⟨_, rfl⟩
  have h : d_X12_ahead_3 (sAt f N p : Int) A u := h
  rw [hsd] at h hs
  have h : tr_d_X12_ahead_3 (s : Int) A u := h
  unfold tr_d_X12_ahead_3 at h
  rw [hE.1] at h
  rcases h with ⟨c, z18, hz18, A19, hA19, z20, hq20, z23, hz23, z24, hq24, h⟩ | ⟨c, A139, hA, hu⟩
  · have hN : ¬ N ≤ s := by omega
    have r1 : ∀ k, A19 1 k = A 1 k := fun k => by rw [hA19]; rfl
    have hf : f s = z18 := by rw [hz18, Int.toNat_natCast]; exact hE.2.2 s (by omega)
    have hf2 : f s = z23 := by rw [hz23, Int.toNat_natCast, r1]; exact hE.2.2 s (by omega)
    have il : z20 = 1 ↔ isL (f s) := by rw [hf]; exact hq20.2.2
    have id : z24 = 1 ↔ isD (f s) := by rw [hf2]; exact hq24.2.2
    have bl := hq20.2.1
    have bd := hq24.2.1
    have e19 : A19 0 8 = 0 := by rw [hA19]; exact h8
    have e194 : A19 0 4 = (s : Int) := by rw [hA19]; rfl
    -- behind the check of what is ahead
    have h6 : ∀ (B : St) (F : Int), (∀ k, B 1 k = A 1 k) → B 0 4 = (s : Int) → B 0 8 = F → 0 ≤ F → d_X12_ahead_6 (s : Int) z20 z24 A u B → (isL (f s) ∧ u 0 3 = 1 ∧ u 0 4 = (s : Int) ∧ u 0 5 = (wEnd f N s : Int) ∧ (wEnd f N s ≤ s + 6 → u 0 8 = F ∧ u 0 7 = w8 f s (wEnd f N s - s)) ∧ (s + 6 < wEnd f N s → 1 ≤ u 0 8)) ∨ (¬ isL (f s) ∧ isD (f s) ∧ u 0 3 = 2 ∧ u 0 4 = (s : Int) ∧ u 0 5 = (nEnd f N s : Int) ∧ (nEnd f N s ≤ s + 4 → u 0 8 = F ∧ u 0 6 = nm10 f s (nEnd f N s - s)) ∧ (s + 4 < nEnd f N s → 1 ≤ u 0 8)) ∨ (¬ isL (f s) ∧ ¬ isD (f s) ∧ u 0 3 = 3 ∧ u 0 4 = (s : Int) ∧ u 0 5 = (s : Int) + 1 ∧ u 0 8 = F ∧ u 0 6 = f s) := by
      intro B F b1 b4 b8 hF h
      obtain ⟨_, A52, hA52, h⟩ := (h : tr_d_X12_ahead_6 (s : Int) z20 z24 A u B)
      have c1 : ∀ k, A52 1 k = A 1 k := fun k => by rw [hA52]; exact b1 k
      have c4 : A52 0 4 = (s : Int) := by rw [hA52]; exact b4
      have c8 : A52 0 8 = F := by rw [hA52]; exact b8
      have c7 : A52 0 7 = 0 := by rw [hA52]; rfl
      have c6 : A52 0 6 = 0 := by rw [hA52]; rfl
      have d7 : (¬ z20 = 0 ∨ ¬ z24 = 0) → d_X12_ahead_7 (s : Int) z20 z24 A A52 u → (isL (f s) ∧ u 0 3 = 1 ∧ u 0 4 = (s : Int) ∧ u 0 5 = (wEnd f N s : Int) ∧ (wEnd f N s ≤ s + 6 → u 0 8 = F ∧ u 0 7 = w8 f s (wEnd f N s - s)) ∧ (s + 6 < wEnd f N s → 1 ≤ u 0 8)) ∨ (¬ isL (f s) ∧ isD (f s) ∧ u 0 3 = 2 ∧ u 0 4 = (s : Int) ∧ u 0 5 = (nEnd f N s : Int) ∧ (nEnd f N s ≤ s + 4 → u 0 8 = F ∧ u 0 6 = nm10 f s (nEnd f N s - s)) ∧ (s + 4 < nEnd f N s → 1 ≤ u 0 8)) := by
        intro hor h
        rcases (h : tr_d_X12_ahead_7 (s : Int) z20 z24 A A52 u) with ⟨c2, h⟩ | ⟨c2, h⟩
        · obtain ⟨_, A66, hA66, h⟩ := (h : tr_d_X12_ahead_8 (s : Int) z20 z24 A A52 u 2)
          rcases h with ⟨_, h⟩ | ⟨c3, _⟩
          · obtain ⟨_, n9, h⟩ := (h : tr_d_X12_ahead_9 (s : Int) z20 z24 A A66 u 4)
            have hz24 : ¬ z24 = 0 := by omega
            have nl : ¬ isL (f s) := fun g => by have := il.mpr g; omega
            refine Or.inr ⟨nl, id.mp (by omega), ?_⟩
            exact ah_loopN (F := F) hE c2 hz24 n9 0 A66 (by omega) (fun k hk => absurd hk (by omega)) (fun k => by rw [hA66]; exact c1 k) (by rw [hA66]; rfl) (by rw [hA66]; exact c4) (fun _ => ⟨by rw [hA66]; exact c8, by rw [hA66]; exact c6⟩) (fun g => absurd g (by omega)) h
          · exact absurd c2 c3
        · obtain ⟨_, A66, hA66, h⟩ := (h : tr_d_X12_ahead_8 (s : Int) z20 z24 A A52 u 1)
          rcases h with ⟨c3, _⟩ | ⟨_, h⟩
          · exact absurd c3 c2
          · obtain ⟨_, n9, h⟩ := (h : tr_d_X12_ahead_9 (s : Int) z20 z24 A A66 u 6)
            have hL : isL (f s) := il.mp (by omega)
            have hz24 : z24 = 0 := by
              by_cases g : z24 = 1
              · have := id.mp g; omega
              · omega
            refine Or.inl ⟨hL, ?_⟩
            exact ah_loopW (F := F) hE c2 hz24 n9 0 A66 (by omega) (fun k hk => absurd hk (by omega)) (fun k => by rw [hA66]; exact c1 k) (by rw [hA66]; rfl) (by rw [hA66]; exact c4) (fun _ => ⟨by rw [hA66]; exact c8, by rw [hA66]; exact c7⟩) (fun g => absurd g (by omega)) h
      rcases h with ⟨c2, h⟩ | ⟨c2, h⟩
      · rcases d7 (Or.inl c2) h with g | g
        · exact Or.inl g
        · exact Or.inr (Or.inl g)
      · rcases h with ⟨c3, h⟩ | ⟨c3, z56, hz56, A57, hA57, hu⟩
        · rcases d7 (Or.inr c3) h with g | g
          · exact Or.inl g
          · exact Or.inr (Or.inl g)
        · have nl : ¬ isL (f s) := fun g => by have := il.mpr g; omega
          have nd : ¬ isD (f s) := fun g => by have := id.mpr g; omega
          refine Or.inr (Or.inr ⟨nl, nd, by rw [hu, hA57, hA52]; rfl, by rw [hu, hA57]; exact c4, by rw [hu, hA57, hA52]; rfl, by rw [hu, hA57]; exact c8, ?_⟩)
          rw [hu, hA57]
          show z56 = f s
          rw [hz56, Int.toNat_natCast, c1]
          exact (hE.2.2 s (by omega)).symm
    -- the end of all roads
    have fin : ∀ F : Int, (F = 0 ∨ 1 ≤ F) → (isL (f s) ∨ isD (f s) → (F = 0 ↔ ¬ adj f s)) → (¬ isL (f s) → ¬ isD (f s) → F = 0) → ((isL (f s) ∧ u 0 3 = 1 ∧ u 0 4 = (s : Int) ∧ u 0 5 = (wEnd f N s : Int) ∧ (wEnd f N s ≤ s + 6 → u 0 8 = F ∧ u 0 7 = w8 f s (wEnd f N s - s)) ∧ (s + 6 < wEnd f N s → 1 ≤ u 0 8)) ∨ (¬ isL (f s) ∧ isD (f s) ∧ u 0 3 = 2 ∧ u 0 4 = (s : Int) ∧ u 0 5 = (nEnd f N s : Int) ∧ (nEnd f N s ≤ s + 4 → u 0 8 = F ∧ u 0 6 = nm10 f s (nEnd f N s - s)) ∧ (s + 4 < nEnd f N s → 1 ≤ u 0 8)) ∨ (¬ isL (f s) ∧ ¬ isD (f s) ∧ u 0 3 = 3 ∧ u 0 4 = (s : Int) ∧ u 0 5 = (s : Int) + 1 ∧ u 0 8 = F ∧ u 0 6 = f s)) → (tKind f N p = 4 ∧ 1 ≤ u 0 8) ∨ (tKind f N p ≠ 4 ∧ u 0 8 = 0 ∧ RT f N p u) := by
      intro F hF hadj hsg h
      rcases h with ⟨n1, u3, u4, u5, u6, u7⟩ | ⟨n1, n2, u3, u4, u5, u6, u7⟩ | ⟨n1, n2, u3, u4, u5, u8, u6⟩
      · have te : tEnd f N p = wEnd f N s := by unfold tEnd; rw [hsd, if_neg hN, if_pos n1]
        by_cases g : adj f s ∨ s + 6 < wEnd f N s
        · left
          refine ⟨by unfold tKind; rw [hsd, if_neg hN, if_pos n1, if_pos g], ?_⟩
          by_cases g2 : s + 6 < wEnd f N s
          · exact u7 g2
          · rw [(u6 (by omega)).1]
            have g3 : adj f s := by rcases g with g | g; exact g; exact absurd g g2
            rcases hF with e | e
            · exact absurd g3 ((hadj (Or.inl n1)).mp e)
            · exact e
        · right
          have tk : tKind f N p = 1 := by unfold tKind; rw [hsd, if_neg hN, if_pos n1, if_neg g]
          have g6 := u6 (by omega)
          have F0 : F = 0 := (hadj (Or.inl n1)).mpr (fun g2 => g (Or.inl g2))
          unfold RT nv
          rw [tk, te, hsd]
          exact ⟨by decide, g6.1.trans F0, u3, u4, u5, fun _ => g6.2, fun g => absurd g (by decide), fun g => absurd g (by decide)⟩
      · have te : tEnd f N p = nEnd f N s := by unfold tEnd; rw [hsd, if_neg hN, if_neg n1, if_pos n2]
        by_cases g : adj f s ∨ s + 4 < nEnd f N s
        · left
          refine ⟨by unfold tKind; rw [hsd, if_neg hN, if_neg n1, if_pos n2, if_pos g], ?_⟩
          by_cases g2 : s + 4 < nEnd f N s
          · exact u7 g2
          · rw [(u6 (by omega)).1]
            have g3 : adj f s := by rcases g with g | g; exact g; exact absurd g g2
            rcases hF with e | e
            · exact absurd g3 ((hadj (Or.inr n2)).mp e)
            · exact e
        · right
          have tk : tKind f N p = 2 := by unfold tKind; rw [hsd, if_neg hN, if_neg n1, if_pos n2, if_neg g]
          have g6 := u6 (by omega)
          have F0 : F = 0 := (hadj (Or.inr n2)).mpr (fun g2 => g (Or.inl g2))
          unfold RT nv
          rw [tk, te, hsd]
          exact ⟨by decide, g6.1.trans F0, u3, u4, u5, fun g => absurd g (by decide), fun _ => g6.2, fun g => absurd g (by decide)⟩
      · right
        have tk : tKind f N p = 3 := by unfold tKind; rw [hsd, if_neg hN, if_neg n1, if_neg n2]
        have te : tEnd f N p = s + 1 := by unfold tEnd; rw [hsd, if_neg hN, if_neg n1, if_neg n2]
        unfold RT nv
        rw [tk, te, hsd]
        exact ⟨by decide, u8.trans (hsg n1 n2), u3, u4, by rw [u5]; omega, fun g => absurd g (by decide), fun g => absurd g (by decide), fun _ => u6⟩
    have d5 : adj f s → d_X12_ahead_5 (s : Int) z20 z24 A A19 u → (isL (f s) ∨ isD (f s)) → (tKind f N p = 4 ∧ 1 ≤ u 0 8) ∨ (tKind f N p ≠ 4 ∧ u 0 8 = 0 ∧ RT f N p u) := by
      intro ha h hld
      obtain ⟨A45, hb, h⟩ := (h : tr_d_X12_ahead_5 (s : Int) z20 z24 A A19 u)
      have fb := hb.2.2.1
      have g1 := hb.2.2.2
      refine fin (A45 0 8) (Or.inr g1) (fun _ => ⟨fun e => by omega, fun g => absurd ha g⟩) (fun n1 n2 => absurd hld (by rintro (g | g); exact n1 g; exact n2 g)) (h6 A45 _ (fun k => by rw [fb.1 1 (by decide) rfl]; exact r1 k) ((fb.2 4 rfl).trans e194) rfl (by omega) h)
    have d60 : (isL (f s) ∨ isD (f s) → ¬ adj f s) → d_X12_ahead_6 (s : Int) z20 z24 A u A19 → (tKind f N p = 4 ∧ 1 ≤ u 0 8) ∨ (tKind f N p ≠ 4 ∧ u 0 8 = 0 ∧ RT f N p u) := by
      intro ha h
      exact fin 0 (Or.inl rfl) (fun g => ⟨fun _ => ha g, fun _ => rfl⟩) (fun _ _ => rfl) (h6 A19 0 r1 e194 e19 (by decide) h)
    have d4 : (isL (f s) ∨ isD (f s)) → d_X12_ahead_4 (s : Int) z20 z24 A A19 u → (tKind f N p = 4 ∧ 1 ≤ u 0 8) ∨ (tKind f N p ≠ 4 ∧ u 0 8 = 0 ∧ RT f N p u) := by
      intro hld h
      rcases (h : tr_d_X12_ahead_4 (s : Int) z20 z24 A A19 u) with ⟨c2, h⟩ | ⟨c2, z33, hz33, z34, hq34, h⟩
      · exact d60 (fun _ g => by have := g.1; omega) h
      · have es : ((s : Int) - 1).toNat = s - 1 := by omega
        have e33 : z33 = f (s - 1) := by rw [hz33, es, r1]; exact (hE.2.2 (s - 1) (by omega)).symm
        have q34 := hq34.2
        rw [e33] at q34
        rcases h with ⟨c3, h⟩ | ⟨c3, z39, hz39, z40, hq40, h⟩
        · exact d5 ⟨by omega, Or.inl (q34.2.mp (by omega))⟩ h hld
        · have e39 : z39 = f (s - 1) := by rw [hz39, es, r1]; exact (hE.2.2 (s - 1) (by omega)).symm
          have q40 := hq40.2
          rw [e39] at q40
          rcases h with ⟨c4, h⟩ | ⟨c4, h⟩
          · refine d60 (fun _ g => ?_) h
            rcases g.2 with g | g
            · have := q34.2.mpr g; omega
            · have := q40.2.mpr g; omega
          · exact d5 ⟨by omega, Or.inr (q40.2.mp (by omega))⟩ h hld
    rcases h with ⟨c2, h⟩ | ⟨c2, h⟩
    · exact d4 (Or.inl (il.mp (by omega))) h
    · rcases h with ⟨c3, h⟩ | ⟨c3, h⟩
      · refine d60 (fun g => ?_) h
        rcases g with g | g
        · have := il.mpr g; omega
        · have := id.mpr g; omega
      · exact d4 (Or.inr (id.mp (by omega))) h
  · have hN : N ≤ s := by omega
    have tk : tKind f N p = 0 := by unfold tKind; rw [hsd, if_pos hN]
    have te : tEnd f N p = s := by unfold tEnd; rw [hsd, if_pos hN]
    right
    unfold RT
    rw [tk, te, hsd]
    exact ⟨by decide, by rw [hu, hA]; exact h8, by rw [hu, hA]; rfl, by rw [hu, hA]; rfl, by rw [hu, hA]; rfl, fun g => absurd g (by decide), fun g => absurd g (by decide), fun g => absurd g (by decide)⟩
