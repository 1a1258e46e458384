/-! The reference's shutting. -/
theorem inRow_fnd {x1 x2 : Int} {A : St} {z : Int} (hx : 0 ≤ x1) (h : q_X12_isInRow x1 x2 A z) : (z = 0 ∧ fnd (fun k => A 15 (10 * x1.toNat + k)) x2 (A 14 x1.toNat).toNat 0 = -1) ∨ (z = 1 ∧ fnd (fun k => A 15 (10 * x1.toNat + k)) x2 (A 14 x1.toNat).toNat 0 ≠ -1) := by
  obtain ⟨nn, h⟩ := (h.1 : tr_r_X12_isInRow x1 x2 A z)
  have lp : ∀ n (i : Nat), d_X12_isInRow_1 x1 x2 A z n (i : Int) → (z = 0 ∧ fnd (fun k => A 15 (10 * x1.toNat + k)) x2 ((A 14 x1.toNat).toNat - i) i = -1) ∨ (z = 1 ∧ fnd (fun k => A 15 (10 * x1.toNat + k)) x2 ((A 14 x1.toNat).toNat - i) i ≠ -1) := by
    intro n
    induction n with
    | zero => intro i h; exact h.elim
    | succ n ih =>
      intro i h
      obtain ⟨_, z9, hz9, h⟩ := (h : tr_d_X12_isInRow_1 x1 x2 A z (fun z1 => d_X12_isInRow_1 x1 x2 A z n z1) i)
      rcases h with ⟨c, hz⟩ | ⟨c, z11, hz11, h⟩
      · rw [show (A 14 x1.toNat).toNat - i = 0 by omega]
        exact Or.inl ⟨hz, rfl⟩
      · obtain ⟨k, hk⟩ : ∃ k, (A 14 x1.toNat).toNat - i = k + 1 := ⟨(A 14 x1.toNat).toNat - i - 1, by omega⟩
        rw [show (10 * x1 + (i : Int)).toNat = 10 * x1.toNat + i by omega] at hz11
        rw [hk]
        unfold fnd
        rcases h with ⟨c2, h⟩ | ⟨c2, hz⟩
        · rw [if_neg (show ¬ (fun k => A 15 (10 * x1.toNat + k)) i = x2 from fun g => c2 (hz11.trans g))]
          have := ih (i + 1) h
          rw [show (A 14 x1.toNat).toNat - (i + 1) = k by omega] at this
          exact this
        · rw [if_pos (show (fun k => A 15 (10 * x1.toNat + k)) i = x2 from hz11.symm.trans c2)]
          exact Or.inr ⟨hz, by omega⟩
  exact lp nn 0 h
def shL (z7 : Int) (A u B : St) : Prop := ∃ z18 : Int, ∃ A19 : St, q_X12_asked_2 2 B z18 A19 ∧ ((((A19 0 8) ≤ 0) ∧ (∃ z24 : Int, z24 = A19 14 (4 * (A 0 47) + z18).toNat ∧ (∃ z25 : Int, z25 = (stA A19 15 (40 * (A 0 47) + 10 * z18 + z24).toNat z7) 14 (4 * (A 0 47) + z18).toNat ∧ (∃ A26 : St, A26 = (stA (stA A19 15 (40 * (A 0 47) + 10 * z18 + z24).toNat z7) 14 (4 * (A 0 47) + z18).toNat (z25 + 1)) ∧ (u = A26))))) ∨ ((¬ (A19 0 8) ≤ 0) ∧ (u = A19)))
theorem shL_x {z7 : Int} {A u B : St} (g : 1 ≤ B 0 8) (h : shL z7 A u B) : u = B := by
  obtain ⟨z18, A19, hk, h⟩ := h
  have e := X_ask_2 g hk
  rcases h with ⟨c, _⟩ | ⟨_, hu⟩
  · rw [e] at c; omega
  · rw [hu, e]
theorem M_shut {f : Nat → Int} {N b p : Nat} {A u T : St} (hI : IM A) (h : MS f N b p A) (hR : MR b A T) (hq : q_X12_shutting A u) : MT f N b (sShut f N T (tEnd f N p)) u := by
  have hb := h.bk
  have h6 : ∀ k, A 14 k ≤ 6 := fun k => (hI 14 k).2
  have h60 : ∀ k, 0 ≤ A 14 k := fun k => (hI 14 k).1
  obtain ⟨z1, A2, hc, h2⟩ := (hq.1 : tr_r_X12_shutting A u)
  obtain ⟨q2, g⟩ := M_counts h hc
  rcases h2 with ⟨c1, z7, A8, hk, A12, hwd, h2⟩ | ⟨c1, rfl⟩
  · rcases g with ⟨_, _, s2⟩ | ⟨g, _⟩
    · have sp : ∀ p, sShut f N T p = (sAsk f N T 1 p).bind fun a => (sOwn f N 14 a.2).bind fun b => (sAsk f N T 2 b).bind fun c => (sPush T c.1 a.1).bind fun t => some (t, c.2) := fun _ => rfl
      rw [sp]
      obtain ⟨m, q8⟩ := M_ask_1 s2 (hR.1.2.1.rq q2) hk
      have fl : 1 ≤ A12 0 8 → 1 ≤ u 0 8 := by
        intro g
        rcases h2 with ⟨_, h2⟩ | ⟨c, _⟩
        · rw [shL_x g h2]; exact g
        · omega
      rcases m with ⟨m8, a, sa, hz7, s8⟩ | ⟨m8, mb⟩
      · rw [sa]
        show MT f N b ((sOwn f N 14 a.2).bind fun b => (sAsk f N T 2 b).bind fun c => (sPush T c.1 a.1).bind fun t => some (t, c.2)) u
        obtain ⟨m1, q12⟩ := M_wd (k := 14) (by decide) rfl s8 hwd
        rcases m1 with ⟨m18, e, se, s12⟩ | ⟨m18, mb1⟩
        · rw [se]
          show MT f N b ((sAsk f N T 2 e).bind fun c => (sPush T c.1 a.1).bind fun t => some (t, c.2)) u
          have q12' := (q12.trans q8).trans q2
          have n2 : NK2 b A12 T := hR.1.2.2.1.rq q12'
          have lf : (∀ c, sAsk f N T 2 e = some c → fnd (T (27 + c.1.toNat)) a.1 (T 25 c.1.toNat).toNat 0 = -1 ∧ T 25 c.1.toNat < 6) → shL z7 A u A12 → MT f N b ((sAsk f N T 2 e).bind fun c => (sPush T c.1 a.1).bind fun t => some (t, c.2)) u := by
            intro hs h3
            obtain ⟨z18, A19, hk2, h3⟩ := h3
            obtain ⟨m2, q19⟩ := M_ask_2 s12 n2 hk2
            rcases m2 with ⟨m28, c, sc, hz, s19⟩ | ⟨m28, mb2⟩
            · rcases h3 with ⟨_, z24, hz24, z25, hz25, A26, hA, hu⟩ | ⟨c, _⟩
              · have l := sAsk_some sc
                have hs := hs c sc
                have g := hR.2.2.2.2.2.2.1.1 c.1.toNat (by omega)
                have ix : (4 * A 0 47 + z18).toNat = 4 * b + c.1.toNat := by rw [hb, hz]; omega
                rw [ix] at hz24 hz25 hA
                have e24 : z24 = T 25 c.1.toNat := by rw [hz24, q19 14 (by decide), q12' 14 (by decide)]; exact g.2.1
                have r0 : 0 ≤ T 25 c.1.toNat := by rw [← g.2.1]; exact h60 _
                obtain ⟨k, hk⟩ : ∃ k : Nat, T 25 c.1.toNat = (k : Int) := ⟨(T 25 c.1.toNat).toNat, by omega⟩
                have ix2 : (40 * A 0 47 + 10 * z18 + z24).toNat = 40 * b + 10 * c.1.toNat + k := by rw [hb, hz, e24, hk]; omega
                rw [ix2] at hz25 hA
                have e25 : z25 = (k : Int) := by
                  have hz25 : z25 = A19 14 (4 * b + c.1.toNat) := hz25
                  rw [hz25, ← hz24, e24, hk]
                rw [e25, hz7] at hA
                rw [sc]
                show MT f N b ((sPush T c.1 a.1).bind fun t => some (t, c.2)) u
                have spu : sPush T c.1 a.1 = some (stA (stA T (27 + c.1.toNat) k a.1) 25 c.1.toNat ((k : Int) + 1)) := by
                  unfold sPush
                  rw [if_pos hs, hk, Int.toNat_natCast]
                rw [spu]
                refine Or.inl ⟨by rw [hu, hA]; exact m28, _, rfl, ?_, by rw [hu, hA]; exact s19.fr rfl (fun k _ => rfl)⟩
                refine (MR_shut h6 hR (by omega) hk (by omega)).rq ?_
                rw [hu, hA]
                exact ((q19.trans q12').st (by decide)).st (by decide)
              · omega
            · refine Or.inr ⟨?_, mb2.bd (fun c hc => ?_)⟩
              · rcases h3 with ⟨c, _⟩ | ⟨_, hu⟩
                · omega
                · rw [hu]; exact m28
              · cases sPush T c.1 a.1 with
                | none => exact Or.inl rfl
                | some t => exact bad_some (a := (t, c.2)) hc
          rcases pre_2 (P0 := shL z7 A u A12) (P := fun z52 => ((z52 = -1) ∧ shL z7 A u A12) ∨ ((¬ z52 = -1) ∧ ∃ z65 : Int, q_X12_isInRow (4 * (A 0 47) + z52) z7 A12 z65 ∧ (((¬ z65 = 0) ∧ ∃ A69 : St, q_X12_blame 3 (A12 0 4) A12 A69 ∧ shL z7 A u A69) ∨ ((z65 = 0) ∧ ∃ z81 : Int, z81 = A12 14 (4 * (A 0 47) + z52).toNat ∧ (((¬ z81 = 6) ∧ shL z7 A u A12) ∨ ((z81 = 6) ∧ ∃ A92 : St, q_X12_blame 3 (A12 0 4) A12 A92 ∧ shL z7 A u A92)))))) s12 n2 h2 with ⟨hs, h3⟩ | ⟨v, v1, vb, hs, _, _, _, h3⟩
          · have nn : ∀ c, sAsk f N T 2 e = some c → fnd (T (27 + c.1.toNat)) a.1 (T 25 c.1.toNat).toNat 0 = -1 ∧ T 25 c.1.toNat < 6 := fun c sc => by rw [hs] at sc; exact absurd sc (by simp)
            rcases h3 with h3 | ⟨_, h3⟩ | ⟨c, _⟩
            · exact lf nn h3
            · exact lf nn h3
            · exact absurd rfl c
          · rcases h3 with ⟨c, _⟩ | ⟨_, z65, hir, h3⟩
            · exact absurd c v1
            · have ix : (4 * A 0 47 + v).toNat = 4 * b + v.toNat := by rw [hb]; omega
              have g := hR.2.2.2.2.2.2.1.1 v.toNat (by omega)
              have ir := inRow_fnd (by rw [hb]; omega) hir
              have r0 : 0 ≤ T 25 v.toNat := by rw [← g.2.1]; exact h60 _
              have r6 : T 25 v.toNat ≤ 6 := by rw [← g.2.1]; exact h6 _
              have ef : fnd (fun k => A12 15 (10 * (4 * A 0 47 + v).toNat + k)) z7 (A12 14 (4 * A 0 47 + v).toNat).toNat 0 = fnd (T (27 + v.toNat)) a.1 (T 25 v.toNat).toNat 0 := by
                rw [ix, q12' 14 (by decide), g.2.1]
                refine fnd_congr _ _ (fun k _ hk => ?_)
                show A12 15 (10 * (4 * b + v.toNat) + k) = z7 ↔ T (27 + v.toNat) k = a.1
                rw [q12' 15 (by decide), show 10 * (4 * b + v.toNat) + k = 40 * b + 10 * v.toNat + k by omega, g.2.2 k (by omega), hz7]
              rw [ef] at ir
              have no : ¬ (fnd (T (27 + v.toNat)) a.1 (T 25 v.toNat).toNat 0 = -1 ∧ T 25 v.toNat < 6) → Bad f N ((sAsk f N T 2 e).bind fun c => (sPush T c.1 a.1).bind fun t => some (t, c.2)) := by
                intro hn
                rw [hs]
                have : sPush T v a.1 = none := by
                  unfold sPush
                  rw [if_neg hn]
                show Bad f N ((sPush T v a.1).bind fun t => some (t, tEnd f N e))
                rw [this]
                exact Or.inl rfl
              rcases h3 with ⟨c2, A69, hbl, h3⟩ | ⟨c2, z81, hz81, h3⟩
              · have f1 := hbl.2.2.2
                rw [shL_x f1 h3]
                refine Or.inr ⟨f1, no (fun g => ?_)⟩
                rcases ir with ⟨g1, _⟩ | ⟨_, g1⟩
                · exact c2 g1
                · exact g1 g.1
              · rw [ix, q12' 14 (by decide), g.2.1] at hz81
                rcases h3 with ⟨c3, h3⟩ | ⟨c3, A92, hbl, h3⟩
                · refine lf (fun c sc => ?_) h3
                  rw [hs] at sc
                  have sc := Option.some.inj sc
                  rw [← sc]
                  refine ⟨?_, Int.lt_iff_le_and_ne.mpr ⟨r6, fun g => c3 (hz81.trans g)⟩⟩
                  rcases ir with ⟨_, g1⟩ | ⟨g1, _⟩
                  · exact g1
                  · omega
                · have f1 := hbl.2.2.2
                  rw [shL_x f1 h3]
                  exact Or.inr ⟨f1, no (fun g => by omega)⟩
        · exact Or.inr ⟨fl m18, mb1.bd (fun c hc => by rw [bad_ask hc]; exact Or.inl rfl)⟩
      · have e12 := X_wd m8 hwd
        exact Or.inr ⟨fl (by rw [e12]; exact m8), mb.bd (fun c hc => by rw [bad_own hc]; exact Or.inl rfl)⟩
    · exact absurd g c1
  · rcases g with ⟨g, _⟩ | ⟨_, g8, g⟩
    · omega
    · refine Or.inr ⟨g8, Or.inl ?_⟩
      rcases g with g | g
      · exact absurd rfl g
      · exact bad_Shut g
