/-! The reference's doors and boxes. -/
theorem M_door {f : Nat → Int} {N b p : Nat} {A u T : St} (hI : IM A) (h : MS f N b p A) (hR : MR b A T) (hq : q_X12_door 0 A u) : MT f N b (if T 1 1 < 10 then sDoor f N T (tEnd f N p) else none) u := by
  have hb := h.bk
  have eb : (A 0 47).toNat = b := by rw [hb]; exact Int.toNat_natCast b
  have hct : A 4 b = T 1 1 := hR.1.2.1.1
  have r2 : (0 : Int) ≤ A 4 b ∧ A 4 b ≤ 10 := hI 4 b
  obtain ⟨n, hn⟩ : ∃ n : Nat, T 1 1 = (n : Int) := ⟨(T 1 1).toNat, by omega⟩
  obtain ⟨z1, hz1, h2⟩ : ∃ z1 : Int, z1 = A 4 ((A 0 47)).toNat ∧ (((¬ z1 = 10) ∧ (d_X12_door_1 A u 0)) ∨ ((z1 = 10) ∧ (d_X12_door_1 A u 1))) := by
    rcases (hq.1 : tr_r_X12_door 0 A u) with ⟨_, h2⟩ | ⟨c, _⟩
    · exact h2
    · exact absurd c (by decide)
  rw [eb, hct] at hz1
  have d1 : ∀ x, (x = 0 ↔ T 1 1 < 10) → d_X12_door_1 A u x → MT f N b (if T 1 1 < 10 then sDoor f N T (tEnd f N p) else none) u := by
    intro x hx h2
    obtain ⟨_, z8, A9, hc, h2⟩ := (h2 : tr_d_X12_door_1 A u x)
    obtain ⟨q9, g⟩ := M_counts h hc
    rcases h2 with ⟨c1, h2⟩ | ⟨c1, rfl⟩
    · rcases g with ⟨_, x0, s9⟩ | ⟨g, _⟩
      · have lt := hx.mp x0
        rw [if_pos lt]
        obtain ⟨z14, hz14, h2⟩ := h2
        have e14 : z14 = (n : Int) := by rw [hz14, eb, q9 4 (by decide), hct, hn]
        have hNA := hR.1.rq q9
        obtain ⟨z15, A16, hf, A20, hA20, z22, A23, hk1, A27, hA27, z29, hz29, A30, hbr, z34, A35, hk2, A39, hA39, z41, A42, hk3, h2⟩ := h2
        obtain ⟨m, q16⟩ := M_fresh s9 hNA hf
        have ix : (10 * A 0 47 + z14).toNat = 10 * b + n := by rw [hb, e14]; omega
        rw [ix, eb] at h2
        rw [ix] at hA20 hA27 hz29 hA39
        have q20 : rq A20 (stA A 5 (10 * b + n) z15) := by rw [hA20]; exact (q16.trans q9).st (by decide)
        have e208 : A20 0 8 = A16 0 8 := by rw [hA20]; rfl
        have e278 : A27 0 8 = A23 0 8 := by rw [hA27]; rfl
        have e398 : A39 0 8 = A35 0 8 := by rw [hA39]; rfl
        have e29 : z29 = z22 := by rw [hz29, hA27, stA_same, up_same]
        rw [e29] at hbr
        have fin : 1 ≤ A42 0 8 → 1 ≤ u 0 8 := by
          intro g
          rcases h2 with ⟨_, A47, hA, hu⟩ | ⟨c, _⟩
          · rw [hu, hA]; exact g
          · omega
        have f35 : 1 ≤ A35 0 8 → 1 ≤ u 0 8 := by
          intro g
          have e42 := X_num (by omega) hk3
          exact fin (by rw [e42]; omega)
        have f30 : 1 ≤ A30 0 8 → 1 ≤ u 0 8 := by
          intro g
          have e35 := X_ask_0 g hk2
          exact f35 (by rw [e35]; exact g)
        have f27 : 1 ≤ A27 0 8 → 1 ≤ u 0 8 := by
          intro g
          have e30 := X_bars g hbr
          exact f30 (by rw [e30]; exact g)
        have sp : ∀ p, sDoor f N T p = (sNew f N T p).bind fun a => (sAsk f N T 0 a.2).bind fun b => (sAsk f N T 0 b.2).bind fun c => if c.1 = b.1 then none else (sNum f N 1 99 c.2).bind fun d => some (sDoorAdd T a.1 b.1 c.1 d.1, d.2) := fun _ => rfl
        rw [sp]
        rcases m with ⟨m8, a, sa, hw, s16⟩ | ⟨m8, mb⟩
        · have s20 : MS f N b a.2 A20 := by rw [hA20]; exact s16.fr rfl (fun k _ => rfl)
          have n20 : NK0 b A20 T := by rw [hA20]; exact (show NK0 b A16 T from hR.1.1.rq (q16.trans q9))
          obtain ⟨m1, q23⟩ := M_ask_0 s20 n20 hk1
          rw [sa]
          show MT f N b ((sAsk f N T 0 a.2).bind fun b => (sAsk f N T 0 b.2).bind fun c => if c.1 = b.1 then none else (sNum f N 1 99 c.2).bind fun d => some (sDoorAdd T a.1 b.1 c.1 d.1, d.2)) u
          rcases m1 with ⟨m18, b1, sb, hz22, s23⟩ | ⟨m18, mb1⟩
          · have s27 : MS f N b b1.2 A27 := by rw [hA27]; exact s23.fr rfl (fun k _ => rfl)
            have q27 : rq A27 (stA (stA A 5 (10 * b + n) z15) 6 (10 * b + n) z22) := by rw [hA27]; exact (q23.trans q20).st (by decide)
            have n27 : NK0 b A27 T := by rw [hA27]; exact (show NK0 b A23 T from n20.rq q23)
            have bs := sAsk_some sb
            rw [sb]
            show MT f N b ((sAsk f N T 0 b1.2).bind fun c => if c.1 = b1.1 then none else (sNum f N 1 99 c.2).bind fun d => some (sDoorAdd T a.1 b1.1 c.1 d.1, d.2)) u
            rcases M_bars_0 (by rw [hz22]; omega) s27 n27 hbr with ⟨e30, nb⟩ | ⟨g30, tk, ow, fe⟩
            · rw [e30] at hk2
              obtain ⟨m2, q35⟩ := M_ask_0 s27 n27 hk2
              rcases m2 with ⟨m28, c, sc, hz34, s35⟩ | ⟨m28, mb2⟩
              · have ne : ¬ c.1 = b1.1 := by
                  intro ec
                  refine nb ?_
                  unfold sAsk sName at sc
                  by_cases g : tKind f N b1.2 = 1 ∧ isOwn5 (wv f N b1.2) = false
                  · rw [if_pos g] at sc
                    have sc : (if sFind T 0 (wv f N b1.2) = -1 then none else some (sFind T 0 (wv f N b1.2), tEnd f N b1.2)) = some c := sc
                    by_cases g2 : sFind T 0 (wv f N b1.2) = -1
                    · rw [if_pos g2] at sc; exact absurd sc (by simp)
                    · rw [if_neg g2] at sc
                      have sc := Option.some.inj sc
                      exact ⟨g.1, g.2, by rw [hz22, ← ec, ← sc]⟩
                  · rw [if_neg g] at sc; exact absurd sc (by simp)
                have s39 : MS f N b c.2 A39 := by rw [hA39]; exact s35.fr rfl (fun k _ => rfl)
                have q39 : rq A39 (stA (stA (stA (stA A 5 (10 * b + n) z15) 6 (10 * b + n) z22) 7 (10 * b + n) z34) 8 (10 * b + n) 0) := by rw [hA39]; exact ((q35.trans q27).st (by decide)).st (by decide)
                obtain ⟨m3, q42⟩ := M_num s39 hk3
                rw [sc]
                show MT f N b (if c.1 = b1.1 then none else (sNum f N 1 99 c.2).bind fun d => some (sDoorAdd T a.1 b1.1 c.1 d.1, d.2)) u
                rw [if_neg ne]
                rcases m3 with ⟨m38, d, sd, hz41, s42⟩ | ⟨m38, mb3⟩
                · rcases h2 with ⟨c, _⟩ | ⟨_, z48, hz48, A49, hA49, hu⟩
                  · exact absurd m38 c
                  · have e48 : z48 = (n : Int) := by
                      have hz48 : z48 = A42 4 b := hz48
                      rw [hz48, q42 4 (by decide), q39 4 (by decide)]
                      exact hct.trans hn
                    have dr : d.1 ≠ 0 := by
                      unfold sNum at sd
                      by_cases g : tKind f N c.2 = 2 ∧ 1 ≤ nv f N c.2 ∧ nv f N c.2 ≤ 99
                      · rw [if_pos g] at sd
                        have sd := Option.some.inj sd
                        have e : d.1 = nv f N c.2 := by rw [← sd]
                        omega
                      · rw [if_neg g] at sd; exact absurd sd (by simp)
                    rw [e48, hz41] at hA49
                    rw [hz22, hz34] at q39
                    refine Or.inl ⟨by rw [hu, hA49]; exact m38, (sDoorAdd T a.1 b1.1 c.1 d.1, d.2), by rw [sd]; rfl, ?_, by rw [hu, hA49]; exact s42.fr rfl (fun k _ => rfl)⟩
                    refine (MR_door (v := 0) hR hn hw (sNew_some sa).1 ⟨fun _ => dr, fun _ => rfl⟩).rq ?_
                    rw [hu, hA49]
                    exact (((q42.trans q39).st (by decide)).st (by decide)).st (by decide)
                · exact Or.inr ⟨fin m38, mb3.bd (fun c hc => bad_some hc)⟩
              · refine Or.inr ⟨f35 m28, mb2.bd (fun c hc => ?_)⟩
                by_cases g : c.1 = b1.1
                · rw [if_pos g]; exact Or.inl rfl
                · rw [if_neg g, bad_num hc]; exact Or.inl rfl
            · refine Or.inr ⟨f30 g30, Or.inl ?_⟩
              have sn : sName f N b1.2 = some (wv f N b1.2, tEnd f N b1.2) := by unfold sName; rw [if_pos ⟨tk, ow⟩]
              have sa2 : sAsk f N T 0 b1.2 = some (sFind T 0 (wv f N b1.2), tEnd f N b1.2) := by
                unfold sAsk
                rw [sn]
                show (if sFind T 0 (wv f N b1.2) = -1 then none else some (sFind T 0 (wv f N b1.2), tEnd f N b1.2)) = _
                rw [if_neg (by rw [fe, hz22]; omega)]
              rw [sa2]
              show (if sFind T 0 (wv f N b1.2) = b1.1 then none else _) = none
              rw [if_pos (by rw [fe, hz22])]
          · exact Or.inr ⟨f27 (by omega), mb1.bd (fun c hc => by rw [bad_ask hc]; exact Or.inl rfl)⟩
        · have e23 := X_ask_0 (by omega) hk1
          exact Or.inr ⟨f27 (by rw [e278, e23]; omega), mb.bd (fun c hc => by rw [bad_ask hc]; exact Or.inl rfl)⟩
      · exact absurd g c1
    · rcases g with ⟨g, _⟩ | ⟨_, g8, g⟩
      · omega
      · refine Or.inr ⟨g8, ?_⟩
        by_cases lt : T 1 1 < 10
        · rw [if_pos lt]
          rcases g with g | g
          · exact absurd (hx.mpr lt) g
          · exact Or.inl (bad_Door g)
        · rw [if_neg lt]
          exact Or.inl rfl
  rcases h2 with ⟨c, h2⟩ | ⟨c, h2⟩
  · exact d1 0 ⟨fun _ => by omega, fun _ => rfl⟩ h2
  · exact d1 1 ⟨fun g => absurd g (by decide), fun g => by omega⟩ h2
theorem M_box {f : Nat → Int} {N b p : Nat} {A u T : St} (hI : IM A) (h : MS f N b p A) (hR : MR b A T) (hq : q_X12_door 1 A u) : MT f N b (if T 1 1 < 10 then sBox f N T (tEnd f N p) else none) u := by
  have hb := h.bk
  have eb : (A 0 47).toNat = b := by rw [hb]; exact Int.toNat_natCast b
  have hct : A 4 b = T 1 1 := hR.1.2.1.1
  have r2 : (0 : Int) ≤ A 4 b ∧ A 4 b ≤ 10 := hI 4 b
  obtain ⟨n, hn⟩ : ∃ n : Nat, T 1 1 = (n : Int) := ⟨(T 1 1).toNat, by omega⟩
  obtain ⟨z1, hz1, h2⟩ : ∃ z1 : Int, z1 = A 4 ((A 0 47)).toNat ∧ (((¬ z1 = 10) ∧ (d_X12_door_2 A u 0)) ∨ ((z1 = 10) ∧ (d_X12_door_2 A u 1))) := by
    rcases (hq.1 : tr_r_X12_door 1 A u) with ⟨c, _⟩ | ⟨_, h2⟩
    · exact absurd c (by decide)
    · exact h2
  rw [eb, hct] at hz1
  have d1 : ∀ x, (x = 0 ↔ T 1 1 < 10) → d_X12_door_2 A u x → MT f N b (if T 1 1 < 10 then sBox f N T (tEnd f N p) else none) u := by
    intro x hx h2
    obtain ⟨_, z8, A9, hc, h2⟩ := (h2 : tr_d_X12_door_2 A u x)
    obtain ⟨q9, g⟩ := M_counts h hc
    rcases h2 with ⟨c1, h2⟩ | ⟨c1, rfl⟩
    · rcases g with ⟨_, x0, s9⟩ | ⟨g, _⟩
      · have lt := hx.mp x0
        rw [if_pos lt]
        obtain ⟨z14, hz14, h2⟩ := h2
        have e14 : z14 = (n : Int) := by rw [hz14, eb, q9 4 (by decide), hct, hn]
        have hNA := hR.1.rq q9
        obtain ⟨z15, A16, hf, A20, hA20, A21, hw2, z25, A26, hk2, A80, hA80, z83, hz83, A84, hA84, h2⟩ := h2
        obtain ⟨m, q16⟩ := M_fresh s9 hNA hf
        have ix : (10 * A 0 47 + z14).toNat = 10 * b + n := by rw [hb, e14]; omega
        rw [ix, eb] at h2
        rw [ix] at hA20 hA80 hz83 hA84
        have q20 : rq A20 (stA A 5 (10 * b + n) z15) := by rw [hA20]; exact (q16.trans q9).st (by decide)
        have e208 : A20 0 8 = A16 0 8 := by rw [hA20]; rfl
        have e848 : A84 0 8 = A26 0 8 := by rw [hA84, hA80]; rfl
        have e83 : z83 = z25 := by rw [hz83, hA80, stA_same, up_same]
        rw [e83] at hA84
        have fin : 1 ≤ A26 0 8 → 1 ≤ u 0 8 := by
          intro g
          rcases h2 with ⟨_, A31, hA, hu⟩ | ⟨c, _⟩
          · rw [hu, hA]
            show 1 ≤ A84 0 8
            omega
          · omega
        have sp : ∀ p, sBox f N T p = (sNew f N T p).bind fun a => (sOwn f N 12 a.2).bind fun b => (sAsk f N T 0 b).bind fun c => some (sDoorAdd T a.1 c.1 c.1 0, c.2) := fun _ => rfl
        rw [sp]
        rcases m with ⟨m8, a, sa, hw, s16⟩ | ⟨m8, mb⟩
        · have s20 : MS f N b a.2 A20 := by rw [hA20]; exact s16.fr rfl (fun k _ => rfl)
          obtain ⟨m1, q21⟩ := M_wd (k := 12) (by decide) rfl s20 hw2
          rw [sa]
          show MT f N b ((sOwn f N 12 a.2).bind fun b => (sAsk f N T 0 b).bind fun c => some (sDoorAdd T a.1 c.1 c.1 0, c.2)) u
          rcases m1 with ⟨m18, e, se, s21⟩ | ⟨m18, mb1⟩
          · have n0 : NK0 b A21 T := by
              refine NK0.rq ?_ q21
              rw [hA20]
              exact (show NK0 b A16 T from hR.1.1.rq (q16.trans q9))
            obtain ⟨m2, q26⟩ := M_ask_0 s21 n0 hk2
            rw [se]
            show MT f N b ((sAsk f N T 0 e).bind fun c => some (sDoorAdd T a.1 c.1 c.1 0, c.2)) u
            rcases m2 with ⟨m28, c, sc, hz, s26⟩ | ⟨m28, mb2⟩
            · rcases h2 with ⟨c, _⟩ | ⟨_, z32, hz32, A33, hA33, hu⟩
              · exact absurd m28 c
              · have q84 : rq A84 (stA (stA (stA (stA A 5 (10 * b + n) z15) 6 (10 * b + n) z25) 7 (10 * b + n) z25) 8 (10 * b + n) 1) := by
                  rw [hA84, hA80]
                  exact ((((q26.trans q21).trans q20).st (by decide)).st (by decide)).st (by decide)
                have e32 : z32 = (n : Int) := by
                  have hz32 : z32 = A84 4 b := hz32
                  rw [hz32, q84 4 (by decide)]
                  exact hct.trans hn
                rw [e32] at hA33
                rw [hz] at q84
                have s84 : MS f N b c.2 A84 := by rw [hA84, hA80]; exact s26.fr rfl (fun k _ => rfl)
                refine Or.inl ⟨by rw [hu, hA33]; show A84 0 8 = 0; omega, (sDoorAdd T a.1 c.1 c.1 0, c.2), by rw [sc]; rfl, ?_, by rw [hu, hA33]; exact s84.fr rfl (fun k _ => rfl)⟩
                refine (MR_door (v := 1) hR hn hw (sNew_some sa).1 ⟨fun g => absurd g (by decide), fun g => absurd rfl g⟩).rq ?_
                rw [hu, hA33]
                exact ((q84.st (by decide)).st (by decide)).st (by decide)
            · exact Or.inr ⟨fin m28, mb2.bd (fun c hc => bad_some hc)⟩
          · have e26 := X_ask_0 m18 hk2
            exact Or.inr ⟨fin (by rw [e26]; omega), mb1.bd (fun c hc => by rw [bad_ask hc]; exact Or.inl rfl)⟩
        · have e21 := X_wd (by omega) hw2
          have e26 := X_ask_0 (by rw [e21]; omega) hk2
          exact Or.inr ⟨fin (by rw [e26, e21]; omega), mb.bd (fun c hc => by rw [bad_own hc]; exact Or.inl rfl)⟩
      · exact absurd g c1
    · rcases g with ⟨g, _⟩ | ⟨_, g8, g⟩
      · omega
      · refine Or.inr ⟨g8, ?_⟩
        by_cases lt : T 1 1 < 10
        · rw [if_pos lt]
          rcases g with g | g
          · exact absurd (hx.mpr lt) g
          · exact Or.inl (bad_Box g)
        · rw [if_neg lt]
          exact Or.inl rfl
  rcases h2 with ⟨c, h2⟩ | ⟨c, h2⟩
  · exact d1 0 ⟨fun _ => by omega, fun _ => rfl⟩ h2
  · exact d1 1 ⟨fun g => absurd g (by decide), fun g => by omega⟩ h2
