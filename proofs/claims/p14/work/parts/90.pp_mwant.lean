/-! The reference's wants. -/
theorem M_wants {f : Nat → Int} {N b p : Nat} {A u T : St} (hI : IM A) (h : MS f N b p A) (hR : MR b A T) (hq : q_X12_wanting A u) : MT f N b (if T 1 5 < 6 then sWants f N T (tEnd f N p) else none) u := by
  have hb := h.bk
  have eb : (A 0 47).toNat = b := by rw [hb]; exact Int.toNat_natCast b
  have hct : A 22 b = T 1 5 := hR.2.1.1
  have r2 : (0 : Int) ≤ A 22 b ∧ A 22 b ≤ 6 := hI 22 b
  obtain ⟨n, hn⟩ : ∃ n : Nat, T 1 5 = (n : Int) := ⟨(T 1 5).toNat, by omega⟩
  obtain ⟨z1, hz1, h2⟩ := (hq.1 : tr_r_X12_wanting A u)
  rw [eb, hct] at hz1
  have d1 : ∀ x, (x = 0 ↔ T 1 5 < 6) → d_X12_wanting_1 A u x → MT f N b (if T 1 5 < 6 then sWants f N T (tEnd f N p) else none) u := by
    intro x hx h2
    obtain ⟨_, z8, A9, hc, h2⟩ := (h2 : tr_d_X12_wanting_1 A u x)
    obtain ⟨q9, g⟩ := M_counts h hc
    rcases h2 with ⟨c1, h2⟩ | ⟨c1, rfl⟩
    · rcases g with ⟨_, x0, s9⟩ | ⟨g, _⟩
      · have lt := hx.mp x0
        rw [if_pos lt]
        obtain ⟨z14, hz14, h2⟩ := h2
        have e14 : z14 = (n : Int) := by rw [hz14, eb, q9 22 (by decide), hct, hn]
        have hNA := hR.1.rq q9
        have ix : (6 * A 0 47 + z14).toNat = 6 * b + n := by rw [hb, e14]; omega
        have c3 : A 16 b = T 1 3 := hR.1.2.2.2.1.1
        have c4 : A 19 b = T 1 4 := hR.1.2.2.2.2.1
        have r16 : A 16 b ≤ 3 := (hI 16 b).2
        have r19 : A 19 b ≤ 4 := (hI 19 b).2
        have r24 : ∀ k, 0 ≤ A 24 k := fun k => (hI 24 k).1
        have f7 : ∀ A64 : St, 1 ≤ A64 0 8 → d_X12_wanting_7 z14 A A64 u → 1 ≤ u 0 8 := by
          intro A64 g h3
          obtain ⟨z90, A91, hk, A95, hA95, h3⟩ := (h3 : tr_d_X12_wanting_7 z14 A A64 u)
          have e := X_ask_4 g hk
          rcases h3 with ⟨_, hu⟩ | ⟨c, _⟩
          · rw [hu, hA95]
            show 1 ≤ A91 0 8
            rw [e]; exact g
          · rw [e] at c; omega
        have f5 : ∀ (nn : Nat) (i : Int) (A64 : St), 1 ≤ A64 0 8 → d_X12_wanting_5 z14 A u nn i A64 → 1 ≤ u 0 8 := by
          intro nn i A64 g h3
          cases nn with
          | zero => exact h3.elim
          | succ nn =>
            obtain ⟨_, _, h3⟩ := (h3 : tr_d_X12_wanting_5 z14 A u (fun z62 A64 => d_X12_wanting_5 z14 A u nn z62 A64) i A64)
            rcases h3 with ⟨_, h3⟩ | ⟨_, h3⟩
            · exact f7 A64 g h3
            · rcases h3 with ⟨_, h3⟩ | ⟨c, _⟩
              · exact f7 A64 g h3
              · omega
        have f4 : ∀ A52 : St, 1 ≤ A52 0 8 → d_X12_wanting_4 z14 A u A52 → 1 ≤ u 0 8 := by
          intro A52 g h3
          obtain ⟨_, z55, A56, hk, A60, hA60, nn, h3⟩ := (h3 : tr_d_X12_wanting_4 z14 A u A52)
          have e := X_ask_3 g hk
          refine f5 nn _ A60 ?_ h3
          rw [hA60]
          show 1 ≤ A56 0 8
          rw [e]; exact g
        have lp3 : ∀ (v : Int) (nn i : Nat) (zc : Int), i ≤ n → zc = ct (A9 23) (6 * b) v i → d_X12_wanting_3 z14 v A A9 u nn ((6 * b + i : Nat) : Int) zc → (v = -1 ∧ d_X12_wanting_4 z14 A u A9) ∨ (¬ v = -1 ∧ ct (A9 23) (6 * b) v n ≠ 2 ∧ d_X12_wanting_4 z14 A u A9) ∨ (¬ v = -1 ∧ ct (A9 23) (6 * b) v n = 2 ∧ ∃ A48 : St, 1 ≤ A48 0 8 ∧ d_X12_wanting_4 z14 A u A48) := by
          intro v nn
          induction nn with
          | zero => intro i zc _ _ h3; exact h3.elim
          | succ nn ih =>
            intro i zc hi hzc h3
            obtain ⟨_, _, h3⟩ := (h3 : tr_d_X12_wanting_3 z14 v A A9 u (fun z30 z31 => d_X12_wanting_3 z14 v A A9 u nn z30 z31) ((6 * b + i : Nat) : Int) zc)
            rcases h3 with ⟨c, h3⟩ | ⟨c, z103, hz, h3⟩
            · have ei : i = n := by rw [hb, e14] at c; omega
              rw [ei] at hzc
              rcases h3 with ⟨g, h3⟩ | ⟨g, h3⟩
              · exact Or.inl ⟨g, h3⟩
              · rcases h3 with ⟨g2, h3⟩ | ⟨g2, A48, hbl, h3⟩
                · exact Or.inr (Or.inl ⟨g, by rw [← hzc]; exact g2, h3⟩)
                · exact Or.inr (Or.inr ⟨g, by rw [← hzc]; exact g2, A48, hbl.2.2.2, h3⟩)
            · have li : i < n := by rw [hb, e14] at c; omega
              rw [Int.toNat_natCast] at hz
              rcases h3 with ⟨g, h3⟩ | ⟨g, h3⟩
              · obtain ⟨_, h3⟩ := (h3 : tr_d_X12_wanting_8 (fun z30 z31 => d_X12_wanting_3 z14 v A A9 u nn z30 z31) ((6 * b + i : Nat) : Int) zc u 0)
                refine ih (i + 1) (zc + 0) (by omega) ?_ h3
                show zc + 0 = ct (A9 23) (6 * b) v i + (if A9 23 (6 * b + i) = v then 1 else 0)
                rw [if_neg (by rw [← hz]; exact g), hzc]
              · obtain ⟨_, h3⟩ := (h3 : tr_d_X12_wanting_8 (fun z30 z31 => d_X12_wanting_3 z14 v A A9 u nn z30 z31) ((6 * b + i : Nat) : Int) zc u 1)
                refine ih (i + 1) (zc + 1) (by omega) ?_ h3
                show zc + 1 = ct (A9 23) (6 * b) v i + (if A9 23 (6 * b + i) = v then 1 else 0)
                rw [if_pos (by rw [← hz]; exact g), hzc]
        have d2 : ∀ v : Int, d_X12_wanting_2 z14 A A9 u v → (v = -1 ∧ d_X12_wanting_4 z14 A u A9) ∨ (¬ v = -1 ∧ ct (A9 23) (6 * b) v n ≠ 2 ∧ d_X12_wanting_4 z14 A u A9) ∨ (¬ v = -1 ∧ ct (A9 23) (6 * b) v n = 2 ∧ ∃ A48 : St, 1 ≤ A48 0 8 ∧ d_X12_wanting_4 z14 A u A48) := by
          intro v h3
          obtain ⟨_, nn, h3⟩ := (h3 : tr_d_X12_wanting_2 z14 A A9 u v)
          rw [hb] at h3
          exact lp3 v nn 0 0 (by omega) rfl h3
        have n3 := hNA.2.2.2.1
        have sp : ∀ p, sWants f N T p = (sAsk f N T 3 p).bind fun a => if bc (T 12 a.1.toNat) < 2 then ((sAsk f N T 4 a.2).bind fun b => if oAnd (oShr (T 12 a.1.toNat) b.1) 1 = 0 then some (stA (stA T 12 a.1.toNat (oOr (T 12 a.1.toNat) (oShl 1 b.1))) 1 5 (T 1 5 + 1), b.2) else none) else none := fun _ => rfl
        rw [sp]
        rcases pre_3 (P0 := d_X12_wanting_2 z14 A A9 u (-1)) (P := fun v => d_X12_wanting_2 z14 A A9 u v) s9 n3 h2 with ⟨hs, h3⟩ | ⟨v, v1, vb, hs, _, _, _, h3⟩
        · have h3 : d_X12_wanting_2 z14 A A9 u (-1) := by
            rcases h3 with h3 | h3
            · exact h3
            · exact h3
          rw [hs]
          refine Or.inr ⟨?_, Or.inl rfl⟩
          rcases d2 (-1) h3 with ⟨_, h3⟩ | ⟨c, _⟩ | ⟨c, _⟩
          · obtain ⟨_, z55, A56, hk, A60, hA60, nn, h3⟩ := (h3 : tr_d_X12_wanting_4 z14 A u A9)
            have m := (M_ask_3 s9 n3 hk).1
            rw [hs] at m
            rcases m with ⟨_, a, ha, _⟩ | ⟨m8, _⟩
            · exact absurd ha (by simp)
            · refine f5 nn _ A60 ?_ h3
              rw [hA60]; exact m8
          · exact absurd rfl c
          · exact absurd rfl c
        · obtain ⟨pn, hpn⟩ : ∃ pn : Nat, v = (pn : Int) := ⟨v.toNat, by omega⟩
          subst hpn
          have p3 : pn < 3 := by omega
          have w := hR.2.2.2.2.2.2.2.2.2.1 pn p3
          rw [show (T 1 5).toNat = n by omega, ← q9 23 (by decide)] at w
          rw [hs]
          show MT f N b (if bc (T 12 pn) < 2 then ((sAsk f N T 4 (tEnd f N (tEnd f N p))).bind fun b => if oAnd (oShr (T 12 pn) b.1) 1 = 0 then some (stA (stA T 12 pn (oOr (T 12 pn) (oShl 1 b.1))) 1 5 (T 1 5 + 1), b.2) else none) else none) u
          rcases d2 pn h3 with ⟨c, _⟩ | ⟨_, c2, h3⟩ | ⟨_, c2, A48, g48, h3⟩
          · exact absurd c v1
          · have bc2 : bc (T 12 pn) < 2 := by
              have h1 := w.1.2.2
              have h2 := w.2.1
              rw [h2] at c2
              exact Int.lt_iff_le_and_ne.mpr ⟨h1, c2⟩
            rw [if_pos bc2]
            obtain ⟨_, z55, A56, hk, A60, hA60, nn, h3⟩ := (h3 : tr_d_X12_wanting_4 z14 A u A9)
            obtain ⟨m, q56⟩ := M_ask_3 s9 n3 hk
            rw [ix] at hA60
            have q56' := q56.trans q9
            rw [hs] at m
            rcases m with ⟨m8, a, ha, hz55, s56⟩ | ⟨m8, mb⟩
            · have ha := Option.some.inj ha
              subst ha
              have hz55 : z55 = (pn : Int) := hz55
              have s60 : MS f N b (tEnd f N (tEnd f N p)) A60 := by rw [hA60]; exact s56.fr rfl (fun k _ => rfl)
              have n4 : NK4 b A60 T := by rw [hA60]; exact (show NK4 b A56 T from hR.1.2.2.2.2.rq q56')
              have r23 : ∀ k, k < n → A60 23 (6 * b + k) = A 23 (6 * b + k) := by
                intro k hk
                rw [hA60, stA_same, up_ne _ _ (by omega), q56' 23 (by decide)]
              have r23n : A60 23 (6 * b + n) = (pn : Int) := by rw [hA60, stA_same, up_same, hz55]
              have r24' : A60 24 = A 24 := by
                rw [hA60]
                show A56 24 = A 24
                exact q56' 24 (by decide)
              have lp5 : ∀ (nn i : Nat), i ≤ n → (∀ k, k < i → A 23 (6 * b + k) = (pn : Int) → ¬ (tKind f N (tEnd f N (tEnd f N p)) = 1 ∧ isOwn5 (wv f N (tEnd f N (tEnd f N p))) = false ∧ sFind T 4 (wv f N (tEnd f N (tEnd f N p))) = A 24 (6 * b + k))) → d_X12_wanting_5 z14 A u nn ((6 * b + i : Nat) : Int) A60 → (1 ≤ u 0 8 ∧ tKind f N (tEnd f N (tEnd f N p)) = 1 ∧ isOwn5 (wv f N (tEnd f N (tEnd f N p))) = false ∧ ∃ k, k < n ∧ A 23 (6 * b + k) = (pn : Int) ∧ sFind T 4 (wv f N (tEnd f N (tEnd f N p))) = A 24 (6 * b + k)) ∨ ((∀ k, k < n → A 23 (6 * b + k) = (pn : Int) → ¬ (tKind f N (tEnd f N (tEnd f N p)) = 1 ∧ isOwn5 (wv f N (tEnd f N (tEnd f N p))) = false ∧ sFind T 4 (wv f N (tEnd f N (tEnd f N p))) = A 24 (6 * b + k))) ∧ d_X12_wanting_7 z14 A A60 u) := by
                intro nn
                induction nn with
                | zero => intro i _ _ h3; exact h3.elim
                | succ nn ih =>
                  intro i hi hk2 h3
                  obtain ⟨_, _, h3⟩ := (h3 : tr_d_X12_wanting_5 z14 A u (fun z62 A64 => d_X12_wanting_5 z14 A u nn z62 A64) ((6 * b + i : Nat) : Int) A60)
                  rw [ix] at h3
                  rcases h3 with ⟨c, h3⟩ | ⟨c, h3⟩
                  · have ei : n ≤ i := by rw [hb, e14] at c; omega
                    exact Or.inr ⟨fun k hk3 => hk2 k (by omega), h3⟩
                  · have li : i < n := by rw [hb, e14] at c; omega
                    rcases h3 with ⟨c, _⟩ | ⟨_, z77, hz77, z78, hz78, h3⟩
                    · exact absurd s60.ns c
                    · rw [Int.toNat_natCast, r23 i li] at hz77
                      rw [r23n] at hz78
                      have nx : ¬ (A 23 (6 * b + i) = (pn : Int) ∧ (tKind f N (tEnd f N (tEnd f N p)) = 1 ∧ isOwn5 (wv f N (tEnd f N (tEnd f N p))) = false ∧ sFind T 4 (wv f N (tEnd f N (tEnd f N p))) = A 24 (6 * b + i))) → d_X12_wanting_6 (fun z62 A64 => d_X12_wanting_5 z14 A u nn z62 A64) ((6 * b + i : Nat) : Int) u A60 → (1 ≤ u 0 8 ∧ tKind f N (tEnd f N (tEnd f N p)) = 1 ∧ isOwn5 (wv f N (tEnd f N (tEnd f N p))) = false ∧ ∃ k, k < n ∧ A 23 (6 * b + k) = (pn : Int) ∧ sFind T 4 (wv f N (tEnd f N (tEnd f N p))) = A 24 (6 * b + k)) ∨ ((∀ k, k < n → A 23 (6 * b + k) = (pn : Int) → ¬ (tKind f N (tEnd f N (tEnd f N p)) = 1 ∧ isOwn5 (wv f N (tEnd f N (tEnd f N p))) = false ∧ sFind T 4 (wv f N (tEnd f N (tEnd f N p))) = A 24 (6 * b + k))) ∧ d_X12_wanting_7 z14 A A60 u) := by
                        intro hno h3
                        obtain ⟨_, h3⟩ := (h3 : tr_d_X12_wanting_6 (fun z62 A64 => d_X12_wanting_5 z14 A u nn z62 A64) ((6 * b + i : Nat) : Int) u A60)
                        refine ih (i + 1) (by omega) (fun k hk3 g1 g2 => ?_) h3
                        by_cases e : k = i
                        · subst e; exact hno ⟨g1, g2⟩
                        · exact hk2 k (by omega) g1 g2
                      rcases h3 with ⟨c2, h3⟩ | ⟨c2, z81, hz81, A82, hbr, h3⟩
                      · exact nx (fun g => c2 (by rw [hz77, hz78]; exact g.1)) h3
                      · rw [Int.toNat_natCast, r24'] at hz81
                        rcases M_bars_4 (by rw [hz81]; have := r24 (6 * b + i); omega) s60 n4 hbr with ⟨e82, nb⟩ | ⟨g8, tk, ow, fe⟩
                        · rw [e82] at h3
                          exact nx (fun g => nb ⟨g.2.1, g.2.2.1, by rw [hz81]; exact g.2.2.2⟩) h3
                        · obtain ⟨_, h3⟩ := (h3 : tr_d_X12_wanting_6 (fun z62 A64 => d_X12_wanting_5 z14 A u nn z62 A64) ((6 * b + i : Nat) : Int) u A82)
                          exact Or.inl ⟨f5 nn _ A82 g8 h3, tk, ow, i, li, by rw [← hz77, ← hz78]; exact c2, by rw [← hz81]; exact fe⟩
              rw [hb] at h3
              have bi : ∀ c : Int × Nat, sAsk f N T 4 (tEnd f N (tEnd f N p)) = some c → tKind f N (tEnd f N (tEnd f N p)) = 1 ∧ isOwn5 (wv f N (tEnd f N (tEnd f N p))) = false ∧ c.1 = sFind T 4 (wv f N (tEnd f N (tEnd f N p))) := by
                intro c sc
                unfold sAsk sName at sc
                by_cases g : tKind f N (tEnd f N (tEnd f N p)) = 1 ∧ isOwn5 (wv f N (tEnd f N (tEnd f N p))) = false
                · rw [if_pos g] at sc
                  have sc : (if sFind T 4 (wv f N (tEnd f N (tEnd f N p))) = -1 then none else some (sFind T 4 (wv f N (tEnd f N (tEnd f N p))), tEnd f N (tEnd f N (tEnd f N p)))) = some c := sc
                  by_cases g2 : sFind T 4 (wv f N (tEnd f N (tEnd f N p))) = -1
                  · rw [if_pos g2] at sc; exact absurd sc (by simp)
                  · rw [if_neg g2] at sc
                    have sc := Option.some.inj sc
                    exact ⟨g.1, g.2, by rw [← sc]⟩
                · rw [if_neg g] at sc; exact absurd sc (by simp)
              have bt : ∀ c : Int × Nat, sAsk f N T 4 (tEnd f N (tEnd f N p)) = some c → (oAnd (oShr (T 12 pn) c.1) 1 = 0 ↔ ¬ ∃ i : Nat, (i : Int) < T 1 5 ∧ A 23 (6 * b + i) = (pn : Int) ∧ A 24 (6 * b + i) = c.1) := by
                intro c sc
                have l := sAsk_some sc
                obtain ⟨t, et⟩ : ∃ t : Nat, c.1 = (t : Int) := ⟨c.1.toNat, by omega⟩
                have t4 : t < 4 := by omega
                have w2 := w.2.2 t t4
                rw [q9 23 (by decide)] at w2
                have bb := bit_iff (x := T 12 pn) (d := t) ⟨w.1.1, by have := w.1.2.1; omega⟩ (by omega)
                rw [et, bb, ← w2]
                cases (T 12 pn).toNat.testBit t with
                | false => exact ⟨fun _ => by decide, fun _ => rfl⟩
                | true => exact ⟨fun g => absurd g (by decide), fun g => absurd rfl g⟩
              rcases lp5 nn 0 (by omega) (fun k hk => absurd hk (by omega)) h3 with ⟨g8, tk, ow, k, hk3, g1, g2⟩ | ⟨hno, h3⟩
              · refine Or.inr ⟨g8, Or.inl ?_⟩
                cases sc : sAsk f N T 4 (tEnd f N (tEnd f N p)) with
                | none => rfl
                | some c =>
                  show (if oAnd (oShr (T 12 pn) c.1) 1 = 0 then some (stA (stA T 12 pn (oOr (T 12 pn) (oShl 1 c.1))) 1 5 (T 1 5 + 1), c.2) else none) = none
                  have b1 := bi c sc
                  rw [if_neg (fun g => (bt c sc).mp g ⟨k, by omega, g1, by rw [b1.2.2, ← g2]⟩)]
              · obtain ⟨z90, A91, hk4, A95, hA95, h3⟩ := (h3 : tr_d_X12_wanting_7 z14 A A60 u)
                obtain ⟨m2, q91⟩ := M_ask_4 s60 n4 hk4
                rw [ix] at hA95
                rw [eb] at h3
                rcases m2 with ⟨m28, c, sc, hz90, s91⟩ | ⟨m28, mb2⟩
                · rcases h3 with ⟨c, _⟩ | ⟨_, z97, hz97, A101, hA101, hu⟩
                  · exact absurd m28 c
                  · have e97 : z97 = (n : Int) := by
                      rw [hz97, hA95]
                      show A91 22 b = (n : Int)
                      rw [q91 22 (by decide), hA60]
                      show A56 22 b = (n : Int)
                      rw [q56' 22 (by decide), hct, hn]
                    have l := sAsk_some sc
                    have b1 := bi c sc
                    obtain ⟨t, et⟩ : ∃ t : Nat, c.1 = (t : Int) := ⟨c.1.toNat, by omega⟩
                    have t4 : t < 4 := by omega
                    have nob : ¬ ∃ i : Nat, (i : Int) < T 1 5 ∧ A 23 (6 * b + i) = (pn : Int) ∧ A 24 (6 * b + i) = c.1 := by
                      rintro ⟨i, hi, g1, g2⟩
                      exact hno i (by omega) g1 ⟨b1.1, b1.2.1, by rw [g2, b1.2.2]⟩
                    have b0 := (bt c sc).mpr nob
                    have tb : (T 12 pn).toNat.testBit t = false := by
                      have bb := bit_iff (x := T 12 pn) (d := t) ⟨w.1.1, by have := w.1.2.1; omega⟩ (by omega)
                      rw [et] at b0
                      exact bb.mp b0
                    rw [sc]
                    show MT f N b (if oAnd (oShr (T 12 pn) c.1) 1 = 0 then some (stA (stA T 12 pn (oOr (T 12 pn) (oShl 1 c.1))) 1 5 (T 1 5 + 1), c.2) else none) u
                    rw [if_pos b0]
                    have hA101 : A101 = stA A95 22 b ((n : Int) + 1) := by rw [hA101, e97]
                    refine Or.inl ⟨by rw [hu, hA101, hA95]; exact m28, _, rfl, ?_, by rw [hu, hA101, hA95]; exact s91.fr rfl (fun k _ => rfl)⟩
                    have mr := MR_wants hR hn p3 t4 bc2 tb
                    rw [← et] at mr
                    refine mr.rq ?_
                    rw [hu, hA101, hA95, hz90]
                    have q60 : rq A60 (stA A 23 (6 * b + n) (pn : Int)) := by rw [hA60, hz55]; exact q56'.st (by decide)
                    exact ((q91.trans q60).st (by decide)).st (by decide)
                · refine Or.inr ⟨?_, mb2.bd (fun c hc => ?_)⟩
                  · rcases h3 with ⟨_, hu⟩ | ⟨c, _⟩
                    · rw [hu, hA95]; exact m28
                    · omega
                  · by_cases g : oAnd (oShr (T 12 pn) c.1) 1 = 0
                    · rw [if_pos g]; exact bad_some hc
                    · rw [if_neg g]; exact Or.inl rfl
            · refine Or.inr ⟨f5 nn _ A60 (by rw [hA60]; exact m8) h3, ?_⟩
              have mb2 : tKind f N (tEnd f N (tEnd f N p)) = 4 := by
                rcases mb with mb | ⟨a, ha, mb⟩
                · exact absurd mb (by simp)
                · have ha := Option.some.inj ha
                  rw [← ha] at mb
                  exact mb
              rw [bad_ask mb2]
              exact Or.inl rfl
          · refine Or.inr ⟨f4 A48 g48 h3, Or.inl ?_⟩
            have h2 := w.2.1
            rw [h2] at c2
            rw [if_neg (by rw [c2]; decide)]
      · exact absurd g c1
    · rcases g with ⟨g, _⟩ | ⟨_, g8, g⟩
      · omega
      · refine Or.inr ⟨g8, ?_⟩
        by_cases lt : T 1 5 < 6
        · rw [if_pos lt]
          rcases g with g | g
          · exact absurd (hx.mpr lt) g
          · exact Or.inl (bad_Wants g)
        · rw [if_neg lt]
          exact Or.inl rfl
  rcases h2 with ⟨c, h2⟩ | ⟨c, h2⟩
  · exact d1 0 ⟨fun _ => by omega, fun _ => rfl⟩ h2
  · exact d1 1 ⟨fun g => absurd g (by decide), fun g => by omega⟩ h2
