/-! A whole town: the tests of its bars are worth the same. -/
theorem M_barC {f : Nat → Int} {N b p : Nat} {A u T : St} {a : St × Nat} (hu : u 0 8 = 0) (hI : IM A) (h : MS f N b p A) (hR : MR b A T) (hT : T 19 2 ≤ (p : Int)) (hT0 : 0 ≤ T 19 2) (hw : MBw b A T) (hq : q_X12_barring A u) (hs : (if T 1 7 < 6 then sBar f N T (tEnd f N p) else none) = some a) : MBw b u a.1 ∧ 0 ≤ a.1 19 2 := by
  have hb := h.bk
  have eb : (A 0 47).toNat = b := by rw [hb]; exact Int.toNat_natCast b
  have hct : A 29 b = T 1 7 := hR.2.1.2.2
  have r2 : (0 : Int) ≤ A 29 b ∧ A 29 b ≤ 6 := hI 29 b
  obtain ⟨n, hn⟩ : ∃ n : Nat, T 1 7 = (n : Int) := ⟨(T 1 7).toNat, by omega⟩
  obtain ⟨z1, hz1, h2⟩ := (hq.1 : tr_r_X12_barring A u)
  have lt : T 1 7 < 6 := by
    by_cases g : T 1 7 < 6
    · exact g
    · rw [if_neg g] at hs; exact absurd hs (by simp)
  rw [if_pos lt] at hs
  have d1 : ∀ x, d_X12_barring_1 A u x → MBw b u a.1 ∧ 0 ≤ a.1 19 2 := by
    intro x h2
    obtain ⟨_, z8, A9, hc, h2⟩ := (h2 : tr_d_X12_barring_1 A u x)
    have k9 : KA A A9 := KA.fr hc.2.2.1 rfl rfl
    obtain ⟨q9, g⟩ := M_counts h hc
    rcases h2 with ⟨c1, h2⟩ | ⟨c1, e9⟩
    · rcases g with ⟨_, x0, s9⟩ | ⟨g, _⟩
      · obtain ⟨z14, hz14, h2⟩ := h2
        have e14 : z14 = (n : Int) := by rw [hz14, eb, q9 29 (by decide), hct, hn]
        have hNA := hR.1.rq q9
        have ix : (6 * A 0 47 + z14).toNat = 6 * b + n := by rw [hb, e14]; omega
        have n1 := hNA.2.1
        have f5 : ∀ A76 : St, 1 ≤ A76 0 8 → d_X12_barring_5 z14 A u A76 → 1 ≤ u 0 8 := by
          intro A76 g h3
          obtain ⟨_, A80, e, h3⟩ := (h3 : tr_d_X12_barring_5 z14 A u A76)
          rcases h3 with ⟨_, hu⟩ | ⟨c, _⟩
          · rw [hu, e]; exact g
          · omega
        have f4 : ∀ A39 : St, 1 ≤ A39 0 8 → d_X12_barring_4 z14 A u A39 → 1 ≤ u 0 8 := by
          intro A39 g h3
          obtain ⟨_, z41, A42, hk, A46, e46, A47, hwd, A51, e51, h3⟩ := (h3 : tr_d_X12_barring_4 z14 A u A39)
          have e1 := X_ask_1 g hk
          have g46 : 1 ≤ A46 0 8 := by rw [e46, e1]; exact g
          have e2 := X_wd g46 hwd
          rcases h3 with ⟨_, h3⟩ | ⟨c, _⟩
          · refine f5 A51 ?_ h3
            rw [e51, e2]; exact g46
          · rw [e2] at c; omega
        have sp : ∀ p, sBar f N T p = (sAsk f N T 1 p).bind fun a => if T 10 a.1.toNat = 0 then none else (sOwn f N 15 a.2).bind fun e => (sTestN f N 8 T e).bind fun b => some (sBarAdd b.1 a.1 (T 19 2) (b.1 19 2), b.2) := fun _ => rfl
        rw [sp] at hs
        have d4 : d_X12_barring_4 z14 A u A9 → MBw b u a.1 ∧ 0 ≤ a.1 19 2 := by
          intro h3
          obtain ⟨_, z41, A42, hk, A46, e46, A47, hwd, A51, e51, h3⟩ := (h3 : tr_d_X12_barring_4 z14 A u A9)
          rw [ix] at e46 e51
          obtain ⟨m, q42⟩ := M_ask_1 s9 n1 hk
          have k42 : KA A9 A42 := KA.fr hk.2.2.1 rfl rfl
          have k47 : KA A46 A47 := KA.fr hwd.2.2.1 rfl rfl
          have k46 : KA A42 A46 := by rw [e46]; exact ⟨rfl, rfl, rfl, rfl, rfl⟩
          obtain ⟨x31, x32, x33, x34, x46⟩ := ((k9.trans k42).trans k46).trans k47
          have e518 : A51 0 8 = A47 0 8 := by rw [e51]; rfl
          have f47 : 1 ≤ A47 0 8 → 1 ≤ u 0 8 := by
            intro g
            rcases h3 with ⟨_, h3⟩ | ⟨c, _⟩
            · exact f5 A51 (by omega) h3
            · omega
          rcases m with ⟨m8, a', sa, hz41, s42⟩ | ⟨m8, mb⟩
          · rw [sa] at hs
            have hs : (if T 10 a'.1.toNat = 0 then none else (sOwn f N 15 a'.2).bind fun e => (sTestN f N 8 T e).bind fun b => some (sBarAdd b.1 a'.1 (T 19 2) (b.1 19 2), b.2)) = some a := hs
            have s46 : MS f N b a'.2 A46 := by rw [e46]; exact s42.fr rfl (fun k _ => rfl)
            by_cases t10 : T 10 a'.1.toNat = 0
            · rw [if_pos t10] at hs; exact absurd hs (by simp)
            · rw [if_neg t10] at hs
              obtain ⟨m1, q47⟩ := M_wd (k := 15) (by decide) rfl s46 hwd
              rcases m1 with ⟨m18, e, se, s47⟩ | ⟨m18, mb1⟩
              · rw [se] at hs
                have hs : ((sTestN f N 8 T e).bind fun b => some (sBarAdd b.1 a'.1 (T 19 2) (b.1 19 2), b.2)) = some a := hs
                have s51 : MS f N b e A51 := by rw [e51]; exact s47.fr rfl (fun k _ => rfl)
                have pa : tEnd f N p ≤ a'.2 := by rw [pos_ask sa]; exact tEnd_ge
                have pe : a'.2 + 1 ≤ e := pos_own (s46.le) se
                have pp : p ≤ tEnd f N p := tEnd_ge
                rcases h3 with ⟨c, _⟩ | ⟨_, A71, hre, h3⟩
                · exact absurd m18 c
                · obtain ⟨hI71, A80, e80, h3⟩ := (h3 : tr_d_X12_barring_5 z14 A u A71)
                  rw [ix] at e80
                  rcases h3 with ⟨c, hu'⟩ | ⟨c71, z97, hz97, A98, e98, hu'⟩
                  · exfalso
                    rw [hu', e80] at hu
                    exact c hu
                  · have z46 : A51 0 46 = A 0 46 := by rw [e51]; exact x46
                    obtain ⟨c, R, C, sc, ew, ec, sem⟩ := M_readsC (T := T) c71 s51 (by rw [z46]; exact hw.1) (by omega) (by omega) hre
                    rw [sc] at hs
                    have hs := Option.some.inj hs
                    rw [← hs]
                    show MBw b u (sBarAdd c.1 a'.1 (T 19 2) (c.1 19 2)) ∧ 0 ≤ sBarAdd c.1 a'.1 (T 19 2) (c.1 19 2) 19 2
                    rw [ec]
                    obtain ⟨w1, w2, w3⟩ := ew
                    rw [z46] at w1 w2 w3
                    have r33 : u 33 = A71 33 := by rw [hu', e98, e80]; rfl
                    have r34 : u 34 = A71 34 := by rw [hu', e98, e80]; rfl
                    have r46 : u 0 46 = A71 0 46 := by rw [hu', e98, e80]; rfl
                    have r31 : u 31 = A71 31 := by rw [hu', e98, e80]; rfl
                    have r32 : u 32 = up (A71 32) (6 * b + n) (A71 0 46) := by rw [hu', e98, e80]; rfl
                    have y31 : A71 31 = A51 31 := hre.2.2.1.1 31 (by decide) rfl
                    have y32 : A71 32 = A51 32 := hre.2.2.1.1 32 (by decide) rfl
                    have l71 : A71 0 46 ≤ 1600 := (hI71 0 46).2
                    have z33 : A51 33 = A 33 := by rw [e51]; exact x33
                    have z34 : A51 34 = A 34 := by rw [e51]; exact x34
                    rw [z33, z34] at w2
                    refine ⟨MBw.add hw hn hT0 (by omega) (r46.trans w1) ?_ ?_ (fun k hk => ?_) (fun i hi => ?_) sem, ?_⟩
                    · rw [r31, y31, e51]
                      show up (A47 31) (6 * b + n) (A 0 46) = _
                      rw [x31]
                    · rw [r32, y32, w1, e51]
                      show up (A47 32) (6 * b + n) _ = _
                      rw [x32]
                    · rw [r33, r34]
                      exact w2 k hk
                    · rw [r33, r34]
                      exact w3 i hi
                    · show 0 ≤ apT T C 19 2
                      rw [apT_sz]
                      omega
              · exact absurd (f47 m18) (by omega)
          · have g46 : 1 ≤ A46 0 8 := by rw [e46]; exact m8
            have e2 := X_wd g46 hwd
            exact absurd (f47 (by rw [e2]; exact g46)) (by omega)
        have d3 : d_X12_barring_3 z14 A A9 u (-1) → MBw b u a.1 ∧ 0 ≤ a.1 19 2 := by
          intro h3
          obtain ⟨_, h3⟩ := (h3 : tr_d_X12_barring_3 z14 A A9 u (-1))
          rcases h3 with ⟨_, h3⟩ | ⟨c, _⟩
          · exact d4 h3
          · exact absurd rfl c
        rcases pre_1 (P0 := d_X12_barring_2 z14 A A9 u) (P := fun v => d_X12_barring_3 z14 A A9 u v) s9 n1 h2 with ⟨_, h3⟩ | ⟨v, v1, _, _, _, _, _, h3⟩
        · rcases h3 with h3 | h3
          · exact d3 h3
          · exact d3 h3
        · obtain ⟨_, h3⟩ := (h3 : tr_d_X12_barring_3 z14 A A9 u v)
          rcases h3 with ⟨c, _⟩ | ⟨_, z33, _, h3⟩
          · exact absurd c v1
          · rcases h3 with ⟨_, h3⟩ | ⟨_, A35, hbl, h3⟩
            · exact d4 h3
            · exact absurd (f4 A35 hbl.2.2.2 h3) (by omega)
      · exact absurd g c1
    · rcases g with ⟨g, _⟩ | ⟨_, g8, _⟩
      · omega
      · rw [e9] at hu; omega
  rcases h2 with ⟨_, h2⟩ | ⟨_, h2⟩
  · exact d1 0 h2
  · exact d1 1 h2
def KB (T : St) (r : Option (St × Nat)) : Prop := ∀ a, r = some a → KT T a.1
theorem KB.no {T : St} : KB T none := fun a h => absurd h (by simp)
theorem KB.so {T t : St} {e : Nat} (h : KT T t) : KB T (some (t, e)) := fun a g => by rw [← Option.some.inj g]; exact h
theorem KB.bn {T : St} {α : Type} {r : Option α} {k : α → Option (St × Nat)} (hk : ∀ a, KB T (k a)) : KB T (r.bind k) := by
  cases r with
  | none => exact KB.no
  | some a => exact hk a
theorem KB.if {T : St} {r r' : Option (St × Nat)} {c : Prop} [Decidable c] (h : KB T r) (g : KB T r') : KB T (if c then r else r') := by
  split
  · exact h
  · exact g
theorem KB_stmt {f : Nat → Int} {N p : Nat} {T : St} (h : ¬ tow f N p 8) : KB T (sStmt f N T p) := by
  unfold sStmt
  by_cases tk : tKind f N p ≠ 1
  · rw [if_pos tk]; exact KB.no
  · rw [if_neg tk]
    refine KB.if (KB.if ?_ KB.no) (KB.if (KB.if ?_ KB.no) (KB.if (KB.if ?_ KB.no) (KB.if (KB.if ?_ KB.no) (KB.if (KB.if ?_ KB.no) (KB.if (KB.if ?_ KB.no) (KB.if (KB.if ?_ KB.no) (KB.if (KB.if ?_ KB.no) ?_)))))))
    · exact KB.bn (fun a => KB.so ⟨rfl, rfl, rfl, rfl, rfl⟩)
    · refine KB.bn (fun a => KB.bn (fun b => KB.bn (fun c => ?_)))
      exact KB.if KB.no (KB.bn (fun d => KB.so ⟨rfl, rfl, rfl, rfl, rfl⟩))
    · exact KB.bn (fun a => KB.bn (fun b => KB.bn (fun c => KB.so ⟨rfl, rfl, rfl, rfl, rfl⟩)))
    · exact KB.bn (fun a => KB.bn (fun b => KB.bn (fun c => KB.so ⟨rfl, rfl, rfl, rfl, rfl⟩)))
    · exact KB.bn (fun a => KB.bn (fun b => KB.bn (fun c => KB.so ⟨rfl, rfl, rfl, rfl, rfl⟩)))
    · exact KB.bn (fun a => KB.bn (fun b => KB.bn (fun c => KB.so ⟨rfl, rfl, rfl, rfl, rfl⟩)))
    · refine KB.bn (fun a => KB.if (KB.bn (fun b => KB.if (KB.so ⟨rfl, rfl, rfl, rfl, rfl⟩) KB.no)) KB.no)
    · exact KB.bn (fun a => KB.bn (fun b => KB.bn (fun c => KB.so ⟨rfl, rfl, rfl, rfl, rfl⟩)))
    · by_cases e8 : wv f N p = own5 8
      · exact absurd ⟨by omega, e8⟩ h
      · rw [if_neg e8]
        refine KB.if ?_ (KB.if ?_ (KB.if ?_ KB.no))
        · exact KB.bn (fun a => KB.bn (fun b => KB.if (KB.so ⟨rfl, rfl, rfl, rfl, rfl⟩) KB.no))
        · refine KB.bn (fun a => KB.bn (fun b => KB.bn (fun c => ?_)))
          intro t ht
          unfold sPush at ht
          by_cases g : fnd (T (27 + c.1.toNat)) a.1 (T 25 c.1.toNat).toNat 0 = -1 ∧ T 25 c.1.toNat < 6
          · rw [if_pos g] at ht
            have ht := Option.some.inj ht
            rw [← ht]
            refine ⟨?_, ?_, ?_, ?_, ?_⟩
            · show stA (stA T (27 + c.1.toNat) (T 25 c.1.toNat).toNat a.1) 25 c.1.toNat (T 25 c.1.toNat + 1) 1 7 = T 1 7
              rw [stA_ne _ _ (by omega), stA_ne _ _ (by omega)]
            · show stA (stA T (27 + c.1.toNat) (T 25 c.1.toNat).toNat a.1) 25 c.1.toNat (T 25 c.1.toNat + 1) 17 = T 17
              rw [stA_ne _ _ (by omega), stA_ne _ _ (by omega)]
            · show stA (stA T (27 + c.1.toNat) (T 25 c.1.toNat).toNat a.1) 25 c.1.toNat (T 25 c.1.toNat + 1) 18 = T 18
              rw [stA_ne _ _ (by omega), stA_ne _ _ (by omega)]
            · show stA (stA T (27 + c.1.toNat) (T 25 c.1.toNat).toNat a.1) 25 c.1.toNat (T 25 c.1.toNat + 1) 19 = T 19
              rw [stA_ne _ _ (by omega), stA_ne _ _ (by omega)]
            · show stA (stA T (27 + c.1.toNat) (T 25 c.1.toNat).toNat a.1) 25 c.1.toNat (T 25 c.1.toNat + 1) 20 = T 20
              rw [stA_ne _ _ (by omega), stA_ne _ _ (by omega)]
          · rw [if_neg g] at ht
            exact absurd ht (by simp)
        · exact KB.bn (fun a => KB.if (KB.so ⟨rfl, rfl, rfl, rfl, rfl⟩) KB.no)
theorem M_statementC {f : Nat → Int} {N b p : Nat} {A u T : St} {a : St × Nat} (hu : u 0 8 = 0) (hI : IM A) (h : MS f N b p A) (hR : MR b A T) (hT : T 19 2 ≤ (p : Int)) (hT0 : 0 ≤ T 19 2) (hw : MBw b A T) (hq : q_X12_statement A u) (hs : sSt f N T p = some a) : MBw b u a.1 ∧ 0 ≤ a.1 19 2 := by
  obtain ⟨a', s1, s2⟩ : ∃ a', sStmt f N T p = some a' ∧ a.1 = a'.1 := by
    unfold sSt at hs
    cases hc : sStmt f N T p with
    | none => rw [hc] at hs; exact absurd hs (by simp)
    | some a' =>
      rw [hc] at hs
      have hs : ((sSign f N 59 a'.2).bind fun e => some (a'.1, e)) = some a := hs
      cases hd : sSign f N 59 a'.2 with
      | none => rw [hd] at hs; exact absurd hs (by simp)
      | some e =>
        rw [hd] at hs
        have hs := Option.some.inj hs
        exact ⟨a', rfl, by rw [← hs]⟩
  rw [s2]
  have st1 : ∀ C : St, d_X12_statement_1 u C → C 0 8 = 0 ∧ KA C u := by
    intro C h3
    obtain ⟨_, h3⟩ := (h3 : tr_d_X12_statement_1 u C)
    rcases h3 with ⟨c, e⟩ | ⟨c, A62, hm, e⟩
    · rw [e] at hu; exact absurd hu c
    · rw [e]; exact ⟨c, KA.fr hm.2.2.1 rfl rfl⟩
  have non : ∀ C : St, ¬ tow f N p 8 → KA A C → d_X12_statement_1 u C → MBw b u a'.1 ∧ 0 ≤ a'.1 19 2 := by
    intro C n8 k h3
    have kt := KB_stmt (T := T) n8 a' s1
    refine ⟨hw.cg (k.trans (st1 C h3).2) kt, ?_⟩
    rw [kt.2.2.2.1]
    exact hT0
  have oth : ∀ B : St, q_X12_others A B → d_X12_statement_1 u B → MBw b u a'.1 ∧ 0 ≤ a'.1 19 2 := by
    intro B hq h3
    obtain ⟨z0, i0, h2⟩ := (hq.1 : tr_r_X12_others A B)
    have i0 := h.isW (WR_own10 : WR 1936225652 677139) i0
    have nn : ∀ k, k < 26 → k ≠ 8 → tow f N p k → ¬ tow f N p 8 := fun k hk ne g => tow_ne g hk (by decide) ne
    rcases h2 with ⟨_, z1, i1, h2⟩ | ⟨c0, C, hs, e⟩
    · have i1 := h.isW (WR_own11 : WR 1819243380 675308) i1
      rcases h2 with ⟨_, z2, i2, h2⟩ | ⟨c1, C, hs, e⟩
      · have i2 := h.isW (WR_own5 : WR 499967946343 7808276) i2
        rcases h2 with ⟨_, z3, i3, h2⟩ | ⟨c2, C, hs, e⟩
        · have i3 := h.isW (WR_own6 : WR 512735736947 20592695) i3
          rcases h2 with ⟨_, z4, i4, h2⟩ | ⟨c3, C, hs, e⟩
          · have i4 := h.isW (WR_own7 : WR 1836413812 675501) i4
            rcases h2 with ⟨_, z5, i5, h2⟩ | ⟨c4, C, hs, e⟩
            · have i5 := h.isW (WR_own8 : WR 6447474 18466) i5
              rcases h2 with ⟨_, C, hs, e⟩ | ⟨c5, C, hs, e⟩
              · have := (st1 B h3).1
                rw [e] at this
                have f1 := hs.2.2.2
                omega
              · rcases i5 with ⟨_, g⟩ | ⟨g, _⟩
                · rw [sStmt_8 g.1 g.2] at s1
                  have b8 := st1 B h3
                  rw [e] at b8
                  have g2 := M_barC b8.1 hI h hR hT hT0 hw hs s1
                  exact ⟨g2.1.cg b8.2 ⟨rfl, rfl, rfl, rfl, rfl⟩, g2.2⟩
                · exact absurd g c5
            · rcases i4 with ⟨_, g⟩ | ⟨g, _⟩
              · rw [e] at h3
                exact non C (nn 7 (by decide) (by decide) g) (KA.fr hs.2.2.1 rfl rfl) h3
              · exact absurd g c4
          · rcases i3 with ⟨_, g⟩ | ⟨g, _⟩
            · rw [e] at h3
              exact non C (nn 6 (by decide) (by decide) g) (KA.fr hs.2.2.1 rfl rfl) h3
            · exact absurd g c3
        · rcases i2 with ⟨_, g⟩ | ⟨g, _⟩
          · rw [e] at h3
            exact non C (nn 5 (by decide) (by decide) g) (KA.fr hs.2.2.1 rfl rfl) h3
          · exact absurd g c2
      · rcases i1 with ⟨_, g⟩ | ⟨g, _⟩
        · rw [e] at h3
          exact non C (nn 11 (by decide) (by decide) g) (KA.fr hs.2.2.1 rfl rfl) h3
        · exact absurd g c1
    · rcases i0 with ⟨_, g⟩ | ⟨g, _⟩
      · rw [e] at h3
        exact non C (nn 10 (by decide) (by decide) g) (KA.fr hs.2.2.1 rfl rfl) h3
      · exact absurd g c0
  have nn : ∀ k, k < 26 → k ≠ 8 → tow f N p k → ¬ tow f N p 8 := fun k hk ne g => tow_ne g hk (by decide) ne
  obtain ⟨z0, i0, h2⟩ := (hq.1 : tr_r_X12_statement A u)
  have i0 := h.isW (WR_own0 : WR 482854658917 5342608) i0
  rcases h2 with ⟨_, z1, i1, h2⟩ | ⟨c0, C, hs, h3⟩
  · have i1 := h.isW (WR_own1 : WR 1685024626 605668) i1
    rcases h2 with ⟨_, z2, i2, h2⟩ | ⟨c1, C, hs, h3⟩
    · have i2 := h.isW (WR_own2 : WR 6451064 25058) i2
      rcases h2 with ⟨_, z3, i3, h2⟩ | ⟨c2, C, hs, h3⟩
      · have i3 := h.isW (WR_own3 : WR 7038329 25771) i3
        rcases h2 with ⟨_, z4, i4, h2⟩ | ⟨c3, C, hs, h3⟩
        · have i4 := h.isW (WR_own4 : WR 123581014175598 486131888) i4
          rcases h2 with ⟨_, z5, i5, h2⟩ | ⟨c4, C, hs, h3⟩
          · have i5 := h.isW (WR_own9 : WR 6840691 19496) i5
            rcases h2 with ⟨_, C, hs, h3⟩ | ⟨c5, C, hs, h3⟩
            · exact oth C hs h3
            · rcases i5 with ⟨_, g⟩ | ⟨g, _⟩
              · exact non C (nn 9 (by decide) (by decide) g) (KA.fr hs.2.2.1 rfl rfl) h3
              · exact absurd g c5
          · rcases i4 with ⟨_, g⟩ | ⟨g, _⟩
            · exact non C (nn 4 (by decide) (by decide) g) (KA.fr hs.2.2.1 rfl rfl) h3
            · exact absurd g c4
        · rcases i3 with ⟨_, g⟩ | ⟨g, _⟩
          · exact non C (nn 3 (by decide) (by decide) g) (KA.fr hs.2.2.1 rfl rfl) h3
          · exact absurd g c3
      · rcases i2 with ⟨_, g⟩ | ⟨g, _⟩
        · exact non C (nn 2 (by decide) (by decide) g) (KA.fr hs.2.2.1 rfl rfl) h3
        · exact absurd g c2
    · rcases i1 with ⟨_, g⟩ | ⟨g, _⟩
      · exact non C (nn 1 (by decide) (by decide) g) (KA.fr hs.2.2.1 rfl rfl) h3
      · exact absurd g c1
  · rcases i0 with ⟨_, g⟩ | ⟨g, _⟩
    · exact non C (nn 0 (by decide) (by decide) g) (KA.fr hs.2.2.1 rfl rfl) h3
    · exact absurd g c0
theorem M_townLC {f : Nat → Int} {N b : Nat} {A0 u : St} {z : Int} (hz0 : 0 ≤ z) : ∀ (nn i : Nat) (A T : St) (p : Nat), MS f N b p A → MR b A T → T 19 2 ≤ (p : Int) → i ≤ p → 0 ≤ T 19 2 → MBw b A T → d_X12_town_1 A0 z u nn (i : Int) A → ∃ a, sTownL f N (1601 - i) i T p = some a ∧ MBc b u a.2 := by
  intro nn
  induction nn with
  | zero => intro i A T p _ _ _ _ _ _ hq; exact hq.elim
  | succ nn ih =>
    intro i A T p h hR hT hip hT0 hw hq
    have N16 : N ≤ 1600 := h.1.2.1
    have hpN := h.le
    obtain ⟨k, hk⟩ : ∃ k, 1601 - i = k + 1 := ⟨1600 - i, by omega⟩
    obtain ⟨hI, _, hq⟩ := (hq : tr_d_X12_town_1 A0 z u (fun z5 A7 => d_X12_town_1 A0 z u nn z5 A7) i A)
    rw [hk]
    rcases hq with ⟨c, _⟩ | ⟨_, hq⟩
    · exact absurd h.ns c
    · rcases hq with ⟨c0, hq⟩ | ⟨c0, A19, hst, z24, hz24, hq⟩
      · have tk : tKind f N p = 0 := by rw [← h.sg]; exact c0
        have e : sTownL f N (k + 1) i T p = some (i, T) := by
          show (if tKind f N p = 0 then some (i, T) else _) = _
          rw [if_pos tk]
        rw [e]
        rcases (hq : tr_d_X12_town_2 (i : Int) A0 A z u) with ⟨_, A27, e27, _, hu⟩ | ⟨c, _⟩
        · refine ⟨(i, T), rfl, fun j hj => (hw.c j hj).cg ?_ ?_ ?_ ?_ rfl rfl rfl rfl⟩
          · rw [hu, e27]; rfl
          · rw [hu, e27]; rfl
          · rw [hu, e27]; rfl
          · rw [hu, e27]; rfl
        · exact absurd (Int.le_of_eq h.ns) c
      · have tk : ¬ tKind f N p = 0 := by rw [← h.sg]; exact c0
        rw [sTownL_st tk]
        have e24 : z24 = ((i + 1 : Nat) : Int) := by
          rw [hz24]
          exact oWrap_id ⟨by omega, by omega⟩
        rcases M_statement hI h hR hT hst with ⟨f0, a, sa, mr, ms, cd, pa⟩ | ⟨f1, bd⟩
        · rw [sa]
          show ∃ c, sTownL f N k (i + 1) a.1 a.2 = some c ∧ MBc b u c.2
          rw [show k = 1601 - (i + 1) by omega]
          rw [e24] at hq
          have sc := M_statementC f0 hI h hR hT hT0 hw hst sa
          exact ih (i + 1) A19 a.1 a.2 ms mr cd (by omega) sc.2 sc.1 hq
        · have := town1_f f1 hq
          omega
theorem M_townC {f : Nat → Int} {N b : Nat} {A u T : St} {z : Int} (hz0 : 0 ≤ z) (hN : A 0 1 = (N : Int)) (h16 : N ≤ 1600) (hf : ∀ k, k < N → f k = A 1 k) (hb : -(A 0 12) + 1 = (b : Int)) (hb1 : b ≤ 1) (hq : q_X12_town A z u) : ∃ a, sTown f N T = some a ∧ MBc b u a.2 := by
  obtain ⟨A1, e1, A2, ha, nn, hq⟩ := (hq.1 : tr_r_X12_town A z u)
  rw [hb, Int.toNat_natCast] at e1
  have hG : MG f N b 0 A1 := by
    rw [e1]
    exact ⟨⟨hN, h16, hf⟩, rfl, hb1, rfl, by omega, rfl⟩
  obtain ⟨mo, q⟩ := hG.ahead ha
  unfold sTown
  rcases mo with ⟨t4, f1⟩ | ⟨_, ms⟩
  · have := town1_f f1 hq
    omega
  · have mr : MR b A2 (sClear T) := by
      refine MR.rq (MR_0 ?_) q
      rw [e1]
      exact ⟨up_same _ _ _, up_same _ _ _, up_same _ _ _, up_same _ _ _, up_same _ _ _, up_same _ _ _, up_same _ _ _, up_same _ _ _⟩
    have a46 : A2 0 46 = 0 := by
      rw [ha.2.2.1.2 46 rfl, e1]
      rfl
    exact M_townLC hz0 nn 0 A2 (sClear T) 0 ms mr (by decide : (0 : Int) ≤ 0) (Nat.le_refl 0) (by decide : (0 : Int) ≤ 0) ⟨by rw [a46]; decide, fun k hk => absurd (show (k : Int) < 0 from hk) (by omega)⟩ hq
