/-! The reference's statements. -/
/-- a statement's answer -/
def MT (f : Nat → Int) (N b : Nat) (r : Option (St × Nat)) (u : St) : Prop := (u 0 8 = 0 ∧ ∃ a, r = some a ∧ MR b u a.1 ∧ MS f N b a.2 u) ∨ (1 ≤ u 0 8 ∧ Bad f N r)
theorem M_counts {f : Nat → Int} {N b p : Nat} {A u : St} {x z : Int} (h : MS f N b p A) (hq : q_X12_counts x A z u) : rq u A ∧ ((z = 1 ∧ x = 0 ∧ MS f N b (tEnd f N p) u) ∨ (z = 0 ∧ 1 ≤ u 0 8 ∧ (x ≠ 0 ∨ tKind f N (tEnd f N p) = 4))) := by
  refine ⟨hq.2.2.1.rq, ?_⟩
  have d2 : ∀ A19, d_X12_counts_2 z u A19 → (A19 0 8 = 0 ∧ z = 1 ∧ u = A19) ∨ (¬ A19 0 8 = 0 ∧ z = 0 ∧ u = A19) := by
    intro A19 h2
    obtain ⟨_, h2⟩ := (h2 : tr_d_X12_counts_2 z u A19)
    rcases h2 with h2 | h2
    · exact Or.inr h2
    · exact Or.inl h2
  rcases (hq.1 : tr_r_X12_counts x A z u) with ⟨c, _⟩ | ⟨_, h2⟩
  · exact absurd h.ns c
  · rcases h2 with ⟨c1, h2⟩ | ⟨c1, A4, hb, h2⟩
    · obtain ⟨_, h2⟩ := (h2 : tr_d_X12_counts_1 z u A)
      rcases h2 with ⟨c, _⟩ | ⟨_, A13, ha, h2⟩
      · exact absurd h.ns c
      · have k := (h.go.ahead ha).1
        rcases d2 A13 h2 with ⟨g8, hz, rfl⟩ | ⟨g8, hz, rfl⟩
        · rcases k with ⟨_, k⟩ | ⟨_, k⟩
          · omega
          · exact Or.inl ⟨hz, c1, k⟩
        · rcases k with ⟨k4, k8⟩ | ⟨k8, _⟩
          · exact Or.inr ⟨hz, k8, Or.inr k4⟩
          · exact absurd k8 g8
    · have f1 := hb.2.2.2
      obtain ⟨_, h2⟩ := (h2 : tr_d_X12_counts_1 z u A4)
      rcases h2 with ⟨_, h2⟩ | ⟨c, _⟩
      · rcases d2 A4 h2 with ⟨g8, _⟩ | ⟨_, hz, rfl⟩
        · omega
        · exact Or.inr ⟨hz, f1, Or.inl c1⟩
      · omega
theorem sNew_some {f : Nat → Int} {N p : Nat} {T : St} {a : Int × Nat} (h : sNew f N T p = some a) : sFind T 0 a.1 = -1 ∧ sFind T 1 a.1 = -1 := by
  unfold sNew at h
  cases hs : sName f N p with
  | none => rw [hs] at h; exact absurd h (by simp)
  | some c =>
    obtain ⟨w, e⟩ := c
    rw [hs] at h
    have h : (if sFind T 0 w = -1 ∧ sFind T 1 w = -1 ∧ sFind T 2 w = -1 ∧ sFind T 3 w = -1 ∧ sFind T 4 w = -1 then some (w, e) else none) = some a := h
    by_cases g : sFind T 0 w = -1 ∧ sFind T 1 w = -1 ∧ sFind T 2 w = -1 ∧ sFind T 3 w = -1 ∧ sFind T 4 w = -1
    · rw [if_pos g] at h
      have h := Option.some.inj h
      subst h
      exact ⟨g.1, g.2.1⟩
    · rw [if_neg g] at h; exact absurd h (by simp)
theorem sAsk_some {f : Nat → Int} {N p k : Nat} {T : St} {a : Int × Nat} (h : sAsk f N T k p = some a) : 0 ≤ a.1 ∧ a.1 < T 1 k := by
  unfold sAsk at h
  cases hs : sName f N p with
  | none => rw [hs] at h; exact absurd h (by simp)
  | some c =>
    obtain ⟨w, e⟩ := c
    rw [hs] at h
    have h : (if sFind T k w = -1 then none else some (sFind T k w, e)) = some a := h
    by_cases g : sFind T k w = -1
    · rw [if_pos g] at h; exact absurd h (by simp)
    · rw [if_neg g] at h
      have h := Option.some.inj h
      subst h
      rcases sFind_b T k w with b | b
      · exact absurd b g
      · exact b
theorem bad_some {f : Nat → Int} {N : Nat} {a : St × Nat} (h : tKind f N a.2 = 4) : Bad f N (some a) := Or.inr ⟨a, rfl, h⟩
theorem sKey_eq {f : Nat → Int} {N p : Nat} {T : St} : sKey f N T p = (sNew f N T p).bind fun a => (sIn f N T a.2).bind fun c => some (sKeyAdd T a.1 c.1, c.2) := by
  unfold sKey sIn
  simp only [Option.bind_assoc]
theorem sThing_eq {f : Nat → Int} {N p : Nat} {T : St} : sThing f N T p = (sNew f N T p).bind fun a => (sIn f N T a.2).bind fun c => some (sThingAdd T a.1 c.1, c.2) := by
  unfold sThing sIn
  simp only [Option.bind_assoc]
theorem bad_Place {f : Nat → Int} {N p : Nat} {T : St} (h : tKind f N p = 4) : sPlace f N T p = none := by
  unfold sPlace
  rw [bad_new h]
  rfl
theorem bad_Door {f : Nat → Int} {N p : Nat} {T : St} (h : tKind f N p = 4) : sDoor f N T p = none := by
  unfold sDoor
  rw [bad_new h]
  rfl
theorem bad_Box {f : Nat → Int} {N p : Nat} {T : St} (h : tKind f N p = 4) : sBox f N T p = none := by
  unfold sBox
  rw [bad_new h]
  rfl
theorem bad_Key {f : Nat → Int} {N p : Nat} {T : St} (h : tKind f N p = 4) : sKey f N T p = none := by
  unfold sKey
  rw [bad_new h]
  rfl
theorem bad_Person {f : Nat → Int} {N p : Nat} {T : St} (h : tKind f N p = 4) : sPerson f N T p = none := by
  unfold sPerson
  rw [bad_new h]
  rfl
theorem bad_Thing {f : Nat → Int} {N p : Nat} {T : St} (h : tKind f N p = 4) : sThing f N T p = none := by
  unfold sThing
  rw [bad_new h]
  rfl
theorem bad_Wants {f : Nat → Int} {N p : Nat} {T : St} (h : tKind f N p = 4) : sWants f N T p = none := by
  unfold sWants
  rw [bad_ask h]
  rfl
theorem bad_Must {f : Nat → Int} {N p : Nat} {T : St} (h : tKind f N p = 4) : sMust f N T p = none := by
  unfold sMust
  rw [bad_ask h]
  rfl
theorem bad_Bar {f : Nat → Int} {N p : Nat} {T : St} (h : tKind f N p = 4) : sBar f N T p = none := by
  unfold sBar
  rw [bad_ask h]
  rfl
theorem bad_Has {f : Nat → Int} {N p : Nat} {T : St} (h : tKind f N p = 4) : sHas f N T p = none := by
  unfold sHas
  rw [bad_ask h]
  rfl
theorem bad_Shut {f : Nat → Int} {N p : Nat} {T : St} (h : tKind f N p = 4) : sShut f N T p = none := by
  unfold sShut
  rw [bad_ask h]
  rfl
theorem bad_Lost {f : Nat → Int} {N p : Nat} {T : St} (h : tKind f N p = 4) : sLost f N T p = none := by
  unfold sLost
  rw [bad_ask h]
  rfl
theorem M_place {f : Nat → Int} {N b p : Nat} {A u T : St} (hI : IM A) (h : MS f N b p A) (hR : MR b A T) (hq : q_X12_place A u) : MT f N b (if T 1 0 < 8 then sPlace f N T (tEnd f N p) else none) u := by
  have hb := h.bk
  have eb : (A 0 47).toNat = b := by rw [hb]; exact Int.toNat_natCast b
  have hct : A 2 b = T 1 0 := hR.1.1.1
  have r2 : (0 : Int) ≤ A 2 b ∧ A 2 b ≤ 8 := hI 2 b
  obtain ⟨n, hn⟩ : ∃ n : Nat, T 1 0 = (n : Int) := ⟨(T 1 0).toNat, by omega⟩
  obtain ⟨z1, hz1, h2⟩ := (hq.1 : tr_r_X12_place A u)
  rw [eb, hct] at hz1
  have d1 : ∀ x, (x = 0 ↔ T 1 0 < 8) → d_X12_place_1 A u x → MT f N b (if T 1 0 < 8 then sPlace f N T (tEnd f N p) else none) u := by
    intro x hx h2
    obtain ⟨_, z8, A9, hc, h2⟩ := (h2 : tr_d_X12_place_1 A u x)
    obtain ⟨q9, g⟩ := M_counts h hc
    rcases h2 with ⟨c1, h2⟩ | ⟨c1, rfl⟩
    · rcases g with ⟨_, x0, s9⟩ | ⟨g, _⟩
      · have lt := hx.mp x0
        rw [if_pos lt]
        obtain ⟨z14, hz14, h2⟩ := h2
        have e14 : z14 = (n : Int) := by rw [hz14, eb, q9 2 (by decide), hct, hn]
        have hNA := hR.1.rq q9
        obtain ⟨z15, A16, hf, h2⟩ := h2
        obtain ⟨m, q16⟩ := M_fresh s9 hNA hf
        have ix : (8 * A 0 47 + z14).toNat = 8 * b + n := by rw [hb, e14]; omega
        rw [ix, eb] at h2
        rcases m with ⟨m8, a, sa, hw, s16⟩ | ⟨m8, mb⟩
        · rcases h2 with ⟨c, _⟩ | ⟨_, z22, hz22, A23, hA23, hu⟩
          · exact absurd m8 c
          · have e22 : z22 = (n : Int) := by
              have hz22 : z22 = A16 2 b := hz22
              rw [hz22, q16 2 (by decide), q9 2 (by decide), hct, hn]
            rw [e22] at hA23
            refine Or.inl ⟨by rw [hu, hA23]; exact m8, (sAdd T 0 a.1, a.2), by unfold sPlace; rw [sa]; rfl, ?_, by rw [hu, hA23]; exact s16.fr rfl (fun k _ => rfl)⟩
            refine (MR_place hR hn hw (sNew_some sa).2).rq ?_
            rw [hu, hA23]
            exact ((q16.trans q9).st (by decide)).st (by decide)
        · refine Or.inr ⟨?_, by unfold sPlace; exact mb.bd (fun a ha => bad_some ha)⟩
          rcases h2 with ⟨_, A21, hA, hu⟩ | ⟨c, _⟩
          · rw [hu, hA]; exact m8
          · omega
      · exact absurd g c1
    · rcases g with ⟨g, _⟩ | ⟨_, g8, g⟩
      · omega
      · refine Or.inr ⟨g8, ?_⟩
        by_cases lt : T 1 0 < 8
        · rw [if_pos lt]
          rcases g with g | g
          · exact absurd (hx.mpr lt) g
          · exact Or.inl (bad_Place g)
        · rw [if_neg lt]
          exact Or.inl rfl
  rcases h2 with ⟨c, h2⟩ | ⟨c, h2⟩
  · exact d1 0 ⟨fun _ => by omega, fun _ => rfl⟩ h2
  · exact d1 1 ⟨fun g => absurd g (by decide), fun g => by omega⟩ h2
theorem M_key {f : Nat → Int} {N b p : Nat} {A u T : St} (hI : IM A) (h : MS f N b p A) (hR : MR b A T) (hq : q_X12_key A u) : MT f N b (if T 1 2 < 4 then sKey f N T (tEnd f N p) else none) u := by
  have hb := h.bk
  have eb : (A 0 47).toNat = b := by rw [hb]; exact Int.toNat_natCast b
  have hct : A 11 b = T 1 2 := hR.1.2.2.1.1
  have r2 : (0 : Int) ≤ A 11 b ∧ A 11 b ≤ 4 := hI 11 b
  obtain ⟨n, hn⟩ : ∃ n : Nat, T 1 2 = (n : Int) := ⟨(T 1 2).toNat, by omega⟩
  obtain ⟨z1, hz1, h2⟩ := (hq.1 : tr_r_X12_key A u)
  rw [eb, hct] at hz1
  have d1 : ∀ x, (x = 0 ↔ T 1 2 < 4) → d_X12_key_1 A u x → MT f N b (if T 1 2 < 4 then sKey f N T (tEnd f N p) else none) u := by
    intro x hx h2
    obtain ⟨_, z8, A9, hc, h2⟩ := (h2 : tr_d_X12_key_1 A u x)
    obtain ⟨q9, g⟩ := M_counts h hc
    rcases h2 with ⟨c1, h2⟩ | ⟨c1, rfl⟩
    · rcases g with ⟨_, x0, s9⟩ | ⟨g, _⟩
      · have lt := hx.mp x0
        rw [if_pos lt]
        obtain ⟨z14, hz14, h2⟩ := h2
        have e14 : z14 = (n : Int) := by rw [hz14, eb, q9 11 (by decide), hct, hn]
        have hNA := hR.1.rq q9
        obtain ⟨z15, A16, hf, A20, hA20, z21, A22, hw2, h2⟩ := h2
        obtain ⟨m, q16⟩ := M_fresh s9 hNA hf
        have ix : (4 * A 0 47 + z14).toNat = 4 * b + n := by rw [hb, e14]; omega
        rw [ix, eb] at h2
        rw [ix] at hA20
        have q20 : rq A20 (stA A 12 (4 * b + n) z15) := by rw [hA20]; exact (q16.trans q9).st (by decide)
        have e208 : A20 0 8 = A16 0 8 := by rw [hA20]; rfl
        have fin : 1 ≤ A22 0 8 → 1 ≤ u 0 8 := by
          intro g
          rcases h2 with ⟨_, A27, hA, hu⟩ | ⟨c, _⟩
          · rw [hu, hA]; exact g
          · omega
        rcases m with ⟨m8, a, sa, hw, s16⟩ | ⟨m8, mb⟩
        · have s20 : MS f N b a.2 A20 := by rw [hA20]; exact s16.fr rfl (fun k _ => rfl)
          have n0 : NK0 b A20 T := by rw [hA20]; exact (show NK0 b A16 T from hR.1.1.rq (q16.trans q9))
          have n1 : NK1 b A20 T := by rw [hA20]; exact (show NK1 b A16 T from hR.1.2.1.rq (q16.trans q9))
          have nB : NB b A20 T := by rw [hA20]; exact (show NB b A16 T from hR.2.2.2.1.rq (q16.trans q9))
          obtain ⟨m2, q22⟩ := M_within s20 n0 n1 nB hR.2.2.1 hw2
          rcases m2 with ⟨m28, c, sc, hz, s22⟩ | ⟨m28, mb2⟩
          · rcases h2 with ⟨c, _⟩ | ⟨_, z28, hz28, A29, hA29, hu⟩
            · exact absurd m28 c
            · have e28 : z28 = (n : Int) := by
                have hz28 : z28 = A22 11 b := hz28
                rw [hz28, q22 11 (by decide), hA20]
                show A16 11 b = (n : Int)
                rw [q16 11 (by decide), q9 11 (by decide), hct, hn]
              rw [e28, hz] at hA29
              refine Or.inl ⟨by rw [hu, hA29]; exact m28, (sKeyAdd T a.1 c.1, c.2), by rw [sKey_eq, sa]; show ((sIn f N T a.2).bind fun c => some (sKeyAdd T a.1 c.1, c.2)) = _; rw [sc]; rfl, ?_, by rw [hu, hA29]; exact s22.fr rfl (fun k _ => rfl)⟩
              refine (MR_key hR hn (by omega) hw).rq ?_
              rw [hu, hA29]
              exact (((q22.trans q20).st (by decide)).st (by decide)).st (by decide)
          · refine Or.inr ⟨fin m28, ?_⟩
            rw [sKey_eq, sa]
            exact mb2.bd (fun c hc => bad_some hc)
        · have e22 := X_within (by omega) hw2
          refine Or.inr ⟨fin (by rw [e22]; omega), ?_⟩
          rw [sKey_eq]
          refine mb.bd (fun a ha => ?_)
          have si : sIn f N T a.2 = none := by unfold sIn; rw [bad_own ha]; rfl
          rw [si]
          exact Or.inl rfl
      · exact absurd g c1
    · rcases g with ⟨g, _⟩ | ⟨_, g8, g⟩
      · omega
      · refine Or.inr ⟨g8, ?_⟩
        by_cases lt : T 1 2 < 4
        · rw [if_pos lt]
          rcases g with g | g
          · exact absurd (hx.mpr lt) g
          · exact Or.inl (bad_Key g)
        · rw [if_neg lt]
          exact Or.inl rfl
  rcases h2 with ⟨c, h2⟩ | ⟨c, h2⟩
  · exact d1 0 ⟨fun _ => by omega, fun _ => rfl⟩ h2
  · exact d1 1 ⟨fun g => absurd g (by decide), fun g => by omega⟩ h2
theorem M_thing {f : Nat → Int} {N b p : Nat} {A u T : St} (hI : IM A) (h : MS f N b p A) (hR : MR b A T) (hq : q_X12_thing A u) : MT f N b (if T 1 4 < 4 then sThing f N T (tEnd f N p) else none) u := by
  have hb := h.bk
  have eb : (A 0 47).toNat = b := by rw [hb]; exact Int.toNat_natCast b
  have hct : A 19 b = T 1 4 := hR.1.2.2.2.2.1
  have r2 : (0 : Int) ≤ A 19 b ∧ A 19 b ≤ 4 := hI 19 b
  obtain ⟨n, hn⟩ : ∃ n : Nat, T 1 4 = (n : Int) := ⟨(T 1 4).toNat, by omega⟩
  obtain ⟨z1, hz1, h2⟩ := (hq.1 : tr_r_X12_thing A u)
  rw [eb, hct] at hz1
  have d1 : ∀ x, (x = 0 ↔ T 1 4 < 4) → d_X12_thing_1 A u x → MT f N b (if T 1 4 < 4 then sThing f N T (tEnd f N p) else none) u := by
    intro x hx h2
    obtain ⟨_, z8, A9, hc, h2⟩ := (h2 : tr_d_X12_thing_1 A u x)
    obtain ⟨q9, g⟩ := M_counts h hc
    rcases h2 with ⟨c1, h2⟩ | ⟨c1, rfl⟩
    · rcases g with ⟨_, x0, s9⟩ | ⟨g, _⟩
      · have lt := hx.mp x0
        rw [if_pos lt]
        obtain ⟨z14, hz14, h2⟩ := h2
        have e14 : z14 = (n : Int) := by rw [hz14, eb, q9 19 (by decide), hct, hn]
        have hNA := hR.1.rq q9
        obtain ⟨z15, A16, hf, A20, hA20, z21, A22, hw2, h2⟩ := h2
        obtain ⟨m, q16⟩ := M_fresh s9 hNA hf
        have ix : (4 * A 0 47 + z14).toNat = 4 * b + n := by rw [hb, e14]; omega
        rw [ix, eb] at h2
        rw [ix] at hA20
        have q20 : rq A20 (stA A 20 (4 * b + n) z15) := by rw [hA20]; exact (q16.trans q9).st (by decide)
        have e208 : A20 0 8 = A16 0 8 := by rw [hA20]; rfl
        have fin : 1 ≤ A22 0 8 → 1 ≤ u 0 8 := by
          intro g
          rcases h2 with ⟨_, A27, hA, hu⟩ | ⟨c, _⟩
          · rw [hu, hA]; exact g
          · omega
        rcases m with ⟨m8, a, sa, hw, s16⟩ | ⟨m8, mb⟩
        · have s20 : MS f N b a.2 A20 := by rw [hA20]; exact s16.fr rfl (fun k _ => rfl)
          have n0 : NK0 b A20 T := by rw [hA20]; exact (show NK0 b A16 T from hR.1.1.rq (q16.trans q9))
          have n1 : NK1 b A20 T := by rw [hA20]; exact (show NK1 b A16 T from hR.1.2.1.rq (q16.trans q9))
          have nB : NB b A20 T := by rw [hA20]; exact (show NB b A16 T from hR.2.2.2.1.rq (q16.trans q9))
          obtain ⟨m2, q22⟩ := M_within s20 n0 n1 nB hR.2.2.1 hw2
          rcases m2 with ⟨m28, c, sc, hz, s22⟩ | ⟨m28, mb2⟩
          · rcases h2 with ⟨c, _⟩ | ⟨_, z28, hz28, A29, hA29, hu⟩
            · exact absurd m28 c
            · have e28 : z28 = (n : Int) := by
                have hz28 : z28 = A22 19 b := hz28
                rw [hz28, q22 19 (by decide), hA20]
                show A16 19 b = (n : Int)
                rw [q16 19 (by decide), q9 19 (by decide), hct, hn]
              rw [e28, hz] at hA29
              refine Or.inl ⟨by rw [hu, hA29]; exact m28, (sThingAdd T a.1 c.1, c.2), by rw [sThing_eq, sa]; show ((sIn f N T a.2).bind fun c => some (sThingAdd T a.1 c.1, c.2)) = _; rw [sc]; rfl, ?_, by rw [hu, hA29]; exact s22.fr rfl (fun k _ => rfl)⟩
              refine (MR_thing hR hn hw).rq ?_
              rw [hu, hA29]
              exact ((q22.trans q20).st (by decide)).st (by decide)
          · refine Or.inr ⟨fin m28, ?_⟩
            rw [sThing_eq, sa]
            exact mb2.bd (fun c hc => bad_some hc)
        · have e22 := X_within (by omega) hw2
          refine Or.inr ⟨fin (by rw [e22]; omega), ?_⟩
          rw [sThing_eq]
          refine mb.bd (fun a ha => ?_)
          have si : sIn f N T a.2 = none := by unfold sIn; rw [bad_own ha]; rfl
          rw [si]
          exact Or.inl rfl
      · exact absurd g c1
    · rcases g with ⟨g, _⟩ | ⟨_, g8, g⟩
      · omega
      · refine Or.inr ⟨g8, ?_⟩
        by_cases lt : T 1 4 < 4
        · rw [if_pos lt]
          rcases g with g | g
          · exact absurd (hx.mpr lt) g
          · exact Or.inl (bad_Thing g)
        · rw [if_neg lt]
          exact Or.inl rfl
  rcases h2 with ⟨c, h2⟩ | ⟨c, h2⟩
  · exact d1 0 ⟨fun _ => by omega, fun _ => rfl⟩ h2
  · exact d1 1 ⟨fun g => absurd g (by decide), fun g => by omega⟩ h2
theorem M_person {f : Nat → Int} {N b p : Nat} {A u T : St} (hI : IM A) (h : MS f N b p A) (hR : MR b A T) (hq : q_X12_person A u) : MT f N b (if T 1 3 < 3 then sPerson f N T (tEnd f N p) else none) u := by
  have hb := h.bk
  have eb : (A 0 47).toNat = b := by rw [hb]; exact Int.toNat_natCast b
  have hct : A 16 b = T 1 3 := hR.1.2.2.2.1.1
  have r2 : (0 : Int) ≤ A 16 b ∧ A 16 b ≤ 3 := hI 16 b
  obtain ⟨n, hn⟩ : ∃ n : Nat, T 1 3 = (n : Int) := ⟨(T 1 3).toNat, by omega⟩
  obtain ⟨z1, hz1, h2⟩ := (hq.1 : tr_r_X12_person A u)
  rw [eb, hct] at hz1
  have d1 : ∀ x, (x = 0 ↔ T 1 3 < 3) → d_X12_person_1 A u x → MT f N b (if T 1 3 < 3 then sPerson f N T (tEnd f N p) else none) u := by
    intro x hx h2
    obtain ⟨_, z8, A9, hc, h2⟩ := (h2 : tr_d_X12_person_1 A u x)
    obtain ⟨q9, g⟩ := M_counts h hc
    rcases h2 with ⟨c1, h2⟩ | ⟨c1, rfl⟩
    · rcases g with ⟨_, x0, s9⟩ | ⟨g, _⟩
      · have lt := hx.mp x0
        rw [if_pos lt]
        obtain ⟨z14, hz14, h2⟩ := h2
        have e14 : z14 = (n : Int) := by rw [hz14, eb, q9 16 (by decide), hct, hn]
        have hNA := hR.1.rq q9
        obtain ⟨z15, A16, hf, A20, hA20, A21, hw2, z25, A26, hk2, h2⟩ := h2
        obtain ⟨m, q16⟩ := M_fresh s9 hNA hf
        have ix : (3 * A 0 47 + z14).toNat = 3 * b + n := by rw [hb, e14]; omega
        rw [ix, eb] at h2
        rw [ix] at hA20
        have q20 : rq A20 (stA A 17 (3 * b + n) z15) := by rw [hA20]; exact (q16.trans q9).st (by decide)
        have e208 : A20 0 8 = A16 0 8 := by rw [hA20]; rfl
        have fin : 1 ≤ A26 0 8 → 1 ≤ u 0 8 := by
          intro g
          rcases h2 with ⟨_, A31, hA, hu⟩ | ⟨c, _⟩
          · rw [hu, hA]; exact g
          · omega
        have sp : ∀ p, sPerson f N T p = (sNew f N T p).bind fun a => (sOwn f N 12 a.2).bind fun b => (sAsk f N T 0 b).bind fun c => some (sPersonAdd T a.1 c.1, c.2) := fun _ => rfl
        rw [sp]
        rcases m with ⟨m8, a, sa, hw, s16⟩ | ⟨m8, mb⟩
        · have s20 : MS f N b a.2 A20 := by rw [hA20]; exact s16.fr rfl (fun k _ => rfl)
          obtain ⟨m1, q21⟩ := M_wd (k := 12) (by decide) rfl s20 hw2
          rw [sa]
          show MT f N b ((sOwn f N 12 a.2).bind fun b => (sAsk f N T 0 b).bind fun c => some (sPersonAdd T a.1 c.1, c.2)) u
          rcases m1 with ⟨m18, e, se, s21⟩ | ⟨m18, mb1⟩
          · have n0 : NK0 b A21 T := by
              refine NK0.rq ?_ q21
              rw [hA20]
              exact (show NK0 b A16 T from hR.1.1.rq (q16.trans q9))
            obtain ⟨m2, q26⟩ := M_ask_0 s21 n0 hk2
            rw [se]
            show MT f N b ((sAsk f N T 0 e).bind fun c => some (sPersonAdd T a.1 c.1, c.2)) u
            rcases m2 with ⟨m28, c, sc, hz, s26⟩ | ⟨m28, mb2⟩
            · rcases h2 with ⟨c, _⟩ | ⟨_, z32, hz32, A33, hA33, hu⟩
              · exact absurd m28 c
              · have e32 : z32 = (n : Int) := by
                  have hz32 : z32 = A26 16 b := hz32
                  rw [hz32, q26 16 (by decide), q21 16 (by decide), hA20]
                  show A16 16 b = (n : Int)
                  rw [q16 16 (by decide), q9 16 (by decide), hct, hn]
                rw [e32, hz] at hA33
                refine Or.inl ⟨by rw [hu, hA33]; exact m28, (sPersonAdd T a.1 c.1, c.2), by rw [sc]; rfl, ?_, by rw [hu, hA33]; exact s26.fr rfl (fun k _ => rfl)⟩
                refine (MR_person hR hn hw).rq ?_
                rw [hu, hA33]
                exact (((q26.trans q21).trans q20).st (by decide)).st (by decide)
            · exact Or.inr ⟨fin m28, mb2.bd (fun c hc => bad_some hc)⟩
          · have e26 := X_ask_0 m18 hk2
            exact Or.inr ⟨fin (by rw [e26]; omega), mb1.bd (fun c hc => by rw [bad_ask hc]; exact Or.inl rfl)⟩
        · have e21 := X_wd (by omega) hw2
          have e26 := X_ask_0 (by rw [e21]; omega) hk2
          exact Or.inr ⟨fin (by rw [e26, e21]; omega), mb.bd (fun c hc => by rw [bad_own hc]; exact Or.inl rfl)⟩
      · exact absurd g c1
    · rcases g with ⟨g, _⟩ | ⟨_, g8, g⟩
      · omega
      · refine Or.inr ⟨g8, ?_⟩
        by_cases lt : T 1 3 < 3
        · rw [if_pos lt]
          rcases g with g | g
          · exact absurd (hx.mpr lt) g
          · exact Or.inl (bad_Person g)
        · rw [if_neg lt]
          exact Or.inl rfl
  rcases h2 with ⟨c, h2⟩ | ⟨c, h2⟩
  · exact d1 0 ⟨fun _ => by omega, fun _ => rfl⟩ h2
  · exact d1 1 ⟨fun g => absurd g (by decide), fun g => by omega⟩ h2
theorem M_must {f : Nat → Int} {N b p : Nat} {A u T : St} (hI : IM A) (h : MS f N b p A) (hR : MR b A T) (hq : q_X12_mustBe A u) : MT f N b (if T 1 6 < 6 then sMust f N T (tEnd f N p) else none) u := by
  have hb := h.bk
  have eb : (A 0 47).toNat = b := by rw [hb]; exact Int.toNat_natCast b
  have hct : A 25 b = T 1 6 := hR.2.1.2.1
  have r2 : (0 : Int) ≤ A 25 b ∧ A 25 b ≤ 6 := hI 25 b
  obtain ⟨n, hn⟩ : ∃ n : Nat, T 1 6 = (n : Int) := ⟨(T 1 6).toNat, by omega⟩
  obtain ⟨z1, hz1, h2⟩ := (hq.1 : tr_r_X12_mustBe A u)
  rw [eb, hct] at hz1
  have d1 : ∀ x, (x = 0 ↔ T 1 6 < 6) → d_X12_mustBe_1 A u x → MT f N b (if T 1 6 < 6 then sMust f N T (tEnd f N p) else none) u := by
    intro x hx h2
    obtain ⟨_, z8, A9, hc, h2⟩ := (h2 : tr_d_X12_mustBe_1 A u x)
    obtain ⟨q9, g⟩ := M_counts h hc
    rcases h2 with ⟨c1, h2⟩ | ⟨c1, rfl⟩
    · rcases g with ⟨_, x0, s9⟩ | ⟨g, _⟩
      · have lt := hx.mp x0
        rw [if_pos lt]
        obtain ⟨z14, hz14, h2⟩ := h2
        have e14 : z14 = (n : Int) := by rw [hz14, eb, q9 25 (by decide), hct, hn]
        have hNA := hR.1.rq q9
        obtain ⟨z15, A16, hf, A20, hA20, z21, A22, hw2, z26, hz26, A27, hA27, z28, A29, hk2, h2⟩ := h2
        obtain ⟨m, q16⟩ := M_ask_1 s9 hNA.2.1 hf
        have ix : (6 * A 0 47 + z14).toNat = 6 * b + n := by rw [hb, e14]; omega
        rw [ix, eb] at h2
        rw [ix] at hA20 hz26 hA27
        have q20 : rq A20 (stA A 26 (6 * b + n) z15) := by rw [hA20]; exact (q16.trans q9).st (by decide)
        have e208 : A20 0 8 = A16 0 8 := by rw [hA20]; rfl
        have e278 : A27 0 8 = A22 0 8 := by rw [hA27]; rfl
        have e26 : z26 = z21 := by rw [hz26, stA_same, up_same]
        rw [e26] at hk2
        have fin : 1 ≤ A29 0 8 → 1 ≤ u 0 8 := by
          intro g
          rcases h2 with ⟨_, A34, hA, hu⟩ | ⟨c, _⟩
          · rw [hu, hA]; exact g
          · omega
        have sp : ∀ p, sMust f N T p = (sAsk f N T 1 p).bind fun a => (sNum f N 0 1439 a.2).bind fun b => (sNum f N b.1 1439 b.2).bind fun c => some (sMustAdd T a.1 b.1 c.1, c.2) := fun _ => rfl
        rw [sp]
        rcases m with ⟨m8, a, sa, hz15, s16⟩ | ⟨m8, mb⟩
        · have s20 : MS f N b a.2 A20 := by rw [hA20]; exact s16.fr rfl (fun k _ => rfl)
          obtain ⟨m1, q22⟩ := M_num s20 hw2
          rw [sa]
          show MT f N b ((sNum f N 0 1439 a.2).bind fun b => (sNum f N b.1 1439 b.2).bind fun c => some (sMustAdd T a.1 b.1 c.1, c.2)) u
          rcases m1 with ⟨m18, d, sd, hz21, s22⟩ | ⟨m18, mb1⟩
          · have s27 : MS f N b d.2 A27 := by rw [hA27]; exact s22.fr rfl (fun k _ => rfl)
            have q27 : rq A27 (stA (stA A 26 (6 * b + n) z15) 27 (6 * b + n) z21) := by rw [hA27]; exact (q22.trans q20).st (by decide)
            obtain ⟨m2, q29⟩ := M_num s27 hk2
            rw [sd]
            show MT f N b ((sNum f N d.1 1439 d.2).bind fun c => some (sMustAdd T a.1 d.1 c.1, c.2)) u
            rw [hz21] at m2
            rcases m2 with ⟨m28, c, sc, hz, s29⟩ | ⟨m28, mb2⟩
            · rcases h2 with ⟨c, _⟩ | ⟨_, z35, hz35, A36, hA36, hu⟩
              · exact absurd m28 c
              · have e35 : z35 = (n : Int) := by
                  have hz35 : z35 = A29 25 b := hz35
                  rw [hz35, q29 25 (by decide), hA27]
                  show A22 25 b = (n : Int)
                  rw [q22 25 (by decide), hA20]
                  show A16 25 b = (n : Int)
                  rw [q16 25 (by decide), q9 25 (by decide), hct, hn]
                rw [e35, hz] at hA36
                rw [hz15, hz21] at q27
                refine Or.inl ⟨by rw [hu, hA36]; exact m28, (sMustAdd T a.1 d.1 c.1, c.2), by rw [sc]; rfl, ?_, by rw [hu, hA36]; exact s29.fr rfl (fun k _ => rfl)⟩
                refine (MR_must hR hn).rq ?_
                rw [hu, hA36]
                exact ((q29.trans q27).st (by decide)).st (by decide)
            · exact Or.inr ⟨fin m28, mb2.bd (fun c hc => bad_some hc)⟩
          · have e29 := X_num (by omega) hk2
            exact Or.inr ⟨fin (by rw [e29]; omega), mb1.bd (fun c hc => by rw [bad_num hc]; exact Or.inl rfl)⟩
        · have e22 := X_num (by omega) hw2
          have e29 := X_num (by rw [e278, e22]; omega) hk2
          exact Or.inr ⟨fin (by rw [e29, e278, e22]; omega), mb.bd (fun c hc => by rw [bad_num hc]; exact Or.inl rfl)⟩
      · exact absurd g c1
    · rcases g with ⟨g, _⟩ | ⟨_, g8, g⟩
      · omega
      · refine Or.inr ⟨g8, ?_⟩
        by_cases lt : T 1 6 < 6
        · rw [if_pos lt]
          rcases g with g | g
          · exact absurd (hx.mpr lt) g
          · exact Or.inl (bad_Must g)
        · rw [if_neg lt]
          exact Or.inl rfl
  rcases h2 with ⟨c, h2⟩ | ⟨c, h2⟩
  · exact d1 0 ⟨fun _ => by omega, fun _ => rfl⟩ h2
  · exact d1 1 ⟨fun g => absurd g (by decide), fun g => by omega⟩ h2
