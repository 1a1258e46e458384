/-! The reference's statements. -/
/-- a statement's answer -/
def MT (f : Nat → Int) (N b : Nat) (r : Option (St × Nat)) (u : St) : Prop := (u 0 8 = 0 ∧ ∃ a, r = some a ∧ MR b u a.1 ∧ MS f N b a.2 u) ∨ (1 ≤ u 0 8 ∧ Bad f N r)
theorem M_counts {f : Nat → Int} {N b p : Nat} {A u : St} {x z : Int} (h : MS f N b p A) (hq : q_X12_counts x A z u) : rq u A ∧ ((z = 1 ∧ x = 0 ∧ MS f N b (tEnd f N p) u) ∨ (z = 0 ∧ 1 ≤ u 0 8 ∧ (x ≠ 0 ∨ tKind f N (tEnd f N p) = 4))) := by
  refine ⟨hq.2.2.1.rq, ?_⟩
  have d2 : ∀ A19, d_X12_counts_2 z u A19 → (A19 0 8 = 0 ∧ z = 1 ∧ u = A19) ∨ (¬ A19 0 8 = 0 ∧ z = 0 ∧ u = A19) := by
    intro A19 h2
    obtain ⟨_, h2⟩ := (h2 : tr_d_X12_counts_2 z u A19)
    rcases h2 with h2 | h2
    · exact Or.inr h2
    · exact Or.inl h2
  rcases (hq.1 : tr_r_X12_counts x A z u) with ⟨c, _⟩ | ⟨_, h2⟩
  · exact absurd h.ns c
  · rcases h2 with ⟨c1, h2⟩ | ⟨c1, A4, hb, h2⟩
    · obtain ⟨_, h2⟩ := (h2 : tr_d_X12_counts_1 z u A)
      rcases h2 with ⟨c, _⟩ | ⟨_, A13, ha, h2⟩
      · exact absurd h.ns c
      · have k := (h.go.ahead ha).1
        rcases d2 A13 h2 with ⟨g8, hz, rfl⟩ | ⟨g8, hz, rfl⟩
        · rcases k with ⟨_, k⟩ | ⟨_, k⟩
          · omega
          · exact Or.inl ⟨hz, c1, k⟩
        · rcases k with ⟨k4, k8⟩ | ⟨k8, _⟩
          · exact Or.inr ⟨hz, k8, Or.inr k4⟩
          · exact absurd k8 g8
    · have f1 := hb.2.2.2
      obtain ⟨_, h2⟩ := (h2 : tr_d_X12_counts_1 z u A4)
      rcases h2 with ⟨_, h2⟩ | ⟨c, _⟩
      · rcases d2 A4 h2 with ⟨g8, _⟩ | ⟨_, hz, rfl⟩
        · omega
        · exact Or.inr ⟨hz, f1, Or.inl c1⟩
      · omega
theorem sNew_some {f : Nat → Int} {N p : Nat} {T : St} {a : Int × Nat} (h : sNew f N T p = some a) : sFind T 0 a.1 = -1 ∧ sFind T 1 a.1 = -1 := by
  unfold sNew at h
  cases hs : sName f N p with
  | none => rw [hs] at h; exact absurd h (by simp)
  | some c =>
    obtain ⟨w, e⟩ := c
    rw [hs] at h
    have h : (if sFind T 0 w = -1 ∧ sFind T 1 w = -1 ∧ sFind T 2 w = -1 ∧ sFind T 3 w = -1 ∧ sFind T 4 w = -1 then some (w, e) else none) = some a := h
    by_cases g : sFind T 0 w = -1 ∧ sFind T 1 w = -1 ∧ sFind T 2 w = -1 ∧ sFind T 3 w = -1 ∧ sFind T 4 w = -1
    · rw [if_pos g] at h
      have h := Option.some.inj h
      subst h
      exact ⟨g.1, g.2.1⟩
    · rw [if_neg g] at h; exact absurd h (by simp)
theorem sAsk_some {f : Nat → Int} {N p k : Nat} {T : St} {a : Int × Nat} (h : sAsk f N T k p = some a) : 0 ≤ a.1 ∧ a.1 < T 1 k := by
  unfold sAsk at h
  cases hs : sName f N p with
  | none => rw [hs] at h; exact absurd h (by simp)
  | some c =>
    obtain ⟨w, e⟩ := c
    rw [hs] at h
    have h : (if sFind T k w = -1 then none else some (sFind T k w, e)) = some a := h
    by_cases g : sFind T k w = -1
    · rw [if_pos g] at h; exact absurd h (by simp)
    · rw [if_neg g] at h
      have h := Option.some.inj h
      subst h
      rcases sFind_b T k w with b | b
      · exact absurd b g
      · exact b
theorem bad_some {f : Nat → Int} {N : Nat} {a : St × Nat} (h : tKind f N a.2 = 4) : Bad f N (some a) := Or.inr ⟨a, rfl, h⟩
theorem sKey_eq {f : Nat → Int} {N p : Nat} {T : St} : sKey f N T p = (sNew f N T p).bind fun a => (sIn f N T a.2).bind fun c => some (sKeyAdd T a.1 c.1, c.2) := by
  unfold sKey sIn
  simp only [Option.bind_assoc]
theorem sThing_eq {f : Nat → Int} {N p : Nat} {T : St} : sThing f N T p = (sNew f N T p).bind fun a => (sIn f N T a.2).bind fun c => some (sThingAdd T a.1 c.1, c.2) := by
  unfold sThing sIn
  simp only [Option.bind_assoc]
theorem bad_Place {f : Nat → Int} {N p : Nat} {T : St} (h : tKind f N p = 4) : sPlace f N T p = none := by
  unfold sPlace
  rw [bad_new h]
  rfl
theorem bad_Door {f : Nat → Int} {N p : Nat} {T : St} (h : tKind f N p = 4) : sDoor f N T p = none := by
  unfold sDoor
  rw [bad_new h]
  rfl
theorem bad_Box {f : Nat → Int} {N p : Nat} {T : St} (h : tKind f N p = 4) : sBox f N T p = none := by
  unfold sBox
  rw [bad_new h]
  rfl
theorem bad_Key {f : Nat → Int} {N p : Nat} {T : St} (h : tKind f N p = 4) : sKey f N T p = none := by
  unfold sKey
  rw [bad_new h]
  rfl
theorem bad_Person {f : Nat → Int} {N p : Nat} {T : St} (h : tKind f N p = 4) : sPerson f N T p = none := by
  unfold sPerson
  rw [bad_new h]
  rfl
theorem bad_Thing {f : Nat → Int} {N p : Nat} {T : St} (h : tKind f N p = 4) : sThing f N T p = none := by
  unfold sThing
  rw [bad_new h]
  rfl
theorem bad_Wants {f : Nat → Int} {N p : Nat} {T : St} (h : tKind f N p = 4) : sWants f N T p = none := by
  unfold sWants
  rw [bad_ask h]
  rfl
theorem bad_Must {f : Nat → Int} {N p : Nat} {T : St} (h : tKind f N p = 4) : sMust f N T p = none := by
  unfold sMust
  rw [bad_ask h]
  rfl
theorem bad_Bar {f : Nat → Int} {N p : Nat} {T : St} (h : tKind f N p = 4) : sBar f N T p = none := by
  unfold sBar
  rw [bad_ask h]
  rfl
theorem bad_Has {f : Nat → Int} {N p : Nat} {T : St} (h : tKind f N p = 4) : sHas f N T p = none := by
  unfold sHas
  rw [bad_ask h]
  rfl
theorem bad_Shut {f : Nat → Int} {N p : Nat} {T : St} (h : tKind f N p = 4) : sShut f N T p = none := by
  unfold sShut
  rw [bad_ask h]
  rfl
theorem bad_Lost {f : Nat → Int} {N p : Nat} {T : St} (h : tKind f N p = 4) : sLost f N T p = none := by
  unfold sLost
  rw [bad_ask h]
  rfl
theorem M_place {f : Nat → Int} {N b p : Nat} {A u T : St} (hI : IM A) (h : MS f N b p A) (hR : MR b A T) (hq : q_X12_place A u) : MT f N b (if T 1 0 < 8 then sPlace f N T (tEnd f N p) else none) u := by
  have hb := h.bk
  have eb : (A 0 47).toNat = b := by rw [hb]; exact Int.toNat_natCast b
  have hct : A 2 b = T 1 0 := hR.1.1.1
  have r2 : (0 : Int) ≤ A 2 b ∧ A 2 b ≤ 8 := hI 2 b
  obtain ⟨n, hn⟩ : ∃ n : Nat, T 1 0 = (n : Int) := ⟨(T 1 0).toNat, by omega⟩
  obtain ⟨z1, hz1, h2⟩ := (hq.1 : tr_r_X12_place A u)
  rw [eb, hct] at hz1
  have d1 : ∀ x, (x = 0 ↔ T 1 0 < 8) → d_X12_place_1 A u x → MT f N b (if T 1 0 < 8 then sPlace f N T (tEnd f N p) else none) u := by
    intro x hx h2
    obtain ⟨_, z8, A9, hc, h2⟩ := (h2 : tr_d_X12_place_1 A u x)
    obtain ⟨q9, g⟩ := M_counts h hc
    rcases h2 with ⟨c1, h2⟩ | ⟨c1, rfl⟩
    · rcases g with ⟨_, x0, s9⟩ | ⟨g, _⟩
      · have lt := hx.mp x0
        rw [if_pos lt]
        obtain ⟨z14, hz14, h2⟩ := h2
        have e14 : z14 = (n : Int) := by rw [hz14, eb, q9 2 (by decide), hct, hn]
        have hNA := hR.1.rq q9
        obtain ⟨z15, A16, hf, h2⟩ := h2
        obtain ⟨m, q16⟩ := M_fresh s9 hNA hf
        have ix : (8 * A 0 47 + z14).toNat = 8 * b + n := by rw [hb, e14]; omega
        rw [ix, eb] at h2
        rcases m with ⟨m8, a, sa, hw, s16⟩ | ⟨m8, mb⟩
        · rcases h2 with ⟨c, _⟩ | ⟨_, z22, hz22, A23, hA23, hu⟩
          · exact absurd m8 c
          · have e22 : z22 = (n : Int) := by
              have hz22 : z22 = A16 2 b := hz22
              rw [hz22, q16 2 (by decide), q9 2 (by decide), hct, hn]
            rw [e22] at hA23
            refine Or.inl ⟨by rw [hu, hA23]; exact m8, (sAdd T 0 a.1, a.2), by unfold sPlace; rw [sa]; rfl, ?_, by rw [hu, hA23]; exact s16.fr rfl (fun k _ => rfl)⟩
            refine (MR_place hR hn hw (sNew_some sa).2).rq ?_
            rw [hu, hA23]
            exact ((q16.trans q9).st (by decide)).st (by decide)
        · refine Or.inr ⟨?_, by unfold sPlace; exact mb.bd (fun a ha => bad_some ha)⟩
          rcases h2 with ⟨_, A21, hA, hu⟩ | ⟨c, _⟩
          · rw [hu, hA]; exact m8
          · omega
      · exact absurd g c1
    · rcases g with ⟨g, _⟩ | ⟨_, g8, g⟩
      · omega
      · refine Or.inr ⟨g8, ?_⟩
        by_cases lt : T 1 0 < 8
        · rw [if_pos lt]
          rcases g with g | g
          · exact absurd (hx.mpr lt) g
          · exact Or.inl (bad_Place g)
        · rw [if_neg lt]
          exact Or.inl rfl
  rcases h2 with ⟨c, h2⟩ | ⟨c, h2⟩
  · exact d1 0 ⟨fun _ => by omega, fun _ => rfl⟩ h2
  · exact d1 1 ⟨fun g => absurd g (by decide), fun g => by omega⟩ h2
theorem M_key {f : Nat → Int} {N b p : Nat} {A u T : St} (hI : IM A) (h : MS f N b p A) (hR : MR b A T) (hq : q_X12_key A u) : MT f N b (if T 1 2 < 4 then sKey f N T (tEnd f N p) else none) u := by
  have hb := h.bk
  have eb : (A 0 47).toNat = b := by rw [hb]; exact Int.toNat_natCast b
  have hct : A 11 b = T 1 2 := hR.1.2.2.1.1
  have r2 : (0 : Int) ≤ A 11 b ∧ A 11 b ≤ 4 := hI 11 b
  obtain ⟨n, hn⟩ : ∃ n : Nat, T 1 2 = (n : Int) := ⟨(T 1 2).toNat, by omega⟩
  obtain ⟨z1, hz1, h2⟩ := (hq.1 : tr_r_X12_key A u)
  rw [eb, hct] at hz1
  have d1 : ∀ x, (x = 0 ↔ T 1 2 < 4) → d_X12_key_1 A u x → MT f N b (if T 1 2 < 4 then sKey f N T (tEnd f N p) else none) u := by
    intro x hx h2
    obtain ⟨_, z8, A9, hc, h2⟩ := (h2 : tr_d_X12_key_1 A u x)
    obtain ⟨q9, g⟩ := M_counts h hc
    rcases h2 with ⟨c1, h2⟩ | ⟨c1, rfl⟩
    · rcases g with ⟨_, x0, s9⟩ | ⟨g, _⟩
      · have lt := hx.mp x0
        rw [if_pos lt]
        obtain ⟨z14, hz14, h2⟩ := h2
        have e14 : z14 = (n : Int) := by rw [hz14, eb, q9 11 (by decide), hct, hn]
        have hNA := hR.1.rq q9
        obtain ⟨z15, A16, hf, A20, hA20, z21, A22, hw2, h2⟩ := h2
        obtain ⟨m, q16⟩ := M_fresh s9 hNA hf
        have ix : (4 * A 0 47 + z14).toNat = 4 * b + n := by rw [hb, e14]; omega
        rw [ix, eb] at h2
        rw [ix] at hA20
        have q20 : rq A20 (stA A 12 (4 * b + n) z15) := by rw [hA20]; exact (q16.trans q9).st (by decide)
        have e208 : A20 0 8 = A16 0 8 := by rw [hA20]; rfl
        have fin : 1 ≤ A22 0 8 → 1 ≤ u 0 8 := by
          intro g
          rcases h2 with ⟨_, A27, hA, hu⟩ | ⟨c, _⟩
          · rw [hu, hA]; exact g
          · omega
        rcases m with ⟨m8, a, sa, hw, s16⟩ | ⟨m8, mb⟩
        · have s20 : MS f N b a.2 A20 := by rw [hA20]; exact s16.fr rfl (fun k _ => rfl)
          have n0 : NK0 b A20 T := by rw [hA20]; exact (show NK0 b A16 T from hR.1.1.rq (q16.trans q9))
          have n1 : NK1 b A20 T := by rw [hA20]; exact (show NK1 b A16 T from hR.1.2.1.rq (q16.trans q9))
          have nB : NB b A20 T := by rw [hA20]; exact (show NB b A16 T from hR.2.2.2.1.rq (q16.trans q9))
          obtain ⟨m2, q22⟩ := M_within s20 n0 n1 nB hR.2.2.1 hw2
          rcases m2 with ⟨m28, c, sc, hz, s22⟩ | ⟨m28, mb2⟩
          · rcases h2 with ⟨c, _⟩ | ⟨_, z28, hz28, A29, hA29, hu⟩
            · exact absurd m28 c
            · have e28 : z28 = (n : Int) := by
                have hz28 : z28 = A22 11 b := hz28
                rw [hz28, q22 11 (by decide), hA20]
                show A16 11 b = (n : Int)
                rw [q16 11 (by decide), q9 11 (by decide), hct, hn]
              rw [e28, hz] at hA29
              refine Or.inl ⟨by rw [hu, hA29]; exact m28, (sKeyAdd T a.1 c.1, c.2), by rw [sKey_eq, sa]; show ((sIn f N T a.2).bind fun c => some (sKeyAdd T a.1 c.1, c.2)) = _; rw [sc]; rfl, ?_, by rw [hu, hA29]; exact s22.fr rfl (fun k _ => rfl)⟩
              refine (MR_key hR hn (by omega) hw).rq ?_
              rw [hu, hA29]
              exact (((q22.trans q20).st (by decide)).st (by decide)).st (by decide)
          · refine Or.inr ⟨fin m28, ?_⟩
            rw [sKey_eq, sa]
            exact mb2.bd (fun c hc => bad_some hc)
        · have e22 := X_within (by omega) hw2
          refine Or.inr ⟨fin (by rw [e22]; omega), ?_⟩
          rw [sKey_eq]
          refine mb.bd (fun a ha => ?_)
          have si : sIn f N T a.2 = none := by unfold sIn; rw [bad_own ha]; rfl
          rw [si]
          exact Or.inl rfl
      · exact absurd g c1
    · rcases g with ⟨g, _⟩ | ⟨_, g8, g⟩
      · omega
      · refine Or.inr ⟨g8, ?_⟩
        by_cases lt : T 1 2 < 4
        · rw [if_pos lt]
          rcases g with g | g
          · exact absurd (hx.mpr lt) g
          · exact Or.inl (bad_Key g)
        · rw [if_neg lt]
          exact Or.inl rfl
  rcases h2 with ⟨c, h2⟩ | ⟨c, h2⟩
  · exact d1 0 ⟨fun _ => by omega, fun _ => rfl⟩ h2
  · exact d1 1 ⟨fun g => absurd g (by decide), fun g => by omega⟩ h2
theorem M_thing {f : Nat → Int} {N b p : Nat} {A u T : St} (hI : IM A) (h : MS f N b p A) (hR : MR b A T) (hq : q_X12_thing A u) : MT f N b (if T 1 4 < 4 then sThing f N T (tEnd f N p) else none) u := by
  have hb := h.bk
  have eb : (A 0 47).toNat = b := by rw [hb]; exact Int.toNat_natCast b
  have hct : A 19 b = T 1 4 := hR.1.2.2.2.2.1
  have r2 : (0 : Int) ≤ A 19 b ∧ A 19 b ≤ 4 := hI 19 b
  obtain ⟨n, hn⟩ : ∃ n : Nat, T 1 4 = (n : Int) := ⟨(T 1 4).toNat, by omega⟩
  obtain ⟨z1, hz1, h2⟩ := (hq.1 : tr_r_X12_thing A u)
  rw [eb, hct] at hz1
  have d1 : ∀ x, (x = 0 ↔ T 1 4 < 4) → d_X12_thing_1 A u x → MT f N b (if T 1 4 < 4 then sThing f N T (tEnd f N p) else none) u := by
    intro x hx h2
    obtain ⟨_, z8, A9, hc, h2⟩ := (h2 : tr_d_X12_thing_1 A u x)
    obtain ⟨q9, g⟩ := M_counts h hc
    rcases h2 with ⟨c1, h2⟩ | ⟨c1, rfl⟩
    · rcases g with ⟨_, x0, s9⟩ | ⟨g, _⟩
      · have lt := hx.mp x0
        rw [if_pos lt]
        obtain ⟨z14, hz14, h2⟩ := h2
        have e14 : z14 = (n : Int) := by rw [hz14, eb, q9 19 (by decide), hct, hn]
        have hNA := hR.1.rq q9
        obtain ⟨z15, A16, hf, A20, hA20, z21, A22, hw2, h2⟩ := h2
        obtain ⟨m, q16⟩ := M_fresh s9 hNA hf
        have ix : (4 * A 0 47 + z14).toNat = 4 * b + n := by rw [hb, e14]; omega
        rw [ix, eb] at h2
        rw [ix] at hA20
        have q20 : rq A20 (stA A 20 (4 * b + n) z15) := by rw [hA20]; exact (q16.trans q9).st (by decide)
        have e208 : A20 0 8 = A16 0 8 := by rw [hA20]; rfl
        have fin : 1 ≤ A22 0 8 → 1 ≤ u 0 8 := by
          intro g
          rcases h2 with ⟨_, A27, hA, hu⟩ | ⟨c, _⟩
          · rw [hu, hA]; exact g
          · omega
        rcases m with ⟨m8, a, sa, hw, s16⟩ | ⟨m8, mb⟩
        · have s20 : MS f N b a.2 A20 := by rw [hA20]; exact s16.fr rfl (fun k _ => rfl)
          have n0 : NK0 b A20 T := by rw [hA20]; exact (show NK0 b A16 T from hR.1.1.rq (q16.trans q9))
          have n1 : NK1 b A20 T := by rw [hA20]; exact (show NK1 b A16 T from hR.1.2.1.rq (q16.trans q9))
          have nB : NB b A20 T := by rw [hA20]; exact (show NB b A16 T from hR.2.2.2.1.rq (q16.trans q9))
          obtain ⟨m2, q22⟩ := M_within s20 n0 n1 nB hR.2.2.1 hw2
          rcases m2 with ⟨m28, c, sc, hz, s22⟩ | ⟨m28, mb2⟩
          · rcases h2 with ⟨c, _⟩ | ⟨_, z28, hz28, A29, hA29, hu⟩
            · exact absurd m28 c
            · have e28 : z28 = (n : Int) := by
                have hz28 : z28 = A22 19 b := hz28
                rw [hz28, q22 19 (by decide), hA20]
                show A16 19 b = (n : Int)
                rw [q16 19 (by decide), q9 19 (by decide), hct, hn]
              rw [e28, hz] at hA29
              refine Or.inl ⟨by rw [hu, hA29]; exact m28, (sThingAdd T a.1 c.1, c.2), by rw [sThing_eq, sa]; show ((sIn f N T a.2).bind fun c => some (sThingAdd T a.1 c.1, c.2)) = _; rw [sc]; rfl, ?_, by rw [hu, hA29]; exact s22.fr rfl (fun k _ => rfl)⟩
              refine (MR_thing hR hn hw).rq ?_
              rw [hu, hA29]
              exact ((q22.trans q20).st (by decide)).st (by decide)
          · refine Or.inr ⟨fin m28, ?_⟩
            rw [sThing_eq, sa]
            exact mb2.bd (fun c hc => bad_some hc)
        · have e22 := X_within (by omega) hw2
          refine Or.inr ⟨fin (by rw [e22]; omega), ?_⟩
          rw [sThing_eq]
          refine mb.bd (fun a ha => ?_)
          have si : sIn f N T a.2 = none := by unfold sIn; rw [bad_own ha]; rfl
          rw [si]
          exact Or.inl rfl
      · exact absurd g c1
    · rcases g with ⟨g, _⟩ | ⟨_, g8, g⟩
      · omega
      · refine Or.inr ⟨g8, ?_⟩
        by_cases lt : T 1 4 < 4
        · rw [if_pos lt]
          rcases g with g | g
          · exact absurd (hx.mpr lt) g
          · exact Or.inl (bad_Thing g)
        · rw [if_neg lt]
          exact Or.inl rfl
  rcases h2 with ⟨c, h2⟩ | ⟨c, h2⟩
  · exact d1 0 ⟨fun _ => by omega, fun _ => rfl⟩ h2
  · exact d1 1 ⟨fun g => absurd g (by decide), fun g => by omega⟩ h2
theorem M_person {f : Nat → Int} {N b p : Nat} {A u T : St} (hI : IM A) (h : MS f N b p A) (hR : MR b A T) (hq : q_X12_person A u) : MT f N b (if T 1 3 < 3 then sPerson f N T (tEnd f N p) else none) u := by
  have hb := h.bk
  have eb : (A 0 47).toNat = b := by rw [hb]; exact Int.toNat_natCast b
  have hct : A 16 b = T 1 3 := hR.1.2.2.2.1.1
  have r2 : (0 : Int) ≤ A 16 b ∧ A 16 b ≤ 3 := hI 16 b
  obtain ⟨n, hn⟩ : ∃ n : Nat, T 1 3 = (n : Int) := ⟨(T 1 3).toNat, by omega⟩
  obtain ⟨z1, hz1, h2⟩ := (hq.1 : tr_r_X12_person A u)
  rw [eb, hct] at hz1
  have d1 : ∀ x, (x = 0 ↔ T 1 3 < 3) → d_X12_person_1 A u x → MT f N b (if T 1 3 < 3 then sPerson f N T (tEnd f N p) else none) u := by
    intro x hx h2
    obtain ⟨_, z8, A9, hc, h2⟩ := (h2 : tr_d_X12_person_1 A u x)
    obtain ⟨q9, g⟩ := M_counts h hc
    rcases h2 with ⟨c1, h2⟩ | ⟨c1, rfl⟩
    · rcases g with ⟨_, x0, s9⟩ | ⟨g, _⟩
      · have lt := hx.mp x0
        rw [if_pos lt]
        obtain ⟨z14, hz14, h2⟩ := h2
        have e14 : z14 = (n : Int) := by rw [hz14, eb, q9 16 (by decide), hct, hn]
        have hNA := hR.1.rq q9
        obtain ⟨z15, A16, hf, A20, hA20, A21, hw2, z25, A26, hk2, h2⟩ := h2
        obtain ⟨m, q16⟩ := M_fresh s9 hNA hf
        have ix : (3 * A 0 47 + z14).toNat = 3 * b + n := by rw [hb, e14]; omega
        rw [ix, eb] at h2
        rw [ix] at hA20
        have q20 : rq A20 (stA A 17 (3 * b + n) z15) := by rw [hA20]; exact (q16.trans q9).st (by decide)
        have e208 : A20 0 8 = A16 0 8 := by rw [hA20]; rfl
        have fin : 1 ≤ A26 0 8 → 1 ≤ u 0 8 := by
          intro g
          rcases h2 with ⟨_, A31, hA, hu⟩ | ⟨c, _⟩
          · rw [hu, hA]; exact g
          · omega
        have sp : ∀ p, sPerson f N T p = (sNew f N T p).bind fun a => (sOwn f N 12 a.2).bind fun b => (sAsk f N T 0 b).bind fun c => some (sPersonAdd T a.1 c.1, c.2) := fun _ => rfl
        rw [sp]
        rcases m with ⟨m8, a, sa, hw, s16⟩ | ⟨m8, mb⟩
        · have s20 : MS f N b a.2 A20 := by rw [hA20]; exact s16.fr rfl (fun k _ => rfl)
          obtain ⟨m1, q21⟩ := M_wd (k := 12) (by decide) rfl s20 hw2
          rw [sa]
          show MT f N b ((sOwn f N 12 a.2).bind fun b => (sAsk f N T 0 b).bind fun c => some (sPersonAdd T a.1 c.1, c.2)) u
          rcases m1 with ⟨m18, e, se, s21⟩ | ⟨m18, mb1⟩
          · have n0 : NK0 b A21 T := by
              refine NK0.rq ?_ q21
              rw [hA20]
              exact (show NK0 b A16 T from hR.1.1.rq (q16.trans q9))
            obtain ⟨m2, q26⟩ := M_ask_0 s21 n0 hk2
            rw [se]
            show MT f N b ((sAsk f N T 0 e).bind fun c => some (sPersonAdd T a.1 c.1, c.2)) u
            rcases m2 with ⟨m28, c, sc, hz, s26⟩ | ⟨m28, mb2⟩
            · rcases h2 with ⟨c, _⟩ | ⟨_, z32, hz32, A33, hA33, hu⟩
              · exact absurd m28 c
              · have e32 : z32 = (n : Int) := by
                  have hz32 : z32 = A26 16 b := hz32
                  rw [hz32, q26 16 (by decide), q21 16 (by decide), hA20]
                  show A16 16 b = (n : Int)
                  rw [q16 16 (by decide), q9 16 (by decide), hct, hn]
                rw [e32, hz] at hA33
                refine Or.inl ⟨by rw [hu, hA33]; exact m28, (sPersonAdd T a.1 c.1, c.2), by rw [sc]; rfl, ?_, by rw [hu, hA33]; exact s26.fr rfl (fun k _ => rfl)⟩
                refine (MR_person hR hn hw).rq ?_
                rw [hu, hA33]
                exact (((q26.trans q21).trans q20).st (by decide)).st (by decide)
            · exact Or.inr ⟨fin m28, mb2.bd (fun c hc => bad_some hc)⟩
          · have e26 := X_ask_0 m18 hk2
            exact Or.inr ⟨fin (by rw [e26]; omega), mb1.bd (fun c hc => by rw [bad_ask hc]; exact Or.inl rfl)⟩
        · have e21 := X_wd (by omega) hw2
          have e26 := X_ask_0 (by rw [e21]; omega) hk2
          exact Or.inr ⟨fin (by rw [e26, e21]; omega), mb.bd (fun c hc => by rw [bad_own hc]; exact Or.inl rfl)⟩
      · exact absurd g c1
    · rcases g with ⟨g, _⟩ | ⟨_, g8, g⟩
      · omega
      · refine Or.inr ⟨g8, ?_⟩
        by_cases lt : T 1 3 < 3
        · rw [if_pos lt]
          rcases g with g | g
          · exact absurd (hx.mpr lt) g
          · exact Or.inl (bad_Person g)
        · rw [if_neg lt]
          exact Or.inl rfl
  rcases h2 with ⟨c, h2⟩ | ⟨c, h2⟩
  · exact d1 0 ⟨fun _ => by omega, fun _ => rfl⟩ h2
  · exact d1 1 ⟨fun g => absurd g (by decide), fun g => by omega⟩ h2
theorem M_must {f : Nat → Int} {N b p : Nat} {A u T : St} (hI : IM A) (h : MS f N b p A) (hR : MR b A T) (hq : q_X12_mustBe A u) : MT f N b (if T 1 6 < 6 then sMust f N T (tEnd f N p) else none) u := by
  have hb := h.bk
  have eb : (A 0 47).toNat = b := by rw [hb]; exact Int.toNat_natCast b
  have hct : A 25 b = T 1 6 := hR.2.1.2.1
  have r2 : (0 : Int) ≤ A 25 b ∧ A 25 b ≤ 6 := hI 25 b
  obtain ⟨n, hn⟩ : ∃ n : Nat, T 1 6 = (n : Int) := ⟨(T 1 6).toNat, by omega⟩
  obtain ⟨z1, hz1, h2⟩ := (hq.1 : tr_r_X12_mustBe A u)
  rw [eb, hct] at hz1
  have d1 : ∀ x, (x = 0 ↔ T 1 6 < 6) → d_X12_mustBe_1 A u x → MT f N b (if T 1 6 < 6 then sMust f N T (tEnd f N p) else none) u := by
    intro x hx h2
    obtain ⟨_, z8, A9, hc, h2⟩ := (h2 : tr_d_X12_mustBe_1 A u x)
    obtain ⟨q9, g⟩ := M_counts h hc
    rcases h2 with ⟨c1, h2⟩ | ⟨c1, rfl⟩
    · rcases g with ⟨_, x0, s9⟩ | ⟨g, _⟩
      · have lt := hx.mp x0
        rw [if_pos lt]
        obtain ⟨z14, hz14, h2⟩ := h2
        have e14 : z14 = (n : Int) := by rw [hz14, eb, q9 25 (by decide), hct, hn]
        have hNA := hR.1.rq q9
        obtain ⟨z15, A16, hf, A20, hA20, z21, A22, hw2, z26, hz26, A27, hA27, z28, A29, hk2, h2⟩ := h2
        obtain ⟨m, q16⟩ := M_ask_1 s9 hNA.2.1 hf
        have ix : (6 * A 0 47 + z14).toNat = 6 * b + n := by rw [hb, e14]; omega
        rw [ix, eb] at h2
        rw [ix] at hA20 hz26 hA27
        have q20 : rq A20 (stA A 26 (6 * b + n) z15) := by rw [hA20]; exact (q16.trans q9).st (by decide)
        have e208 : A20 0 8 = A16 0 8 := by rw [hA20]; rfl
        have e278 : A27 0 8 = A22 0 8 := by rw [hA27]; rfl
        have e26 : z26 = z21 := by rw [hz26, stA_same, up_same]
        rw [e26] at hk2
        have fin : 1 ≤ A29 0 8 → 1 ≤ u 0 8 := by
          intro g
          rcases h2 with ⟨_, A34, hA, hu⟩ | ⟨c, _⟩
          · rw [hu, hA]; exact g
          · omega
        have sp : ∀ p, sMust f N T p = (sAsk f N T 1 p).bind fun a => (sNum f N 0 1439 a.2).bind fun b => (sNum f N b.1 1439 b.2).bind fun c => some (sMustAdd T a.1 b.1 c.1, c.2) := fun _ => rfl
        rw [sp]
        rcases m with ⟨m8, a, sa, hz15, s16⟩ | ⟨m8, mb⟩
        · have s20 : MS f N b a.2 A20 := by rw [hA20]; exact s16.fr rfl (fun k _ => rfl)
          obtain ⟨m1, q22⟩ := M_num s20 hw2
          rw [sa]
          show MT f N b ((sNum f N 0 1439 a.2).bind fun b => (sNum f N b.1 1439 b.2).bind fun c => some (sMustAdd T a.1 b.1 c.1, c.2)) u
          rcases m1 with ⟨m18, d, sd, hz21, s22⟩ | ⟨m18, mb1⟩
          · have s27 : MS f N b d.2 A27 := by rw [hA27]; exact s22.fr rfl (fun k _ => rfl)
            have q27 : rq A27 (stA (stA A 26 (6 * b + n) z15) 27 (6 * b + n) z21) := by rw [hA27]; exact (q22.trans q20).st (by decide)
            obtain ⟨m2, q29⟩ := M_num s27 hk2
            rw [sd]
            show MT f N b ((sNum f N d.1 1439 d.2).bind fun c => some (sMustAdd T a.1 d.1 c.1, c.2)) u
            rw [hz21] at m2
            rcases m2 with ⟨m28, c, sc, hz, s29⟩ | ⟨m28, mb2⟩
            · rcases h2 with ⟨c, _⟩ | ⟨_, z35, hz35, A36, hA36, hu⟩
              · exact absurd m28 c
              · have e35 : z35 = (n : Int) := by
                  have hz35 : z35 = A29 25 b := hz35
                  rw [hz35, q29 25 (by decide), hA27]
                  show A22 25 b = (n : Int)
                  rw [q22 25 (by decide), hA20]
                  show A16 25 b = (n : Int)
                  rw [q16 25 (by decide), q9 25 (by decide), hct, hn]
                rw [e35, hz] at hA36
                rw [hz15, hz21] at q27
                refine Or.inl ⟨by rw [hu, hA36]; exact m28, (sMustAdd T a.1 d.1 c.1, c.2), by rw [sc]; rfl, ?_, by rw [hu, hA36]; exact s29.fr rfl (fun k _ => rfl)⟩
                refine (MR_must hR hn).rq ?_
                rw [hu, hA36]
                exact ((q29.trans q27).st (by decide)).st (by decide)
            · exact Or.inr ⟨fin m28, mb2.bd (fun c hc => bad_some hc)⟩
          · have e29 := X_num (by omega) hk2
            exact Or.inr ⟨fin (by rw [e29]; omega), mb1.bd (fun c hc => by rw [bad_num hc]; exact Or.inl rfl)⟩
        · have e22 := X_num (by omega) hw2
          have e29 := X_num (by rw [e278, e22]; omega) hk2
          exact Or.inr ⟨fin (by rw [e29, e278, e22]; omega), mb.bd (fun c hc => by rw [bad_num hc]; exact Or.inl rfl)⟩
      · exact absurd g c1
    · rcases g with ⟨g, _⟩ | ⟨_, g8, g⟩
      · omega
      · refine Or.inr ⟨g8, ?_⟩
        by_cases lt : T 1 6 < 6
        · rw [if_pos lt]
          rcases g with g | g
          · exact absurd (hx.mpr lt) g
          · exact Or.inl (bad_Must g)
        · rw [if_neg lt]
          exact Or.inl rfl
  rcases h2 with ⟨c, h2⟩ | ⟨c, h2⟩
  · exact d1 0 ⟨fun _ => by omega, fun _ => rfl⟩ h2
  · exact d1 1 ⟨fun g => absurd g (by decide), fun g => by omega⟩ h2
/-! The reference's doors and boxes. -/
theorem M_door {f : Nat → Int} {N b p : Nat} {A u T : St} (hI : IM A) (h : MS f N b p A) (hR : MR b A T) (hq : q_X12_door 0 A u) : MT f N b (if T 1 1 < 10 then sDoor f N T (tEnd f N p) else none) u := by
  have hb := h.bk
  have eb : (A 0 47).toNat = b := by rw [hb]; exact Int.toNat_natCast b
  have hct : A 4 b = T 1 1 := hR.1.2.1.1
  have r2 : (0 : Int) ≤ A 4 b ∧ A 4 b ≤ 10 := hI 4 b
  obtain ⟨n, hn⟩ : ∃ n : Nat, T 1 1 = (n : Int) := ⟨(T 1 1).toNat, by omega⟩
  obtain ⟨z1, hz1, h2⟩ : ∃ z1 : Int, z1 = A 4 ((A 0 47)).toNat ∧ (((¬ z1 = 10) ∧ (d_X12_door_1 A u 0)) ∨ ((z1 = 10) ∧ (d_X12_door_1 A u 1))) := by
    rcases (hq.1 : tr_r_X12_door 0 A u) with ⟨_, h2⟩ | ⟨c, _⟩
    · exact h2
    · exact absurd c (by decide)
  rw [eb, hct] at hz1
  have d1 : ∀ x, (x = 0 ↔ T 1 1 < 10) → d_X12_door_1 A u x → MT f N b (if T 1 1 < 10 then sDoor f N T (tEnd f N p) else none) u := by
    intro x hx h2
    obtain ⟨_, z8, A9, hc, h2⟩ := (h2 : tr_d_X12_door_1 A u x)
    obtain ⟨q9, g⟩ := M_counts h hc
    rcases h2 with ⟨c1, h2⟩ | ⟨c1, rfl⟩
    · rcases g with ⟨_, x0, s9⟩ | ⟨g, _⟩
      · have lt := hx.mp x0
        rw [if_pos lt]
        obtain ⟨z14, hz14, h2⟩ := h2
        have e14 : z14 = (n : Int) := by rw [hz14, eb, q9 4 (by decide), hct, hn]
        have hNA := hR.1.rq q9
        obtain ⟨z15, A16, hf, A20, hA20, z22, A23, hk1, A27, hA27, z29, hz29, A30, hbr, z34, A35, hk2, A39, hA39, z41, A42, hk3, h2⟩ := h2
        obtain ⟨m, q16⟩ := M_fresh s9 hNA hf
        have ix : (10 * A 0 47 + z14).toNat = 10 * b + n := by rw [hb, e14]; omega
        rw [ix, eb] at h2
        rw [ix] at hA20 hA27 hz29 hA39
        have q20 : rq A20 (stA A 5 (10 * b + n) z15) := by rw [hA20]; exact (q16.trans q9).st (by decide)
        have e208 : A20 0 8 = A16 0 8 := by rw [hA20]; rfl
        have e278 : A27 0 8 = A23 0 8 := by rw [hA27]; rfl
        have e398 : A39 0 8 = A35 0 8 := by rw [hA39]; rfl
        have e29 : z29 = z22 := by rw [hz29, hA27, stA_same, up_same]
        rw [e29] at hbr
        have fin : 1 ≤ A42 0 8 → 1 ≤ u 0 8 := by
          intro g
          rcases h2 with ⟨_, A47, hA, hu⟩ | ⟨c, _⟩
          · rw [hu, hA]; exact g
          · omega
        have f35 : 1 ≤ A35 0 8 → 1 ≤ u 0 8 := by
          intro g
          have e42 := X_num (by omega) hk3
          exact fin (by rw [e42]; omega)
        have f30 : 1 ≤ A30 0 8 → 1 ≤ u 0 8 := by
          intro g
          have e35 := X_ask_0 g hk2
          exact f35 (by rw [e35]; exact g)
        have f27 : 1 ≤ A27 0 8 → 1 ≤ u 0 8 := by
          intro g
          have e30 := X_bars g hbr
          exact f30 (by rw [e30]; exact g)
        have sp : ∀ p, sDoor f N T p = (sNew f N T p).bind fun a => (sAsk f N T 0 a.2).bind fun b => (sAsk f N T 0 b.2).bind fun c => if c.1 = b.1 then none else (sNum f N 1 99 c.2).bind fun d => some (sDoorAdd T a.1 b.1 c.1 d.1, d.2) := fun _ => rfl
        rw [sp]
        rcases m with ⟨m8, a, sa, hw, s16⟩ | ⟨m8, mb⟩
        · have s20 : MS f N b a.2 A20 := by rw [hA20]; exact s16.fr rfl (fun k _ => rfl)
          have n20 : NK0 b A20 T := by rw [hA20]; exact (show NK0 b A16 T from hR.1.1.rq (q16.trans q9))
          obtain ⟨m1, q23⟩ := M_ask_0 s20 n20 hk1
          rw [sa]
          show MT f N b ((sAsk f N T 0 a.2).bind fun b => (sAsk f N T 0 b.2).bind fun c => if c.1 = b.1 then none else (sNum f N 1 99 c.2).bind fun d => some (sDoorAdd T a.1 b.1 c.1 d.1, d.2)) u
          rcases m1 with ⟨m18, b1, sb, hz22, s23⟩ | ⟨m18, mb1⟩
          · have s27 : MS f N b b1.2 A27 := by rw [hA27]; exact s23.fr rfl (fun k _ => rfl)
            have q27 : rq A27 (stA (stA A 5 (10 * b + n) z15) 6 (10 * b + n) z22) := by rw [hA27]; exact (q23.trans q20).st (by decide)
            have n27 : NK0 b A27 T := by rw [hA27]; exact (show NK0 b A23 T from n20.rq q23)
            have bs := sAsk_some sb
            rw [sb]
            show MT f N b ((sAsk f N T 0 b1.2).bind fun c => if c.1 = b1.1 then none else (sNum f N 1 99 c.2).bind fun d => some (sDoorAdd T a.1 b1.1 c.1 d.1, d.2)) u
            rcases M_bars_0 (by rw [hz22]; omega) s27 n27 hbr with ⟨e30, nb⟩ | ⟨g30, tk, ow, fe⟩
            · rw [e30] at hk2
              obtain ⟨m2, q35⟩ := M_ask_0 s27 n27 hk2
              rcases m2 with ⟨m28, c, sc, hz34, s35⟩ | ⟨m28, mb2⟩
              · have ne : ¬ c.1 = b1.1 := by
                  intro ec
                  refine nb ?_
                  unfold sAsk sName at sc
                  by_cases g : tKind f N b1.2 = 1 ∧ isOwn5 (wv f N b1.2) = false
                  · rw [if_pos g] at sc
                    have sc : (if sFind T 0 (wv f N b1.2) = -1 then none else some (sFind T 0 (wv f N b1.2), tEnd f N b1.2)) = some c := sc
                    by_cases g2 : sFind T 0 (wv f N b1.2) = -1
                    · rw [if_pos g2] at sc; exact absurd sc (by simp)
                    · rw [if_neg g2] at sc
                      have sc := Option.some.inj sc
                      exact ⟨g.1, g.2, by rw [hz22, ← ec, ← sc]⟩
                  · rw [if_neg g] at sc; exact absurd sc (by simp)
                have s39 : MS f N b c.2 A39 := by rw [hA39]; exact s35.fr rfl (fun k _ => rfl)
                have q39 : rq A39 (stA (stA (stA (stA A 5 (10 * b + n) z15) 6 (10 * b + n) z22) 7 (10 * b + n) z34) 8 (10 * b + n) 0) := by rw [hA39]; exact ((q35.trans q27).st (by decide)).st (by decide)
                obtain ⟨m3, q42⟩ := M_num s39 hk3
                rw [sc]
                show MT f N b (if c.1 = b1.1 then none else (sNum f N 1 99 c.2).bind fun d => some (sDoorAdd T a.1 b1.1 c.1 d.1, d.2)) u
                rw [if_neg ne]
                rcases m3 with ⟨m38, d, sd, hz41, s42⟩ | ⟨m38, mb3⟩
                · rcases h2 with ⟨c, _⟩ | ⟨_, z48, hz48, A49, hA49, hu⟩
                  · exact absurd m38 c
                  · have e48 : z48 = (n : Int) := by
                      have hz48 : z48 = A42 4 b := hz48
                      rw [hz48, q42 4 (by decide), q39 4 (by decide)]
                      exact hct.trans hn
                    have dr : d.1 ≠ 0 := by
                      unfold sNum at sd
                      by_cases g : tKind f N c.2 = 2 ∧ 1 ≤ nv f N c.2 ∧ nv f N c.2 ≤ 99
                      · rw [if_pos g] at sd
                        have sd := Option.some.inj sd
                        have e : d.1 = nv f N c.2 := by rw [← sd]
                        omega
                      · rw [if_neg g] at sd; exact absurd sd (by simp)
                    rw [e48, hz41] at hA49
                    rw [hz22, hz34] at q39
                    refine Or.inl ⟨by rw [hu, hA49]; exact m38, (sDoorAdd T a.1 b1.1 c.1 d.1, d.2), by rw [sd]; rfl, ?_, by rw [hu, hA49]; exact s42.fr rfl (fun k _ => rfl)⟩
                    refine (MR_door (v := 0) hR hn hw (sNew_some sa).1 ⟨fun _ => dr, fun _ => rfl⟩).rq ?_
                    rw [hu, hA49]
                    exact (((q42.trans q39).st (by decide)).st (by decide)).st (by decide)
                · exact Or.inr ⟨fin m38, mb3.bd (fun c hc => bad_some hc)⟩
              · refine Or.inr ⟨f35 m28, mb2.bd (fun c hc => ?_)⟩
                by_cases g : c.1 = b1.1
                · rw [if_pos g]; exact Or.inl rfl
                · rw [if_neg g, bad_num hc]; exact Or.inl rfl
            · refine Or.inr ⟨f30 g30, Or.inl ?_⟩
              have sn : sName f N b1.2 = some (wv f N b1.2, tEnd f N b1.2) := by unfold sName; rw [if_pos ⟨tk, ow⟩]
              have sa2 : sAsk f N T 0 b1.2 = some (sFind T 0 (wv f N b1.2), tEnd f N b1.2) := by
                unfold sAsk
                rw [sn]
                show (if sFind T 0 (wv f N b1.2) = -1 then none else some (sFind T 0 (wv f N b1.2), tEnd f N b1.2)) = _
                rw [if_neg (by rw [fe, hz22]; omega)]
              rw [sa2]
              show (if sFind T 0 (wv f N b1.2) = b1.1 then none else _) = none
              rw [if_pos (by rw [fe, hz22])]
          · exact Or.inr ⟨f27 (by omega), mb1.bd (fun c hc => by rw [bad_ask hc]; exact Or.inl rfl)⟩
        · have e23 := X_ask_0 (by omega) hk1
          exact Or.inr ⟨f27 (by rw [e278, e23]; omega), mb.bd (fun c hc => by rw [bad_ask hc]; exact Or.inl rfl)⟩
      · exact absurd g c1
    · rcases g with ⟨g, _⟩ | ⟨_, g8, g⟩
      · omega
      · refine Or.inr ⟨g8, ?_⟩
        by_cases lt : T 1 1 < 10
        · rw [if_pos lt]
          rcases g with g | g
          · exact absurd (hx.mpr lt) g
          · exact Or.inl (bad_Door g)
        · rw [if_neg lt]
          exact Or.inl rfl
  rcases h2 with ⟨c, h2⟩ | ⟨c, h2⟩
  · exact d1 0 ⟨fun _ => by omega, fun _ => rfl⟩ h2
  · exact d1 1 ⟨fun g => absurd g (by decide), fun g => by omega⟩ h2
theorem M_box {f : Nat → Int} {N b p : Nat} {A u T : St} (hI : IM A) (h : MS f N b p A) (hR : MR b A T) (hq : q_X12_door 1 A u) : MT f N b (if T 1 1 < 10 then sBox f N T (tEnd f N p) else none) u := by
  have hb := h.bk
  have eb : (A 0 47).toNat = b := by rw [hb]; exact Int.toNat_natCast b
  have hct : A 4 b = T 1 1 := hR.1.2.1.1
  have r2 : (0 : Int) ≤ A 4 b ∧ A 4 b ≤ 10 := hI 4 b
  obtain ⟨n, hn⟩ : ∃ n : Nat, T 1 1 = (n : Int) := ⟨(T 1 1).toNat, by omega⟩
  obtain ⟨z1, hz1, h2⟩ : ∃ z1 : Int, z1 = A 4 ((A 0 47)).toNat ∧ (((¬ z1 = 10) ∧ (d_X12_door_2 A u 0)) ∨ ((z1 = 10) ∧ (d_X12_door_2 A u 1))) := by
    rcases (hq.1 : tr_r_X12_door 1 A u) with ⟨c, _⟩ | ⟨_, h2⟩
    · exact absurd c (by decide)
    · exact h2
  rw [eb, hct] at hz1
  have d1 : ∀ x, (x = 0 ↔ T 1 1 < 10) → d_X12_door_2 A u x → MT f N b (if T 1 1 < 10 then sBox f N T (tEnd f N p) else none) u := by
    intro x hx h2
    obtain ⟨_, z8, A9, hc, h2⟩ := (h2 : tr_d_X12_door_2 A u x)
    obtain ⟨q9, g⟩ := M_counts h hc
    rcases h2 with ⟨c1, h2⟩ | ⟨c1, rfl⟩
    · rcases g with ⟨_, x0, s9⟩ | ⟨g, _⟩
      · have lt := hx.mp x0
        rw [if_pos lt]
        obtain ⟨z14, hz14, h2⟩ := h2
        have e14 : z14 = (n : Int) := by rw [hz14, eb, q9 4 (by decide), hct, hn]
        have hNA := hR.1.rq q9
        obtain ⟨z15, A16, hf, A20, hA20, A21, hw2, z25, A26, hk2, A80, hA80, z83, hz83, A84, hA84, h2⟩ := h2
        obtain ⟨m, q16⟩ := M_fresh s9 hNA hf
        have ix : (10 * A 0 47 + z14).toNat = 10 * b + n := by rw [hb, e14]; omega
        rw [ix, eb] at h2
        rw [ix] at hA20 hA80 hz83 hA84
        have q20 : rq A20 (stA A 5 (10 * b + n) z15) := by rw [hA20]; exact (q16.trans q9).st (by decide)
        have e208 : A20 0 8 = A16 0 8 := by rw [hA20]; rfl
        have e848 : A84 0 8 = A26 0 8 := by rw [hA84, hA80]; rfl
        have e83 : z83 = z25 := by rw [hz83, hA80, stA_same, up_same]
        rw [e83] at hA84
        have fin : 1 ≤ A26 0 8 → 1 ≤ u 0 8 := by
          intro g
          rcases h2 with ⟨_, A31, hA, hu⟩ | ⟨c, _⟩
          · rw [hu, hA]
            show 1 ≤ A84 0 8
            omega
          · omega
        have sp : ∀ p, sBox f N T p = (sNew f N T p).bind fun a => (sOwn f N 12 a.2).bind fun b => (sAsk f N T 0 b).bind fun c => some (sDoorAdd T a.1 c.1 c.1 0, c.2) := fun _ => rfl
        rw [sp]
        rcases m with ⟨m8, a, sa, hw, s16⟩ | ⟨m8, mb⟩
        · have s20 : MS f N b a.2 A20 := by rw [hA20]; exact s16.fr rfl (fun k _ => rfl)
          obtain ⟨m1, q21⟩ := M_wd (k := 12) (by decide) rfl s20 hw2
          rw [sa]
          show MT f N b ((sOwn f N 12 a.2).bind fun b => (sAsk f N T 0 b).bind fun c => some (sDoorAdd T a.1 c.1 c.1 0, c.2)) u
          rcases m1 with ⟨m18, e, se, s21⟩ | ⟨m18, mb1⟩
          · have n0 : NK0 b A21 T := by
              refine NK0.rq ?_ q21
              rw [hA20]
              exact (show NK0 b A16 T from hR.1.1.rq (q16.trans q9))
            obtain ⟨m2, q26⟩ := M_ask_0 s21 n0 hk2
            rw [se]
            show MT f N b ((sAsk f N T 0 e).bind fun c => some (sDoorAdd T a.1 c.1 c.1 0, c.2)) u
            rcases m2 with ⟨m28, c, sc, hz, s26⟩ | ⟨m28, mb2⟩
            · rcases h2 with ⟨c, _⟩ | ⟨_, z32, hz32, A33, hA33, hu⟩
              · exact absurd m28 c
              · have q84 : rq A84 (stA (stA (stA (stA A 5 (10 * b + n) z15) 6 (10 * b + n) z25) 7 (10 * b + n) z25) 8 (10 * b + n) 1) := by
                  rw [hA84, hA80]
                  exact ((((q26.trans q21).trans q20).st (by decide)).st (by decide)).st (by decide)
                have e32 : z32 = (n : Int) := by
                  have hz32 : z32 = A84 4 b := hz32
                  rw [hz32, q84 4 (by decide)]
                  exact hct.trans hn
                rw [e32] at hA33
                rw [hz] at q84
                have s84 : MS f N b c.2 A84 := by rw [hA84, hA80]; exact s26.fr rfl (fun k _ => rfl)
                refine Or.inl ⟨by rw [hu, hA33]; show A84 0 8 = 0; omega, (sDoorAdd T a.1 c.1 c.1 0, c.2), by rw [sc]; rfl, ?_, by rw [hu, hA33]; exact s84.fr rfl (fun k _ => rfl)⟩
                refine (MR_door (v := 1) hR hn hw (sNew_some sa).1 ⟨fun g => absurd g (by decide), fun g => absurd rfl g⟩).rq ?_
                rw [hu, hA33]
                exact ((q84.st (by decide)).st (by decide)).st (by decide)
            · exact Or.inr ⟨fin m28, mb2.bd (fun c hc => bad_some hc)⟩
          · have e26 := X_ask_0 m18 hk2
            exact Or.inr ⟨fin (by rw [e26]; omega), mb1.bd (fun c hc => by rw [bad_ask hc]; exact Or.inl rfl)⟩
        · have e21 := X_wd (by omega) hw2
          have e26 := X_ask_0 (by rw [e21]; omega) hk2
          exact Or.inr ⟨fin (by rw [e26, e21]; omega), mb.bd (fun c hc => by rw [bad_own hc]; exact Or.inl rfl)⟩
      · exact absurd g c1
    · rcases g with ⟨g, _⟩ | ⟨_, g8, g⟩
      · omega
      · refine Or.inr ⟨g8, ?_⟩
        by_cases lt : T 1 1 < 10
        · rw [if_pos lt]
          rcases g with g | g
          · exact absurd (hx.mpr lt) g
          · exact Or.inl (bad_Box g)
        · rw [if_neg lt]
          exact Or.inl rfl
  rcases h2 with ⟨c, h2⟩ | ⟨c, h2⟩
  · exact d1 0 ⟨fun _ => by omega, fun _ => rfl⟩ h2
  · exact d1 1 ⟨fun g => absurd g (by decide), fun g => by omega⟩ h2
/-! The reference's statements that change what was told. -/
theorem pre_1 {f : Nat → Int} {N b p : Nat} {A T : St} {x1 : Int} {P0 : Prop} {P : Int → Prop} (h : MS f N b p A) (hn : NK1 b A T) (h2 : ((¬ (A 0 8) = 0) ∧ P0) ∨ (((A 0 8) = 0) ∧ (((¬ (A 0 3) = 1) ∧ P0) ∨ (((A 0 3) = 1) ∧ (∃ z16 : Int, q_X12_isOwn (A 0 7) A z16 ∧ (((¬ z16 = 0) ∧ P0) ∨ ((z16 = 0) ∧ (∃ z20 : Int, q_X12_named_1 x1 (A 0 7) A z20 ∧ P z20)))))))) : (sAsk f N T 1 p = none ∧ (P0 ∨ P (-1))) ∨ (∃ v : Int, v ≠ -1 ∧ (0 ≤ v ∧ v < T 1 1) ∧ sAsk f N T 1 p = some (v, tEnd f N p) ∧ tKind f N p = 1 ∧ isOwn5 (wv f N p) = false ∧ v = sFind T 1 (wv f N p) ∧ P v) := by
  rcases h2 with ⟨c, _⟩ | ⟨_, h2⟩
  · exact absurd h.ns c
  · rcases h2 with ⟨c1, h2⟩ | ⟨c1, z5, ho, h2⟩
    · refine Or.inl ⟨?_, Or.inl h2⟩
      unfold sAsk sName
      rw [if_neg (fun g => c1 (by rw [h.sg]; exact g.1))]
    · have tk : tKind f N p = 1 := by rw [← h.sg]; exact c1
      have g := h.own tk ho
      rcases h2 with ⟨c2, h2⟩ | ⟨c2, z20, hm, h2⟩
      · refine Or.inl ⟨?_, Or.inl h2⟩
        have ow : isOwn5 (wv f N p) = true := by
          rcases g with g | g
          · exact absurd g.1 c2
          · exact g.2
        unfold sAsk sName
        rw [if_neg (fun g => by rw [ow] at g; exact absurd g.2 (by decide))]
      · have ow : isOwn5 (wv f N p) = false := by
          rcases g with g | g
          · exact g.2
          · omega
        have sn : sName f N p = some (wv f N p, tEnd f N p) := by
          unfold sName
          rw [if_pos ⟨tk, ow⟩]
        have sa : sAsk f N T 1 p = if sFind T 1 (wv f N p) = -1 then none else some (sFind T 1 (wv f N p), tEnd f N p) := by
          unfold sAsk
          rw [sn]
        have e := nmd_1 h.bk hn (h.word tk) hm
        have b1 := sFind_b T 1 (wv f N p)
        rw [← e] at sa b1
        by_cases g1 : z20 = -1
        · rw [if_pos g1] at sa
          rw [g1] at h2
          exact Or.inl ⟨sa, Or.inr h2⟩
        · rw [if_neg g1] at sa
          rcases b1 with b1 | b1
          · exact absurd b1 g1
          · exact Or.inr ⟨z20, g1, b1, sa, tk, ow, e, h2⟩
theorem pre_2 {f : Nat → Int} {N b p : Nat} {A T : St} {x1 : Int} {P0 : Prop} {P : Int → Prop} (h : MS f N b p A) (hn : NK2 b A T) (h2 : ((¬ (A 0 8) = 0) ∧ P0) ∨ (((A 0 8) = 0) ∧ (((¬ (A 0 3) = 1) ∧ P0) ∨ (((A 0 3) = 1) ∧ (∃ z16 : Int, q_X12_isOwn (A 0 7) A z16 ∧ (((¬ z16 = 0) ∧ P0) ∨ ((z16 = 0) ∧ (∃ z20 : Int, q_X12_named_2 x1 (A 0 7) A z20 ∧ P z20)))))))) : (sAsk f N T 2 p = none ∧ (P0 ∨ P (-1))) ∨ (∃ v : Int, v ≠ -1 ∧ (0 ≤ v ∧ v < T 1 2) ∧ sAsk f N T 2 p = some (v, tEnd f N p) ∧ tKind f N p = 1 ∧ isOwn5 (wv f N p) = false ∧ v = sFind T 2 (wv f N p) ∧ P v) := by
  rcases h2 with ⟨c, _⟩ | ⟨_, h2⟩
  · exact absurd h.ns c
  · rcases h2 with ⟨c1, h2⟩ | ⟨c1, z5, ho, h2⟩
    · refine Or.inl ⟨?_, Or.inl h2⟩
      unfold sAsk sName
      rw [if_neg (fun g => c1 (by rw [h.sg]; exact g.1))]
    · have tk : tKind f N p = 1 := by rw [← h.sg]; exact c1
      have g := h.own tk ho
      rcases h2 with ⟨c2, h2⟩ | ⟨c2, z20, hm, h2⟩
      · refine Or.inl ⟨?_, Or.inl h2⟩
        have ow : isOwn5 (wv f N p) = true := by
          rcases g with g | g
          · exact absurd g.1 c2
          · exact g.2
        unfold sAsk sName
        rw [if_neg (fun g => by rw [ow] at g; exact absurd g.2 (by decide))]
      · have ow : isOwn5 (wv f N p) = false := by
          rcases g with g | g
          · exact g.2
          · omega
        have sn : sName f N p = some (wv f N p, tEnd f N p) := by
          unfold sName
          rw [if_pos ⟨tk, ow⟩]
        have sa : sAsk f N T 2 p = if sFind T 2 (wv f N p) = -1 then none else some (sFind T 2 (wv f N p), tEnd f N p) := by
          unfold sAsk
          rw [sn]
        have e := nmd_2 h.bk hn (h.word tk) hm
        have b1 := sFind_b T 2 (wv f N p)
        rw [← e] at sa b1
        by_cases g1 : z20 = -1
        · rw [if_pos g1] at sa
          rw [g1] at h2
          exact Or.inl ⟨sa, Or.inr h2⟩
        · rw [if_neg g1] at sa
          rcases b1 with b1 | b1
          · exact absurd b1 g1
          · exact Or.inr ⟨z20, g1, b1, sa, tk, ow, e, h2⟩
theorem pre_3 {f : Nat → Int} {N b p : Nat} {A T : St} {x1 : Int} {P0 : Prop} {P : Int → Prop} (h : MS f N b p A) (hn : NK3 b A T) (h2 : ((¬ (A 0 8) = 0) ∧ P0) ∨ (((A 0 8) = 0) ∧ (((¬ (A 0 3) = 1) ∧ P0) ∨ (((A 0 3) = 1) ∧ (∃ z16 : Int, q_X12_isOwn (A 0 7) A z16 ∧ (((¬ z16 = 0) ∧ P0) ∨ ((z16 = 0) ∧ (∃ z20 : Int, q_X12_named_3 x1 (A 0 7) A z20 ∧ P z20)))))))) : (sAsk f N T 3 p = none ∧ (P0 ∨ P (-1))) ∨ (∃ v : Int, v ≠ -1 ∧ (0 ≤ v ∧ v < T 1 3) ∧ sAsk f N T 3 p = some (v, tEnd f N p) ∧ tKind f N p = 1 ∧ isOwn5 (wv f N p) = false ∧ v = sFind T 3 (wv f N p) ∧ P v) := by
  rcases h2 with ⟨c, _⟩ | ⟨_, h2⟩
  · exact absurd h.ns c
  · rcases h2 with ⟨c1, h2⟩ | ⟨c1, z5, ho, h2⟩
    · refine Or.inl ⟨?_, Or.inl h2⟩
      unfold sAsk sName
      rw [if_neg (fun g => c1 (by rw [h.sg]; exact g.1))]
    · have tk : tKind f N p = 1 := by rw [← h.sg]; exact c1
      have g := h.own tk ho
      rcases h2 with ⟨c2, h2⟩ | ⟨c2, z20, hm, h2⟩
      · refine Or.inl ⟨?_, Or.inl h2⟩
        have ow : isOwn5 (wv f N p) = true := by
          rcases g with g | g
          · exact absurd g.1 c2
          · exact g.2
        unfold sAsk sName
        rw [if_neg (fun g => by rw [ow] at g; exact absurd g.2 (by decide))]
      · have ow : isOwn5 (wv f N p) = false := by
          rcases g with g | g
          · exact g.2
          · omega
        have sn : sName f N p = some (wv f N p, tEnd f N p) := by
          unfold sName
          rw [if_pos ⟨tk, ow⟩]
        have sa : sAsk f N T 3 p = if sFind T 3 (wv f N p) = -1 then none else some (sFind T 3 (wv f N p), tEnd f N p) := by
          unfold sAsk
          rw [sn]
        have e := nmd_3 h.bk hn (h.word tk) hm
        have b1 := sFind_b T 3 (wv f N p)
        rw [← e] at sa b1
        by_cases g1 : z20 = -1
        · rw [if_pos g1] at sa
          rw [g1] at h2
          exact Or.inl ⟨sa, Or.inr h2⟩
        · rw [if_neg g1] at sa
          rcases b1 with b1 | b1
          · exact absurd b1 g1
          · exact Or.inr ⟨z20, g1, b1, sa, tk, ow, e, h2⟩
theorem M_has {f : Nat → Int} {N b p : Nat} {A u T : St} (h : MS f N b p A) (hR : MR b A T) (hq : q_X12_having A u) : MT f N b (sHas f N T (tEnd f N p)) u := by
  have hb := h.bk
  obtain ⟨z1, A2, hc, h2⟩ := (hq.1 : tr_r_X12_having A u)
  obtain ⟨q2, g⟩ := M_counts h hc
  rcases h2 with ⟨c1, z7, A8, hk, h2⟩ | ⟨c1, rfl⟩
  · rcases g with ⟨_, _, s2⟩ | ⟨g, _⟩
    · have sp : ∀ p, sHas f N T p = (sAsk f N T 3 p).bind fun a => (sAsk f N T 2 a.2).bind fun b => if 10 ≤ T 24 b.1.toNat then some (stA T 24 b.1.toNat a.1, b.2) else none := fun _ => rfl
      obtain ⟨m, q8⟩ := M_ask_3 s2 (hR.1.2.2.2.1.rq q2) hk
      have q8' := q8.trans q2
      have d3f : ∀ A35, 1 ≤ A35 0 8 → d_X12_having_3 z7 A u A35 → u = A35 := by
        intro A35 g h3
        obtain ⟨_, z37, A38, hk2, h3⟩ := (h3 : tr_d_X12_having_3 z7 A u A35)
        have e := X_ask_2 g hk2
        rcases h3 with ⟨_, hu⟩ | ⟨c, _⟩
        · rw [hu, e]
        · rw [e] at c; omega
      rw [sp]
      rcases m with ⟨m8, a, sa, hz7, s8⟩ | ⟨m8, mb⟩
      · rw [sa]
        show MT f N b ((sAsk f N T 2 a.2).bind fun b => if 10 ≤ T 24 b.1.toNat then some (stA T 24 b.1.toNat a.1, b.2) else none) u
        have n2 : NK2 b A8 T := hR.1.2.2.1.rq q8'
        have d3 : (∀ c, sAsk f N T 2 a.2 = some c → 10 ≤ T 24 c.1.toNat) → d_X12_having_3 z7 A u A8 → MT f N b ((sAsk f N T 2 a.2).bind fun b => if 10 ≤ T 24 b.1.toNat then some (stA T 24 b.1.toNat a.1, b.2) else none) u := by
          intro hs h3
          obtain ⟨_, z37, A38, hk2, h3⟩ := (h3 : tr_d_X12_having_3 z7 A u A8)
          obtain ⟨m2, q38⟩ := M_ask_2 s8 n2 hk2
          rcases m2 with ⟨m28, c, sc, hz, s38⟩ | ⟨m28, mb2⟩
          · rcases h3 with ⟨c, _⟩ | ⟨_, A43, hA, hu⟩
            · exact absurd m28 c
            · have l := sAsk_some sc
              have ix : (4 * A 0 47 + z37).toNat = 4 * b + c.1.toNat := by rw [hb, hz]; omega
              rw [ix, hz7] at hA
              rw [sc]
              show MT f N b (if 10 ≤ T 24 c.1.toNat then some (stA T 24 c.1.toNat a.1, c.2) else none) u
              rw [if_pos (hs c sc)]
              refine Or.inl ⟨by rw [hu, hA]; exact m28, _, rfl, ?_, by rw [hu, hA]; exact s38.fr rfl (fun k _ => rfl)⟩
              refine (MR_has hR).rq ?_
              rw [hu, hA]
              exact (q38.trans q8').st (by decide)
          · refine Or.inr ⟨?_, mb2.bd (fun c hc => ?_)⟩
            · rcases h3 with ⟨_, hu⟩ | ⟨c, _⟩
              · rw [hu]; exact m28
              · omega
            · by_cases g : 10 ≤ T 24 c.1.toNat
              · rw [if_pos g]; exact bad_some hc
              · rw [if_neg g]; exact Or.inl rfl
        have d2 : sAsk f N T 2 a.2 = none → d_X12_having_2 z7 A A8 u (-1) → MT f N b ((sAsk f N T 2 a.2).bind fun b => if 10 ≤ T 24 b.1.toNat then some (stA T 24 b.1.toNat a.1, b.2) else none) u := by
          intro hs h3
          obtain ⟨_, h3⟩ := (h3 : tr_d_X12_having_2 z7 A A8 u (-1))
          rcases h3 with ⟨_, h3⟩ | ⟨c, _⟩
          · exact d3 (fun c sc => by rw [hs] at sc; exact absurd sc (by simp)) h3
          · exact absurd rfl c
        rcases pre_2 (P0 := d_X12_having_1 z7 A A8 u) (P := fun v => d_X12_having_2 z7 A A8 u v) s8 n2 h2 with ⟨hs, h3⟩ | ⟨v, v1, vb, hs, _, _, _, h3⟩
        · rcases h3 with h3 | h3
          · exact d2 hs h3
          · exact d2 hs h3
        · obtain ⟨_, h3⟩ := (h3 : tr_d_X12_having_2 z7 A A8 u v)
          rcases h3 with ⟨c, _⟩ | ⟨_, z29, hz29, h3⟩
          · exact absurd c v1
          · have ix : (4 * A 0 47 + v).toNat = 4 * b + v.toNat := by rw [hb]; omega
            have ek := (hR.2.2.2.2.2.2.1.1 v.toNat (by omega)).1
            rw [ix, q8' 13 (by decide), ek] at hz29
            rcases h3 with ⟨c2, h3⟩ | ⟨c2, A31, hbl, h3⟩
            · refine d3 (fun c sc => ?_) h3
              rw [hs] at sc
              have sc := Option.some.inj sc
              rw [← sc, ← hz29]
              exact c2
            · have f1 := hbl.2.2.2
              rw [d3f A31 f1 h3]
              refine Or.inr ⟨f1, Or.inl ?_⟩
              rw [hs]
              show (if 10 ≤ T 24 v.toNat then _ else none) = none
              rw [if_neg (by rw [← hz29]; exact c2)]
      · refine Or.inr ⟨?_, mb.bd (fun c hc => by rw [bad_ask hc]; exact Or.inl rfl)⟩
        rcases h2 with ⟨_, h2⟩ | ⟨c, _⟩
        · obtain ⟨_, h3⟩ := (h2 : tr_d_X12_having_2 z7 A A8 u (-1))
          rcases h3 with ⟨_, h3⟩ | ⟨c, _⟩
          · rw [d3f A8 m8 h3]; exact m8
          · exact absurd rfl c
        · omega
    · exact absurd g c1
  · rcases g with ⟨g, _⟩ | ⟨_, g8, g⟩
    · omega
    · refine Or.inr ⟨g8, Or.inl ?_⟩
      rcases g with g | g
      · exact absurd rfl g
      · exact bad_Has g
theorem M_lost {f : Nat → Int} {N b p : Nat} {A u T : St} (hI : IM A) (h : MS f N b p A) (hR : MR b A T) (hq : q_X12_losing A u) : MT f N b (sLost f N T (tEnd f N p)) u := by
  have hb := h.bk
  have hct : A 4 b = T 1 1 := hR.1.2.1.1
  have r2 : (0 : Int) ≤ A 4 b ∧ A 4 b ≤ 10 := hI 4 b
  obtain ⟨z1, A2, hc, h2⟩ := (hq.1 : tr_r_X12_losing A u)
  obtain ⟨q2, g⟩ := M_counts h hc
  rcases h2 with ⟨c1, h2⟩ | ⟨c1, rfl⟩
  · rcases g with ⟨_, _, s2⟩ | ⟨g, _⟩
    · have sp : ∀ p, sLost f N T p = (sAsk f N T 1 p).bind fun a => if oAnd (oShr (T 0 15) a.1) 1 = 0 then some (stA T 0 15 (oOr (T 0 15) (oShl 1 a.1)), a.2) else none := fun _ => rfl
      have d3f : ∀ A35, 1 ≤ A35 0 8 → d_X12_losing_3 A u A35 → u = A35 := by
        intro A35 g h3
        obtain ⟨_, z37, A38, hk2, h3⟩ := (h3 : tr_d_X12_losing_3 A u A35)
        have e := X_ask_1 g hk2
        rcases h3 with ⟨_, hu⟩ | ⟨c, _⟩
        · rw [hu, e]
        · rw [e] at c; omega
      rw [sp]
      have n1 : NK1 b A2 T := hR.1.2.1.rq q2
      have d3 : (∀ c, sAsk f N T 1 (tEnd f N p) = some c → oAnd (oShr (T 0 15) c.1) 1 = 0) → d_X12_losing_3 A u A2 → MT f N b ((sAsk f N T 1 (tEnd f N p)).bind fun a => if oAnd (oShr (T 0 15) a.1) 1 = 0 then some (stA T 0 15 (oOr (T 0 15) (oShl 1 a.1)), a.2) else none) u := by
        intro hs h3
        obtain ⟨_, z37, A38, hk2, h3⟩ := (h3 : tr_d_X12_losing_3 A u A2)
        obtain ⟨m2, q38⟩ := M_ask_1 s2 n1 hk2
        rcases m2 with ⟨m28, c, sc, hz, s38⟩ | ⟨m28, mb2⟩
        · rcases h3 with ⟨c, _⟩ | ⟨_, A43, hA, hu⟩
          · exact absurd m28 c
          · have l := sAsk_some sc
            have ix : (10 * A 0 47 + z37).toNat = 10 * b + c.1.toNat := by rw [hb, hz]; omega
            rw [ix] at hA
            have hs := hs c sc
            rw [sc]
            show MT f N b (if oAnd (oShr (T 0 15) c.1) 1 = 0 then some (stA T 0 15 (oOr (T 0 15) (oShl 1 c.1)), c.2) else none) u
            rw [if_pos hs]
            refine Or.inl ⟨by rw [hu, hA]; exact m28, _, rfl, ?_, by rw [hu, hA]; exact s38.fr rfl (fun k _ => rfl)⟩
            have mr := MR_lost (n := c.1.toNat) hR (by omega) (by omega)
            rw [show ((c.1.toNat : Nat) : Int) = c.1 by omega] at mr
            refine mr.rq ?_
            rw [hu, hA]
            exact (q38.trans q2).st (by decide)
        · refine Or.inr ⟨?_, mb2.bd (fun c hc => ?_)⟩
          · rcases h3 with ⟨_, hu⟩ | ⟨c, _⟩
            · rw [hu]; exact m28
            · omega
          · by_cases g : oAnd (oShr (T 0 15) c.1) 1 = 0
            · rw [if_pos g]; exact bad_some hc
            · rw [if_neg g]; exact Or.inl rfl
      have d2 : sAsk f N T 1 (tEnd f N p) = none → d_X12_losing_2 A A2 u (-1) → MT f N b ((sAsk f N T 1 (tEnd f N p)).bind fun a => if oAnd (oShr (T 0 15) a.1) 1 = 0 then some (stA T 0 15 (oOr (T 0 15) (oShl 1 a.1)), a.2) else none) u := by
        intro hs h3
        obtain ⟨_, h3⟩ := (h3 : tr_d_X12_losing_2 A A2 u (-1))
        rcases h3 with ⟨_, h3⟩ | ⟨c, _⟩
        · exact d3 (fun c sc => by rw [hs] at sc; exact absurd sc (by simp)) h3
        · exact absurd rfl c
      rcases pre_1 (P0 := d_X12_losing_1 A A2 u) (P := fun v => d_X12_losing_2 A A2 u v) s2 n1 h2 with ⟨hs, h3⟩ | ⟨v, v1, vb, hs, _, _, _, h3⟩
      · rcases h3 with h3 | h3
        · exact d2 hs h3
        · exact d2 hs h3
      · obtain ⟨_, h3⟩ := (h3 : tr_d_X12_losing_2 A A2 u v)
        rcases h3 with ⟨c, _⟩ | ⟨_, z29, hz29, h3⟩
        · exact absurd c v1
        · have ix : (10 * A 0 47 + v).toNat = 10 * b + v.toNat := by rw [hb]; omega
          have ml := hR.2.2.2.2.2.1
          have ek := ml.2.1 v.toNat (by omega)
          have eb := bit_iff (d := v.toNat) ml.1 (by omega)
          rw [show ((v.toNat : Nat) : Int) = v by omega] at eb
          rw [ix, q2 10 (by decide)] at hz29
          rw [← hz29, ← eb] at ek
          rcases h3 with ⟨c2, h3⟩ | ⟨c2, A31, hbl, h3⟩
          · refine d3 (fun c sc => ?_) h3
            rw [hs] at sc
            have sc := Option.some.inj sc
            rw [← sc]
            exact ek.mp c2
          · have f1 := hbl.2.2.2
            rw [d3f A31 f1 h3]
            refine Or.inr ⟨f1, Or.inl ?_⟩
            rw [hs]
            show (if oAnd (oShr (T 0 15) v) 1 = 0 then _ else none) = none
            rw [if_neg (fun g => c2 (ek.mpr g))]
    · exact absurd g c1
  · rcases g with ⟨g, _⟩ | ⟨_, g8, g⟩
    · omega
    · refine Or.inr ⟨g8, Or.inl ?_⟩
      rcases g with g | g
      · exact absurd rfl g
      · exact bad_Lost g
/-! The reference's shutting. -/
theorem inRow_fnd {x1 x2 : Int} {A : St} {z : Int} (hx : 0 ≤ x1) (h : q_X12_isInRow x1 x2 A z) : (z = 0 ∧ fnd (fun k => A 15 (10 * x1.toNat + k)) x2 (A 14 x1.toNat).toNat 0 = -1) ∨ (z = 1 ∧ fnd (fun k => A 15 (10 * x1.toNat + k)) x2 (A 14 x1.toNat).toNat 0 ≠ -1) := by
  obtain ⟨nn, h⟩ := (h.1 : tr_r_X12_isInRow x1 x2 A z)
  have lp : ∀ n (i : Nat), d_X12_isInRow_1 x1 x2 A z n (i : Int) → (z = 0 ∧ fnd (fun k => A 15 (10 * x1.toNat + k)) x2 ((A 14 x1.toNat).toNat - i) i = -1) ∨ (z = 1 ∧ fnd (fun k => A 15 (10 * x1.toNat + k)) x2 ((A 14 x1.toNat).toNat - i) i ≠ -1) := by
    intro n
    induction n with
    | zero => intro i h; exact h.elim
    | succ n ih =>
      intro i h
      obtain ⟨_, z9, hz9, h⟩ := (h : tr_d_X12_isInRow_1 x1 x2 A z (fun z1 => d_X12_isInRow_1 x1 x2 A z n z1) i)
      rcases h with ⟨c, hz⟩ | ⟨c, z11, hz11, h⟩
      · rw [show (A 14 x1.toNat).toNat - i = 0 by omega]
        exact Or.inl ⟨hz, rfl⟩
      · obtain ⟨k, hk⟩ : ∃ k, (A 14 x1.toNat).toNat - i = k + 1 := ⟨(A 14 x1.toNat).toNat - i - 1, by omega⟩
        rw [show (10 * x1 + (i : Int)).toNat = 10 * x1.toNat + i by omega] at hz11
        rw [hk]
        unfold fnd
        rcases h with ⟨c2, h⟩ | ⟨c2, hz⟩
        · rw [if_neg (show ¬ (fun k => A 15 (10 * x1.toNat + k)) i = x2 from fun g => c2 (hz11.trans g))]
          have := ih (i + 1) h
          rw [show (A 14 x1.toNat).toNat - (i + 1) = k by omega] at this
          exact this
        · rw [if_pos (show (fun k => A 15 (10 * x1.toNat + k)) i = x2 from hz11.symm.trans c2)]
          exact Or.inr ⟨hz, by omega⟩
  exact lp nn 0 h
def shL (z7 : Int) (A u B : St) : Prop := ∃ z18 : Int, ∃ A19 : St, q_X12_asked_2 2 B z18 A19 ∧ ((((A19 0 8) ≤ 0) ∧ (∃ z24 : Int, z24 = A19 14 (4 * (A 0 47) + z18).toNat ∧ (∃ z25 : Int, z25 = (stA A19 15 (40 * (A 0 47) + 10 * z18 + z24).toNat z7) 14 (4 * (A 0 47) + z18).toNat ∧ (∃ A26 : St, A26 = (stA (stA A19 15 (40 * (A 0 47) + 10 * z18 + z24).toNat z7) 14 (4 * (A 0 47) + z18).toNat (z25 + 1)) ∧ (u = A26))))) ∨ ((¬ (A19 0 8) ≤ 0) ∧ (u = A19)))
theorem shL_x {z7 : Int} {A u B : St} (g : 1 ≤ B 0 8) (h : shL z7 A u B) : u = B := by
  obtain ⟨z18, A19, hk, h⟩ := h
  have e := X_ask_2 g hk
  rcases h with ⟨c, _⟩ | ⟨_, hu⟩
  · rw [e] at c; omega
  · rw [hu, e]
theorem M_shut {f : Nat → Int} {N b p : Nat} {A u T : St} (hI : IM A) (h : MS f N b p A) (hR : MR b A T) (hq : q_X12_shutting A u) : MT f N b (sShut f N T (tEnd f N p)) u := by
  have hb := h.bk
  have h6 : ∀ k, A 14 k ≤ 6 := fun k => (hI 14 k).2
  have h60 : ∀ k, 0 ≤ A 14 k := fun k => (hI 14 k).1
  obtain ⟨z1, A2, hc, h2⟩ := (hq.1 : tr_r_X12_shutting A u)
  obtain ⟨q2, g⟩ := M_counts h hc
  rcases h2 with ⟨c1, z7, A8, hk, A12, hwd, h2⟩ | ⟨c1, rfl⟩
  · rcases g with ⟨_, _, s2⟩ | ⟨g, _⟩
    · have sp : ∀ p, sShut f N T p = (sAsk f N T 1 p).bind fun a => (sOwn f N 14 a.2).bind fun b => (sAsk f N T 2 b).bind fun c => (sPush T c.1 a.1).bind fun t => some (t, c.2) := fun _ => rfl
      rw [sp]
      obtain ⟨m, q8⟩ := M_ask_1 s2 (hR.1.2.1.rq q2) hk
      have fl : 1 ≤ A12 0 8 → 1 ≤ u 0 8 := by
        intro g
        rcases h2 with ⟨_, h2⟩ | ⟨c, _⟩
        · rw [shL_x g h2]; exact g
        · omega
      rcases m with ⟨m8, a, sa, hz7, s8⟩ | ⟨m8, mb⟩
      · rw [sa]
        show MT f N b ((sOwn f N 14 a.2).bind fun b => (sAsk f N T 2 b).bind fun c => (sPush T c.1 a.1).bind fun t => some (t, c.2)) u
        obtain ⟨m1, q12⟩ := M_wd (k := 14) (by decide) rfl s8 hwd
        rcases m1 with ⟨m18, e, se, s12⟩ | ⟨m18, mb1⟩
        · rw [se]
          show MT f N b ((sAsk f N T 2 e).bind fun c => (sPush T c.1 a.1).bind fun t => some (t, c.2)) u
          have q12' := (q12.trans q8).trans q2
          have n2 : NK2 b A12 T := hR.1.2.2.1.rq q12'
          have lf : (∀ c, sAsk f N T 2 e = some c → fnd (T (27 + c.1.toNat)) a.1 (T 25 c.1.toNat).toNat 0 = -1 ∧ T 25 c.1.toNat < 6) → shL z7 A u A12 → MT f N b ((sAsk f N T 2 e).bind fun c => (sPush T c.1 a.1).bind fun t => some (t, c.2)) u := by
            intro hs h3
            obtain ⟨z18, A19, hk2, h3⟩ := h3
            obtain ⟨m2, q19⟩ := M_ask_2 s12 n2 hk2
            rcases m2 with ⟨m28, c, sc, hz, s19⟩ | ⟨m28, mb2⟩
            · rcases h3 with ⟨_, z24, hz24, z25, hz25, A26, hA, hu⟩ | ⟨c, _⟩
              · have l := sAsk_some sc
                have hs := hs c sc
                have g := hR.2.2.2.2.2.2.1.1 c.1.toNat (by omega)
                have ix : (4 * A 0 47 + z18).toNat = 4 * b + c.1.toNat := by rw [hb, hz]; omega
                rw [ix] at hz24 hz25 hA
                have e24 : z24 = T 25 c.1.toNat := by rw [hz24, q19 14 (by decide), q12' 14 (by decide)]; exact g.2.1
                have r0 : 0 ≤ T 25 c.1.toNat := by rw [← g.2.1]; exact h60 _
                obtain ⟨k, hk⟩ : ∃ k : Nat, T 25 c.1.toNat = (k : Int) := ⟨(T 25 c.1.toNat).toNat, by omega⟩
                have ix2 : (40 * A 0 47 + 10 * z18 + z24).toNat = 40 * b + 10 * c.1.toNat + k := by rw [hb, hz, e24, hk]; omega
                rw [ix2] at hz25 hA
                have e25 : z25 = (k : Int) := by
                  have hz25 : z25 = A19 14 (4 * b + c.1.toNat) := hz25
                  rw [hz25, ← hz24, e24, hk]
                rw [e25, hz7] at hA
                rw [sc]
                show MT f N b ((sPush T c.1 a.1).bind fun t => some (t, c.2)) u
                have spu : sPush T c.1 a.1 = some (stA (stA T (27 + c.1.toNat) k a.1) 25 c.1.toNat ((k : Int) + 1)) := by
                  unfold sPush
                  rw [if_pos hs, hk, Int.toNat_natCast]
                rw [spu]
                refine Or.inl ⟨by rw [hu, hA]; exact m28, _, rfl, ?_, by rw [hu, hA]; exact s19.fr rfl (fun k _ => rfl)⟩
                refine (MR_shut h6 hR (by omega) hk (by omega)).rq ?_
                rw [hu, hA]
                exact ((q19.trans q12').st (by decide)).st (by decide)
              · omega
            · refine Or.inr ⟨?_, mb2.bd (fun c hc => ?_)⟩
              · rcases h3 with ⟨c, _⟩ | ⟨_, hu⟩
                · omega
                · rw [hu]; exact m28
              · cases sPush T c.1 a.1 with
                | none => exact Or.inl rfl
                | some t => exact bad_some (a := (t, c.2)) hc
          rcases pre_2 (P0 := shL z7 A u A12) (P := fun z52 => ((z52 = -1) ∧ shL z7 A u A12) ∨ ((¬ z52 = -1) ∧ ∃ z65 : Int, q_X12_isInRow (4 * (A 0 47) + z52) z7 A12 z65 ∧ (((¬ z65 = 0) ∧ ∃ A69 : St, q_X12_blame 3 (A12 0 4) A12 A69 ∧ shL z7 A u A69) ∨ ((z65 = 0) ∧ ∃ z81 : Int, z81 = A12 14 (4 * (A 0 47) + z52).toNat ∧ (((¬ z81 = 6) ∧ shL z7 A u A12) ∨ ((z81 = 6) ∧ ∃ A92 : St, q_X12_blame 3 (A12 0 4) A12 A92 ∧ shL z7 A u A92)))))) s12 n2 h2 with ⟨hs, h3⟩ | ⟨v, v1, vb, hs, _, _, _, h3⟩
          · have nn : ∀ c, sAsk f N T 2 e = some c → fnd (T (27 + c.1.toNat)) a.1 (T 25 c.1.toNat).toNat 0 = -1 ∧ T 25 c.1.toNat < 6 := fun c sc => by rw [hs] at sc; exact absurd sc (by simp)
            rcases h3 with h3 | ⟨_, h3⟩ | ⟨c, _⟩
            · exact lf nn h3
            · exact lf nn h3
            · exact absurd rfl c
          · rcases h3 with ⟨c, _⟩ | ⟨_, z65, hir, h3⟩
            · exact absurd c v1
            · have ix : (4 * A 0 47 + v).toNat = 4 * b + v.toNat := by rw [hb]; omega
              have g := hR.2.2.2.2.2.2.1.1 v.toNat (by omega)
              have ir := inRow_fnd (by rw [hb]; omega) hir
              have r0 : 0 ≤ T 25 v.toNat := by rw [← g.2.1]; exact h60 _
              have r6 : T 25 v.toNat ≤ 6 := by rw [← g.2.1]; exact h6 _
              have ef : fnd (fun k => A12 15 (10 * (4 * A 0 47 + v).toNat + k)) z7 (A12 14 (4 * A 0 47 + v).toNat).toNat 0 = fnd (T (27 + v.toNat)) a.1 (T 25 v.toNat).toNat 0 := by
                rw [ix, q12' 14 (by decide), g.2.1]
                refine fnd_congr _ _ (fun k _ hk => ?_)
                show A12 15 (10 * (4 * b + v.toNat) + k) = z7 ↔ T (27 + v.toNat) k = a.1
                rw [q12' 15 (by decide), show 10 * (4 * b + v.toNat) + k = 40 * b + 10 * v.toNat + k by omega, g.2.2 k (by omega), hz7]
              rw [ef] at ir
              have no : ¬ (fnd (T (27 + v.toNat)) a.1 (T 25 v.toNat).toNat 0 = -1 ∧ T 25 v.toNat < 6) → Bad f N ((sAsk f N T 2 e).bind fun c => (sPush T c.1 a.1).bind fun t => some (t, c.2)) := by
                intro hn
                rw [hs]
                have : sPush T v a.1 = none := by
                  unfold sPush
                  rw [if_neg hn]
                show Bad f N ((sPush T v a.1).bind fun t => some (t, tEnd f N e))
                rw [this]
                exact Or.inl rfl
              rcases h3 with ⟨c2, A69, hbl, h3⟩ | ⟨c2, z81, hz81, h3⟩
              · have f1 := hbl.2.2.2
                rw [shL_x f1 h3]
                refine Or.inr ⟨f1, no (fun g => ?_)⟩
                rcases ir with ⟨g1, _⟩ | ⟨_, g1⟩
                · exact c2 g1
                · exact g1 g.1
              · rw [ix, q12' 14 (by decide), g.2.1] at hz81
                rcases h3 with ⟨c3, h3⟩ | ⟨c3, A92, hbl, h3⟩
                · refine lf (fun c sc => ?_) h3
                  rw [hs] at sc
                  have sc := Option.some.inj sc
                  rw [← sc]
                  refine ⟨?_, Int.lt_iff_le_and_ne.mpr ⟨r6, fun g => c3 (hz81.trans g)⟩⟩
                  rcases ir with ⟨_, g1⟩ | ⟨g1, _⟩
                  · exact g1
                  · omega
                · have f1 := hbl.2.2.2
                  rw [shL_x f1 h3]
                  exact Or.inr ⟨f1, no (fun g => by omega)⟩
        · exact Or.inr ⟨fl m18, mb1.bd (fun c hc => by rw [bad_ask hc]; exact Or.inl rfl)⟩
      · have e12 := X_wd m8 hwd
        exact Or.inr ⟨fl (by rw [e12]; exact m8), mb.bd (fun c hc => by rw [bad_own hc]; exact Or.inl rfl)⟩
    · exact absurd g c1
  · rcases g with ⟨g, _⟩ | ⟨_, g8, g⟩
    · omega
    · refine Or.inr ⟨g8, Or.inl ?_⟩
      rcases g with g | g
      · exact absurd rfl g
      · exact bad_Shut g
/-! The reference's wants. -/
theorem M_wants {f : Nat → Int} {N b p : Nat} {A u T : St} (hI : IM A) (h : MS f N b p A) (hR : MR b A T) (hq : q_X12_wanting A u) : MT f N b (if T 1 5 < 6 then sWants f N T (tEnd f N p) else none) u := by
  have hb := h.bk
  have eb : (A 0 47).toNat = b := by rw [hb]; exact Int.toNat_natCast b
  have hct : A 22 b = T 1 5 := hR.2.1.1
  have r2 : (0 : Int) ≤ A 22 b ∧ A 22 b ≤ 6 := hI 22 b
  obtain ⟨n, hn⟩ : ∃ n : Nat, T 1 5 = (n : Int) := ⟨(T 1 5).toNat, by omega⟩
  obtain ⟨z1, hz1, h2⟩ := (hq.1 : tr_r_X12_wanting A u)
  rw [eb, hct] at hz1
  have d1 : ∀ x, (x = 0 ↔ T 1 5 < 6) → d_X12_wanting_1 A u x → MT f N b (if T 1 5 < 6 then sWants f N T (tEnd f N p) else none) u := by
    intro x hx h2
    obtain ⟨_, z8, A9, hc, h2⟩ := (h2 : tr_d_X12_wanting_1 A u x)
    obtain ⟨q9, g⟩ := M_counts h hc
    rcases h2 with ⟨c1, h2⟩ | ⟨c1, rfl⟩
    · rcases g with ⟨_, x0, s9⟩ | ⟨g, _⟩
      · have lt := hx.mp x0
        rw [if_pos lt]
        obtain ⟨z14, hz14, h2⟩ := h2
        have e14 : z14 = (n : Int) := by rw [hz14, eb, q9 22 (by decide), hct, hn]
        have hNA := hR.1.rq q9
        have ix : (6 * A 0 47 + z14).toNat = 6 * b + n := by rw [hb, e14]; omega
        have c3 : A 16 b = T 1 3 := hR.1.2.2.2.1.1
        have c4 : A 19 b = T 1 4 := hR.1.2.2.2.2.1
        have r16 : A 16 b ≤ 3 := (hI 16 b).2
        have r19 : A 19 b ≤ 4 := (hI 19 b).2
        have r24 : ∀ k, 0 ≤ A 24 k := fun k => (hI 24 k).1
        have f7 : ∀ A64 : St, 1 ≤ A64 0 8 → d_X12_wanting_7 z14 A A64 u → 1 ≤ u 0 8 := by
          intro A64 g h3
          obtain ⟨z90, A91, hk, A95, hA95, h3⟩ := (h3 : tr_d_X12_wanting_7 z14 A A64 u)
          have e := X_ask_4 g hk
          rcases h3 with ⟨_, hu⟩ | ⟨c, _⟩
          · rw [hu, hA95]
            show 1 ≤ A91 0 8
            rw [e]; exact g
          · rw [e] at c; omega
        have f5 : ∀ (nn : Nat) (i : Int) (A64 : St), 1 ≤ A64 0 8 → d_X12_wanting_5 z14 A u nn i A64 → 1 ≤ u 0 8 := by
          intro nn i A64 g h3
          cases nn with
          | zero => exact h3.elim
          | succ nn =>
            obtain ⟨_, _, h3⟩ := (h3 : tr_d_X12_wanting_5 z14 A u (fun z62 A64 => d_X12_wanting_5 z14 A u nn z62 A64) i A64)
            rcases h3 with ⟨_, h3⟩ | ⟨_, h3⟩
            · exact f7 A64 g h3
            · rcases h3 with ⟨_, h3⟩ | ⟨c, _⟩
              · exact f7 A64 g h3
              · omega
        have f4 : ∀ A52 : St, 1 ≤ A52 0 8 → d_X12_wanting_4 z14 A u A52 → 1 ≤ u 0 8 := by
          intro A52 g h3
          obtain ⟨_, z55, A56, hk, A60, hA60, nn, h3⟩ := (h3 : tr_d_X12_wanting_4 z14 A u A52)
          have e := X_ask_3 g hk
          refine f5 nn _ A60 ?_ h3
          rw [hA60]
          show 1 ≤ A56 0 8
          rw [e]; exact g
        have lp3 : ∀ (v : Int) (nn i : Nat) (zc : Int), i ≤ n → zc = ct (A9 23) (6 * b) v i → d_X12_wanting_3 z14 v A A9 u nn ((6 * b + i : Nat) : Int) zc → (v = -1 ∧ d_X12_wanting_4 z14 A u A9) ∨ (¬ v = -1 ∧ ct (A9 23) (6 * b) v n ≠ 2 ∧ d_X12_wanting_4 z14 A u A9) ∨ (¬ v = -1 ∧ ct (A9 23) (6 * b) v n = 2 ∧ ∃ A48 : St, 1 ≤ A48 0 8 ∧ d_X12_wanting_4 z14 A u A48) := by
          intro v nn
          induction nn with
          | zero => intro i zc _ _ h3; exact h3.elim
          | succ nn ih =>
            intro i zc hi hzc h3
            obtain ⟨_, _, h3⟩ := (h3 : tr_d_X12_wanting_3 z14 v A A9 u (fun z30 z31 => d_X12_wanting_3 z14 v A A9 u nn z30 z31) ((6 * b + i : Nat) : Int) zc)
            rcases h3 with ⟨c, h3⟩ | ⟨c, z103, hz, h3⟩
            · have ei : i = n := by rw [hb, e14] at c; omega
              rw [ei] at hzc
              rcases h3 with ⟨g, h3⟩ | ⟨g, h3⟩
              · exact Or.inl ⟨g, h3⟩
              · rcases h3 with ⟨g2, h3⟩ | ⟨g2, A48, hbl, h3⟩
                · exact Or.inr (Or.inl ⟨g, by rw [← hzc]; exact g2, h3⟩)
                · exact Or.inr (Or.inr ⟨g, by rw [← hzc]; exact g2, A48, hbl.2.2.2, h3⟩)
            · have li : i < n := by rw [hb, e14] at c; omega
              rw [Int.toNat_natCast] at hz
              rcases h3 with ⟨g, h3⟩ | ⟨g, h3⟩
              · obtain ⟨_, h3⟩ := (h3 : tr_d_X12_wanting_8 (fun z30 z31 => d_X12_wanting_3 z14 v A A9 u nn z30 z31) ((6 * b + i : Nat) : Int) zc u 0)
                refine ih (i + 1) (zc + 0) (by omega) ?_ h3
                show zc + 0 = ct (A9 23) (6 * b) v i + (if A9 23 (6 * b + i) = v then 1 else 0)
                rw [if_neg (by rw [← hz]; exact g), hzc]
              · obtain ⟨_, h3⟩ := (h3 : tr_d_X12_wanting_8 (fun z30 z31 => d_X12_wanting_3 z14 v A A9 u nn z30 z31) ((6 * b + i : Nat) : Int) zc u 1)
                refine ih (i + 1) (zc + 1) (by omega) ?_ h3
                show zc + 1 = ct (A9 23) (6 * b) v i + (if A9 23 (6 * b + i) = v then 1 else 0)
                rw [if_pos (by rw [← hz]; exact g), hzc]
        have d2 : ∀ v : Int, d_X12_wanting_2 z14 A A9 u v → (v = -1 ∧ d_X12_wanting_4 z14 A u A9) ∨ (¬ v = -1 ∧ ct (A9 23) (6 * b) v n ≠ 2 ∧ d_X12_wanting_4 z14 A u A9) ∨ (¬ v = -1 ∧ ct (A9 23) (6 * b) v n = 2 ∧ ∃ A48 : St, 1 ≤ A48 0 8 ∧ d_X12_wanting_4 z14 A u A48) := by
          intro v h3
          obtain ⟨_, nn, h3⟩ := (h3 : tr_d_X12_wanting_2 z14 A A9 u v)
          rw [hb] at h3
          exact lp3 v nn 0 0 (by omega) rfl h3
        have n3 := hNA.2.2.2.1
        have sp : ∀ p, sWants f N T p = (sAsk f N T 3 p).bind fun a => if bc (T 12 a.1.toNat) < 2 then ((sAsk f N T 4 a.2).bind fun b => if oAnd (oShr (T 12 a.1.toNat) b.1) 1 = 0 then some (stA (stA T 12 a.1.toNat (oOr (T 12 a.1.toNat) (oShl 1 b.1))) 1 5 (T 1 5 + 1), b.2) else none) else none := fun _ => rfl
        rw [sp]
        rcases pre_3 (P0 := d_X12_wanting_2 z14 A A9 u (-1)) (P := fun v => d_X12_wanting_2 z14 A A9 u v) s9 n3 h2 with ⟨hs, h3⟩ | ⟨v, v1, vb, hs, _, _, _, h3⟩
        · have h3 : d_X12_wanting_2 z14 A A9 u (-1) := by
            rcases h3 with h3 | h3
            · exact h3
            · exact h3
          rw [hs]
          refine Or.inr ⟨?_, Or.inl rfl⟩
          rcases d2 (-1) h3 with ⟨_, h3⟩ | ⟨c, _⟩ | ⟨c, _⟩
          · obtain ⟨_, z55, A56, hk, A60, hA60, nn, h3⟩ := (h3 : tr_d_X12_wanting_4 z14 A u A9)
            have m := (M_ask_3 s9 n3 hk).1
            rw [hs] at m
            rcases m with ⟨_, a, ha, _⟩ | ⟨m8, _⟩
            · exact absurd ha (by simp)
            · refine f5 nn _ A60 ?_ h3
              rw [hA60]; exact m8
          · exact absurd rfl c
          · exact absurd rfl c
        · obtain ⟨pn, hpn⟩ : ∃ pn : Nat, v = (pn : Int) := ⟨v.toNat, by omega⟩
          subst hpn
          have p3 : pn < 3 := by omega
          have w := hR.2.2.2.2.2.2.2.2.2.1 pn p3
          rw [show (T 1 5).toNat = n by omega, ← q9 23 (by decide)] at w
          rw [hs]
          show MT f N b (if bc (T 12 pn) < 2 then ((sAsk f N T 4 (tEnd f N (tEnd f N p))).bind fun b => if oAnd (oShr (T 12 pn) b.1) 1 = 0 then some (stA (stA T 12 pn (oOr (T 12 pn) (oShl 1 b.1))) 1 5 (T 1 5 + 1), b.2) else none) else none) u
          rcases d2 pn h3 with ⟨c, _⟩ | ⟨_, c2, h3⟩ | ⟨_, c2, A48, g48, h3⟩
          · exact absurd c v1
          · have bc2 : bc (T 12 pn) < 2 := by
              have h1 := w.1.2.2
              have h2 := w.2.1
              rw [h2] at c2
              exact Int.lt_iff_le_and_ne.mpr ⟨h1, c2⟩
            rw [if_pos bc2]
            obtain ⟨_, z55, A56, hk, A60, hA60, nn, h3⟩ := (h3 : tr_d_X12_wanting_4 z14 A u A9)
            obtain ⟨m, q56⟩ := M_ask_3 s9 n3 hk
            rw [ix] at hA60
            have q56' := q56.trans q9
            rw [hs] at m
            rcases m with ⟨m8, a, ha, hz55, s56⟩ | ⟨m8, mb⟩
            · have ha := Option.some.inj ha
              subst ha
              have hz55 : z55 = (pn : Int) := hz55
              have s60 : MS f N b (tEnd f N (tEnd f N p)) A60 := by rw [hA60]; exact s56.fr rfl (fun k _ => rfl)
              have n4 : NK4 b A60 T := by rw [hA60]; exact (show NK4 b A56 T from hR.1.2.2.2.2.rq q56')
              have r23 : ∀ k, k < n → A60 23 (6 * b + k) = A 23 (6 * b + k) := by
                intro k hk
                rw [hA60, stA_same, up_ne _ _ (by omega), q56' 23 (by decide)]
              have r23n : A60 23 (6 * b + n) = (pn : Int) := by rw [hA60, stA_same, up_same, hz55]
              have r24' : A60 24 = A 24 := by
                rw [hA60]
                show A56 24 = A 24
                exact q56' 24 (by decide)
              have lp5 : ∀ (nn i : Nat), i ≤ n → (∀ k, k < i → A 23 (6 * b + k) = (pn : Int) → ¬ (tKind f N (tEnd f N (tEnd f N p)) = 1 ∧ isOwn5 (wv f N (tEnd f N (tEnd f N p))) = false ∧ sFind T 4 (wv f N (tEnd f N (tEnd f N p))) = A 24 (6 * b + k))) → d_X12_wanting_5 z14 A u nn ((6 * b + i : Nat) : Int) A60 → (1 ≤ u 0 8 ∧ tKind f N (tEnd f N (tEnd f N p)) = 1 ∧ isOwn5 (wv f N (tEnd f N (tEnd f N p))) = false ∧ ∃ k, k < n ∧ A 23 (6 * b + k) = (pn : Int) ∧ sFind T 4 (wv f N (tEnd f N (tEnd f N p))) = A 24 (6 * b + k)) ∨ ((∀ k, k < n → A 23 (6 * b + k) = (pn : Int) → ¬ (tKind f N (tEnd f N (tEnd f N p)) = 1 ∧ isOwn5 (wv f N (tEnd f N (tEnd f N p))) = false ∧ sFind T 4 (wv f N (tEnd f N (tEnd f N p))) = A 24 (6 * b + k))) ∧ d_X12_wanting_7 z14 A A60 u) := by
                intro nn
                induction nn with
                | zero => intro i _ _ h3; exact h3.elim
                | succ nn ih =>
                  intro i hi hk2 h3
                  obtain ⟨_, _, h3⟩ := (h3 : tr_d_X12_wanting_5 z14 A u (fun z62 A64 => d_X12_wanting_5 z14 A u nn z62 A64) ((6 * b + i : Nat) : Int) A60)
                  rw [ix] at h3
                  rcases h3 with ⟨c, h3⟩ | ⟨c, h3⟩
                  · have ei : n ≤ i := by rw [hb, e14] at c; omega
                    exact Or.inr ⟨fun k hk3 => hk2 k (by omega), h3⟩
                  · have li : i < n := by rw [hb, e14] at c; omega
                    rcases h3 with ⟨c, _⟩ | ⟨_, z77, hz77, z78, hz78, h3⟩
                    · exact absurd s60.ns c
                    · rw [Int.toNat_natCast, r23 i li] at hz77
                      rw [r23n] at hz78
                      have nx : ¬ (A 23 (6 * b + i) = (pn : Int) ∧ (tKind f N (tEnd f N (tEnd f N p)) = 1 ∧ isOwn5 (wv f N (tEnd f N (tEnd f N p))) = false ∧ sFind T 4 (wv f N (tEnd f N (tEnd f N p))) = A 24 (6 * b + i))) → d_X12_wanting_6 (fun z62 A64 => d_X12_wanting_5 z14 A u nn z62 A64) ((6 * b + i : Nat) : Int) u A60 → (1 ≤ u 0 8 ∧ tKind f N (tEnd f N (tEnd f N p)) = 1 ∧ isOwn5 (wv f N (tEnd f N (tEnd f N p))) = false ∧ ∃ k, k < n ∧ A 23 (6 * b + k) = (pn : Int) ∧ sFind T 4 (wv f N (tEnd f N (tEnd f N p))) = A 24 (6 * b + k)) ∨ ((∀ k, k < n → A 23 (6 * b + k) = (pn : Int) → ¬ (tKind f N (tEnd f N (tEnd f N p)) = 1 ∧ isOwn5 (wv f N (tEnd f N (tEnd f N p))) = false ∧ sFind T 4 (wv f N (tEnd f N (tEnd f N p))) = A 24 (6 * b + k))) ∧ d_X12_wanting_7 z14 A A60 u) := by
                        intro hno h3
                        obtain ⟨_, h3⟩ := (h3 : tr_d_X12_wanting_6 (fun z62 A64 => d_X12_wanting_5 z14 A u nn z62 A64) ((6 * b + i : Nat) : Int) u A60)
                        refine ih (i + 1) (by omega) (fun k hk3 g1 g2 => ?_) h3
                        by_cases e : k = i
                        · subst e; exact hno ⟨g1, g2⟩
                        · exact hk2 k (by omega) g1 g2
                      rcases h3 with ⟨c2, h3⟩ | ⟨c2, z81, hz81, A82, hbr, h3⟩
                      · exact nx (fun g => c2 (by rw [hz77, hz78]; exact g.1)) h3
                      · rw [Int.toNat_natCast, r24'] at hz81
                        rcases M_bars_4 (by rw [hz81]; have := r24 (6 * b + i); omega) s60 n4 hbr with ⟨e82, nb⟩ | ⟨g8, tk, ow, fe⟩
                        · rw [e82] at h3
                          exact nx (fun g => nb ⟨g.2.1, g.2.2.1, by rw [hz81]; exact g.2.2.2⟩) h3
                        · obtain ⟨_, h3⟩ := (h3 : tr_d_X12_wanting_6 (fun z62 A64 => d_X12_wanting_5 z14 A u nn z62 A64) ((6 * b + i : Nat) : Int) u A82)
                          exact Or.inl ⟨f5 nn _ A82 g8 h3, tk, ow, i, li, by rw [← hz77, ← hz78]; exact c2, by rw [← hz81]; exact fe⟩
              rw [hb] at h3
              have bi : ∀ c : Int × Nat, sAsk f N T 4 (tEnd f N (tEnd f N p)) = some c → tKind f N (tEnd f N (tEnd f N p)) = 1 ∧ isOwn5 (wv f N (tEnd f N (tEnd f N p))) = false ∧ c.1 = sFind T 4 (wv f N (tEnd f N (tEnd f N p))) := by
                intro c sc
                unfold sAsk sName at sc
                by_cases g : tKind f N (tEnd f N (tEnd f N p)) = 1 ∧ isOwn5 (wv f N (tEnd f N (tEnd f N p))) = false
                · rw [if_pos g] at sc
                  have sc : (if sFind T 4 (wv f N (tEnd f N (tEnd f N p))) = -1 then none else some (sFind T 4 (wv f N (tEnd f N (tEnd f N p))), tEnd f N (tEnd f N (tEnd f N p)))) = some c := sc
                  by_cases g2 : sFind T 4 (wv f N (tEnd f N (tEnd f N p))) = -1
                  · rw [if_pos g2] at sc; exact absurd sc (by simp)
                  · rw [if_neg g2] at sc
                    have sc := Option.some.inj sc
                    exact ⟨g.1, g.2, by rw [← sc]⟩
                · rw [if_neg g] at sc; exact absurd sc (by simp)
              have bt : ∀ c : Int × Nat, sAsk f N T 4 (tEnd f N (tEnd f N p)) = some c → (oAnd (oShr (T 12 pn) c.1) 1 = 0 ↔ ¬ ∃ i : Nat, (i : Int) < T 1 5 ∧ A 23 (6 * b + i) = (pn : Int) ∧ A 24 (6 * b + i) = c.1) := by
                intro c sc
                have l := sAsk_some sc
                obtain ⟨t, et⟩ : ∃ t : Nat, c.1 = (t : Int) := ⟨c.1.toNat, by omega⟩
                have t4 : t < 4 := by omega
                have w2 := w.2.2 t t4
                rw [q9 23 (by decide)] at w2
                have bb := bit_iff (x := T 12 pn) (d := t) ⟨w.1.1, by have := w.1.2.1; omega⟩ (by omega)
                rw [et, bb, ← w2]
                cases (T 12 pn).toNat.testBit t with
                | false => exact ⟨fun _ => by decide, fun _ => rfl⟩
                | true => exact ⟨fun g => absurd g (by decide), fun g => absurd rfl g⟩
              rcases lp5 nn 0 (by omega) (fun k hk => absurd hk (by omega)) h3 with ⟨g8, tk, ow, k, hk3, g1, g2⟩ | ⟨hno, h3⟩
              · refine Or.inr ⟨g8, Or.inl ?_⟩
                cases sc : sAsk f N T 4 (tEnd f N (tEnd f N p)) with
                | none => rfl
                | some c =>
                  show (if oAnd (oShr (T 12 pn) c.1) 1 = 0 then some (stA (stA T 12 pn (oOr (T 12 pn) (oShl 1 c.1))) 1 5 (T 1 5 + 1), c.2) else none) = none
                  have b1 := bi c sc
                  rw [if_neg (fun g => (bt c sc).mp g ⟨k, by omega, g1, by rw [b1.2.2, ← g2]⟩)]
              · obtain ⟨z90, A91, hk4, A95, hA95, h3⟩ := (h3 : tr_d_X12_wanting_7 z14 A A60 u)
                obtain ⟨m2, q91⟩ := M_ask_4 s60 n4 hk4
                rw [ix] at hA95
                rw [eb] at h3
                rcases m2 with ⟨m28, c, sc, hz90, s91⟩ | ⟨m28, mb2⟩
                · rcases h3 with ⟨c, _⟩ | ⟨_, z97, hz97, A101, hA101, hu⟩
                  · exact absurd m28 c
                  · have e97 : z97 = (n : Int) := by
                      rw [hz97, hA95]
                      show A91 22 b = (n : Int)
                      rw [q91 22 (by decide), hA60]
                      show A56 22 b = (n : Int)
                      rw [q56' 22 (by decide), hct, hn]
                    have l := sAsk_some sc
                    have b1 := bi c sc
                    obtain ⟨t, et⟩ : ∃ t : Nat, c.1 = (t : Int) := ⟨c.1.toNat, by omega⟩
                    have t4 : t < 4 := by omega
                    have nob : ¬ ∃ i : Nat, (i : Int) < T 1 5 ∧ A 23 (6 * b + i) = (pn : Int) ∧ A 24 (6 * b + i) = c.1 := by
                      rintro ⟨i, hi, g1, g2⟩
                      exact hno i (by omega) g1 ⟨b1.1, b1.2.1, by rw [g2, b1.2.2]⟩
                    have b0 := (bt c sc).mpr nob
                    have tb : (T 12 pn).toNat.testBit t = false := by
                      have bb := bit_iff (x := T 12 pn) (d := t) ⟨w.1.1, by have := w.1.2.1; omega⟩ (by omega)
                      rw [et] at b0
                      exact bb.mp b0
                    rw [sc]
                    show MT f N b (if oAnd (oShr (T 12 pn) c.1) 1 = 0 then some (stA (stA T 12 pn (oOr (T 12 pn) (oShl 1 c.1))) 1 5 (T 1 5 + 1), c.2) else none) u
                    rw [if_pos b0]
                    have hA101 : A101 = stA A95 22 b ((n : Int) + 1) := by rw [hA101, e97]
                    refine Or.inl ⟨by rw [hu, hA101, hA95]; exact m28, _, rfl, ?_, by rw [hu, hA101, hA95]; exact s91.fr rfl (fun k _ => rfl)⟩
                    have mr := MR_wants hR hn p3 t4 bc2 tb
                    rw [← et] at mr
                    refine mr.rq ?_
                    rw [hu, hA101, hA95, hz90]
                    have q60 : rq A60 (stA A 23 (6 * b + n) (pn : Int)) := by rw [hA60, hz55]; exact q56'.st (by decide)
                    exact ((q91.trans q60).st (by decide)).st (by decide)
                · refine Or.inr ⟨?_, mb2.bd (fun c hc => ?_)⟩
                  · rcases h3 with ⟨_, hu⟩ | ⟨c, _⟩
                    · rw [hu, hA95]; exact m28
                    · omega
                  · by_cases g : oAnd (oShr (T 12 pn) c.1) 1 = 0
                    · rw [if_pos g]; exact bad_some hc
                    · rw [if_neg g]; exact Or.inl rfl
            · refine Or.inr ⟨f5 nn _ A60 (by rw [hA60]; exact m8) h3, ?_⟩
              have mb2 : tKind f N (tEnd f N (tEnd f N p)) = 4 := by
                rcases mb with mb | ⟨a, ha, mb⟩
                · exact absurd mb (by simp)
                · have ha := Option.some.inj ha
                  rw [← ha] at mb
                  exact mb
              rw [bad_ask mb2]
              exact Or.inl rfl
          · refine Or.inr ⟨f4 A48 g48 h3, Or.inl ?_⟩
            have h2 := w.2.1
            rw [h2] at c2
            rw [if_neg (by rw [c2]; decide)]
      · exact absurd g c1
    · rcases g with ⟨g, _⟩ | ⟨_, g8, g⟩
      · omega
      · refine Or.inr ⟨g8, ?_⟩
        by_cases lt : T 1 5 < 6
        · rw [if_pos lt]
          rcases g with g | g
          · exact absurd (hx.mpr lt) g
          · exact Or.inl (bad_Wants g)
        · rw [if_neg lt]
          exact Or.inl rfl
  rcases h2 with ⟨c, h2⟩ | ⟨c, h2⟩
  · exact d1 0 ⟨fun _ => by omega, fun _ => rfl⟩ h2
  · exact d1 1 ⟨fun g => absurd g (by decide), fun g => by omega⟩ h2
/-! The reference's tests: what a turn of its loop does. -/
def RN (u A : St) : Prop := ∃ nn, d_X12_reads_2 u nn 1 A
theorem RN_0 {u A : St} {nn : Nat} (h : d_X12_reads_2 u nn 0 A) : u = A := by
  cases nn with
  | zero => exact h.elim
  | succ nn =>
    obtain ⟨_, _, h⟩ := (h : tr_d_X12_reads_2 u (fun z12 A14 => d_X12_reads_2 u nn z12 A14) 0 A)
    rcases h with ⟨_, e⟩ | ⟨c, _⟩
    · exact e
    · exact absurd rfl c
theorem RN_op {u A : St} (h : RN u A) (h0 : A 0 57 = 0) : ∃ (z : Int) (B : St), q_X12_operand A z B ∧ ((¬ B 0 8 = 0 ∧ u = stA B 0 57 z) ∨ (B 0 8 = 0 ∧ RN u (stA B 0 57 z))) := by
  obtain ⟨nn, h⟩ := h
  cases nn with
  | zero => exact h.elim
  | succ nn =>
    obtain ⟨_, _, h⟩ := (h : tr_d_X12_reads_2 u (fun z12 A14 => d_X12_reads_2 u nn z12 A14) 1 A)
    rcases h with ⟨c, _⟩ | ⟨_, h⟩
    · exact absurd c (by decide)
    · rcases h with ⟨c, _⟩ | ⟨_, z31, A32, hq, A36, hA, h⟩
      · exact absurd h0 c
      · refine ⟨z31, A32, hq, ?_⟩
        rw [← hA]
        rcases h with ⟨c, h⟩ | ⟨c, h⟩
        · exact Or.inl ⟨c, RN_0 h⟩
        · exact Or.inr ⟨c, nn, h⟩
theorem RN_go {u A : St} (h : RN u A) (h0 : ¬ A 0 57 = 0) : ∃ (z : Int) (B : St), q_X12_goesOn A z B ∧ ((z = 0 ∧ u = B) ∨ (¬ z = 0 ∧ ¬ B 0 8 = 0 ∧ u = B) ∨ (¬ z = 0 ∧ B 0 8 = 0 ∧ RN u B)) := by
  obtain ⟨nn, h⟩ := h
  cases nn with
  | zero => exact h.elim
  | succ nn =>
    obtain ⟨_, _, h⟩ := (h : tr_d_X12_reads_2 u (fun z12 A14 => d_X12_reads_2 u nn z12 A14) 1 A)
    rcases h with ⟨c, _⟩ | ⟨_, h⟩
    · exact absurd c (by decide)
    · rcases h with ⟨_, z24, A25, hq, h⟩ | ⟨c, _⟩
      · refine ⟨z24, A25, hq, ?_⟩
        rcases h with ⟨c, h⟩ | ⟨c, h⟩
        · exact Or.inl ⟨c, RN_0 h⟩
        · rcases h with ⟨c2, h⟩ | ⟨c2, h⟩
          · exact Or.inr (Or.inl ⟨c, c2, RN_0 h⟩)
          · exact Or.inr (Or.inr ⟨c, c2, nn, h⟩)
      · exact absurd c h0
/-- the same but for codes, operations held back and pairs -/
def SB (A B : St) : Prop := fr [33, 34, 38, 40] [46, 56] A B
theorem SB.of {M' N' : List Nat} {A B : St} (h : fr M' N' A B) (hM : M'.all (fun j => [33, 34, 38, 40].contains j) = true) (hN : N'.all (fun j => [46, 56].contains j) = true) : SB A B := fr.rf.trans h hM hN
theorem SB.rf {A : St} : SB A A := fr.rf
theorem SB.trans {A B C : St} (h : SB A B) (g : SB B C) : SB A C := fr.trans h g rfl rfl
theorem SB.r {A B : St} (h : SB A B) (j : Nat) (h0 : j ≠ 0) (hj : ([33, 34, 38, 40] : List Nat).contains j = false) : B j = A j := h.1 j h0 hj
theorem SB.k {A B : St} (h : SB A B) (j : Nat) (hj : ([46, 56] : List Nat).contains j = false) : B 0 j = A 0 j := h.2 j hj
theorem k9 {k : Nat} (h : k < 9 ∨ k = 47) : ([46, 56] : List Nat).contains k = false := by
  rcases h with h | h
  · rcases (show k = 0 ∨ k = 1 ∨ k = 2 ∨ k = 3 ∨ k = 4 ∨ k = 5 ∨ k = 6 ∨ k = 7 ∨ k = 8 by omega) with rfl | rfl | rfl | rfl | rfl | rfl | rfl | rfl | rfl <;> rfl
  · subst h; rfl
theorem MS.sb {f : Nat → Int} {N b p : Nat} {A B : St} (h : MS f N b p A) (g : SB A B) : MS f N b p B := h.fr (g.r 1 (by decide) rfl) (fun k hk => g.k k (k9 hk))
theorem MG.sb {f : Nat → Int} {N b e : Nat} {A B : St} (h : MG f N b e A) (g : SB A B) : MG f N b e B := by
  refine h.fr (g.r 1 (by decide) rfl) (fun k hk => g.k k ?_)
  rcases hk with rfl | rfl | rfl | rfl <;> rfl
theorem MO.s57 {f : Nat → Int} {N b e : Nat} {A : St} {x : Int} (h : MO f N b e A) : MO f N b e (stA A 0 57 x) := by
  rcases h with ⟨h, g⟩ | ⟨h, g⟩
  · exact Or.inl ⟨h, g⟩
  · refine Or.inr ⟨h, g.fr rfl (fun k hk => ?_)⟩
    rcases hk with hk | hk
    · rcases (show k = 0 ∨ k = 1 ∨ k = 2 ∨ k = 3 ∨ k = 4 ∨ k = 5 ∨ k = 6 ∨ k = 7 ∨ k = 8 by omega) with rfl | rfl | rfl | rfl | rfl | rfl | rfl | rfl | rfl <;> rfl
    · subst hk; rfl
theorem leafA {f : Nat → Int} {N b e : Nat} {B A' : St} (hG : MG f N b e B) (ha : q_X12_ahead B A') : MO f N b e A' ∧ rq A' B ∧ A' 0 53 = B 0 53 ∧ A' 0 54 = B 0 54 ∧ A' 0 57 = B 0 57 := by
  have g := hG.ahead ha
  exact ⟨g.1, g.2, ha.2.2.1.2 53 rfl, ha.2.2.1.2 54 rfl, ha.2.2.1.2 57 rfl⟩
/-- the token behind p -/
abbrev tsg (f : Nat → Int) (N p : Nat) (c : Int) : Prop := tKind f N p = 3 ∧ f (sAt f N p) = c
abbrev tow (f : Nat → Int) (N p k : Nat) : Prop := tKind f N p = 1 ∧ wv f N p = own5 k
abbrev tari (f : Nat → Int) (N p : Nat) : Prop := tsg f N p 43 ∨ tsg f N p 45 ∨ tsg f N p 42 ∨ tsg f N p 47 ∨ tsg f N p 37
/-- behind a turn: a token more, the operand's mark x -/
def AF (f : Nat → Int) (N b e : Nat) (x : Int) (B v : St) : Prop := MO f N b e v ∧ v 0 53 = B 0 53 ∧ v 0 54 = B 0 54 ∧ v 0 57 = x ∧ v 35 = B 35 ∧ v 36 = B 36 ∧ v 37 = B 37
theorem AF.mk {f : Nat → Int} {N b e : Nat} {x : Int} {B A' v : St} (hG : MG f N b e B) (ha : q_X12_ahead B A') (hv : v = stA A' 0 57 x) : AF f N b e x B v := by
  obtain ⟨g1, g2, g3, g4, _⟩ := leafA hG ha
  subst hv
  exact ⟨g1.s57, g3, g4, rfl, g2 35 (by decide), g2 36 (by decide), g2 37 (by decide)⟩
theorem AF.mk0 {f : Nat → Int} {N b e : Nat} {x : Int} {B v : St} (hG : MG f N b e B) (ha : q_X12_ahead B v) (hx : B 0 57 = x) : AF f N b e x B v := by
  obtain ⟨g1, g2, g3, g4, g5⟩ := leafA hG ha
  exact ⟨g1, g3, g4, g5.trans hx, g2 35 (by decide), g2 36 (by decide), g2 37 (by decide)⟩
theorem AF.cg {f : Nat → Int} {N b e : Nat} {x : Int} {A B v : St} (h : AF f N b e x B v) (g : SB A B) : AF f N b e x A v := by
  obtain ⟨h1, h2, h3, h4, h5, h6, h7⟩ := h
  exact ⟨h1, h2.trans (g.k 53 rfl), h3.trans (g.k 54 rfl), h4, h5.trans (g.r 35 (by decide) rfl), h6.trans (g.r 36 (by decide) rfl), h7.trans (g.r 37 (by decide) rfl)⟩
theorem q_joins_sb {x : Int} {A u : St} (h : q_X12_joins x A u) : SB A u := SB.of h.2.2.1 rfl rfl
theorem q_holds_sb {x : Int} {A u : St} (h : q_X12_holdsBack x A u) : SB A u := SB.of h.2.2.1 rfl rfl
theorem q_add_sb {x y : Int} {A u : St} (h : q_X12_add x y A u) : SB A u := SB.of h.2.2.1 rfl rfl
theorem isTest_iff {x z : Int} {A : St} (h : q_X12_isTest x A z) : (z = 1 ∧ (x = 1 ∨ x = 5)) ∨ (z = 0 ∧ ¬ (x = 1 ∨ x = 5)) := by
  rcases (h.1 : tr_r_X12_isTest x A z) with ⟨c, hz⟩ | ⟨c, h⟩
  · exact Or.inl ⟨hz, Or.inl c⟩
  · rcases h with ⟨c2, hz⟩ | ⟨c2, hz⟩
    · refine Or.inr ⟨hz, ?_⟩
      rintro (g | g)
      · exact c g
      · exact c2 g
    · exact Or.inl ⟨hz, Or.inr c2⟩
theorem G_base {f : Nat → Int} {N b p D : Nat} {A v : St} {z : Int} (h : MS f N b p A) (hD : A 0 53 = (D : Int)) (h1 : 1 ≤ D) (hq : q_X12_goesOn A z v) : (A 36 (D - 1) < 2 ∧ tari f N p ∧ z = 1 ∧ AF f N b (tEnd f N p) 0 A v) ∨ (¬ (A 36 (D - 1) < 2 ∧ tari f N p) ∧ ∃ z2, ((z2 = 1 ∧ (A 35 (D - 1) = 1 ∨ A 35 (D - 1) = 5)) ∨ (z2 = 0 ∧ ¬ (A 35 (D - 1) = 1 ∨ A 35 (D - 1) = 5))) ∧ d_X12_goesOn_2 A z v (A 35 (D - 1)) z2) := by
  have ix : (A 0 53 - 1).toNat = D - 1 := by omega
  obtain ⟨z1, hz1, z2, ht, z5, hz5, h2⟩ := (hq.1 : tr_r_X12_goesOn A z v)
  rw [ix] at hz1 hz5
  have ht := isTest_iff ht
  subst hz1 hz5
  have d1 : A 36 (D - 1) < 2 → tari f N p → d_X12_goesOn_1 A z v (A 35 (D - 1)) z2 → (A 36 (D - 1) < 2 ∧ tari f N p ∧ z = 1 ∧ AF f N b (tEnd f N p) 0 A v) := by
    intro hp ha h2
    refine ⟨hp, ha, ?_⟩
    have fin : ∀ (B B1 A' : St) (x : Int), SB A B → q_X12_holdsBack x B B1 → q_X12_ahead B1 A' → (∃ A49 : St, A49 = stA A' 0 57 0 ∧ (z = 1 ∧ v = A49)) → z = 1 ∧ AF f N b (tEnd f N p) 0 A v := by
      intro B B1 A' x s1 s2 ha2 h3
      obtain ⟨A49, e, hz, hv⟩ := h3
      have s := s1.trans (q_holds_sb s2)
      exact ⟨hz, (AF.mk (h.go.sb s) ha2 (hv.trans e)).cg s⟩
    obtain ⟨z30, _, h2⟩ := (h2 : tr_d_X12_goesOn_1 A z v (A 35 (D - 1)) z2)
    rcases h2 with ⟨_, A34, hj, z39, _, A43, hh, A46, ha2, h3⟩ | ⟨_, z78, _, h2⟩
    · exact fin A34 A43 A46 _ (q_joins_sb hj) hh ha2 h3
    · rcases h2 with ⟨_, A82, hj, z87, _, z91, _, z95, _, h2⟩ | ⟨_, A208, hj, z213, _, z217, _, A221, hh, A224, ha2, h3⟩
      · rcases h2 with ⟨_, z99, _, h2⟩ | ⟨_, A173, hh, A176, ha2, h3⟩
        · rcases h2 with ⟨_, A103, hh, A106, ha2, h3⟩ | ⟨_, A138, hh, A141, ha2, h3⟩
          · exact fin A82 A103 A106 _ (q_joins_sb hj) hh ha2 h3
          · exact fin A82 A138 A141 _ (q_joins_sb hj) hh ha2 h3
        · exact fin A82 A173 A176 _ (q_joins_sb hj) hh ha2 h3
      · exact fin A208 A221 A224 _ (q_joins_sb hj) hh ha2 h3
  rcases h2 with ⟨c, h2⟩ | ⟨c, z8, i43, h2⟩
  · exact Or.inr ⟨fun g => by have := g.1; omega, z2, ht, h2⟩
  · have hp : A 36 (D - 1) < 2 := by omega
    rcases h2 with ⟨c1, h2⟩ | ⟨c1, z13, i45, h2⟩
    · rcases h.isS i43 with ⟨_, g⟩ | ⟨g, _⟩
      · exact Or.inl (d1 hp (Or.inl g) h2)
      · exact absurd g c1
    · have n43 : ¬ tsg f N p 43 := by
        rcases h.isS i43 with ⟨g, _⟩ | ⟨_, g⟩
        · omega
        · exact g
      rcases h2 with ⟨c2, h2⟩ | ⟨c2, z17, i42, h2⟩
      · rcases h.isS i45 with ⟨_, g⟩ | ⟨g, _⟩
        · exact Or.inl (d1 hp (Or.inr (Or.inl g)) h2)
        · exact absurd g c2
      · have n45 : ¬ tsg f N p 45 := by
          rcases h.isS i45 with ⟨g, _⟩ | ⟨_, g⟩
          · omega
          · exact g
        rcases h2 with ⟨c3, h2⟩ | ⟨c3, z21, i47, h2⟩
        · rcases h.isS i42 with ⟨_, g⟩ | ⟨g, _⟩
          · exact Or.inl (d1 hp (Or.inr (Or.inr (Or.inl g))) h2)
          · exact absurd g c3
        · have n42 : ¬ tsg f N p 42 := by
            rcases h.isS i42 with ⟨g, _⟩ | ⟨_, g⟩
            · omega
            · exact g
          rcases h2 with ⟨c4, h2⟩ | ⟨c4, z25, i37, h2⟩
          · rcases h.isS i47 with ⟨_, g⟩ | ⟨g, _⟩
            · exact Or.inl (d1 hp (Or.inr (Or.inr (Or.inr (Or.inl g)))) h2)
            · exact absurd g c4
          · have n47 : ¬ tsg f N p 47 := by
              rcases h.isS i47 with ⟨g, _⟩ | ⟨_, g⟩
              · omega
              · exact g
            rcases h2 with ⟨c5, h2⟩ | ⟨c5, h2⟩
            · have n37 : ¬ tsg f N p 37 := by
                rcases h.isS i37 with ⟨g, _⟩ | ⟨_, g⟩
                · omega
                · exact g
              refine Or.inr ⟨fun g => ?_, z2, ht, h2⟩
              rcases g.2 with g | g | g | g | g
              · exact n43 g
              · exact n45 g
              · exact n42 g
              · exact n47 g
              · exact n37 g
            · rcases h.isS i37 with ⟨_, g⟩ | ⟨g, _⟩
              · exact Or.inl (d1 hp (Or.inr (Or.inr (Or.inr (Or.inr g)))) h2)
              · exact absurd g c5
abbrev tcmp (f : Nat → Int) (N p : Nat) : Prop := tsg f N p 60 ∨ tsg f N p 62 ∨ tsg f N p 61
theorem G_cmp {f : Nat → Int} {N b p D : Nat} {A v : St} {z z2 k : Int} (h : MS f N b p A) (hD : A 0 53 = (D : Int)) (h1 : 1 ≤ D) (h01 : z2 = 1 ∨ z2 = 0) (hq : d_X12_goesOn_2 A z v k z2) : (z2 = 1 ∧ A 36 (D - 1) = 0 ∧ tcmp f N p ∧ z = 1 ∧ ∃ B, B = stA A 36 (D - 1) 1 ∧ AF f N b (tEnd f N p) 0 B v) ∨ (¬ (z2 = 1 ∧ A 36 (D - 1) = 0 ∧ tcmp f N p) ∧ d_X12_goesOn_4 A z v k z2) := by
  have ix : (A 0 53 - 1).toNat = D - 1 := by omega
  have d3 : z2 = 1 → A 36 (D - 1) = 0 → tcmp f N p → d_X12_goesOn_3 A z v k z2 → (z2 = 1 ∧ A 36 (D - 1) = 0 ∧ tcmp f N p ∧ z = 1 ∧ ∃ B, B = stA A 36 (D - 1) 1 ∧ AF f N b (tEnd f N p) 0 B v) := by
    intro e2 hp hc h2
    refine ⟨e2, hp, hc, ?_⟩
    have fin : ∀ (B B1 B2 A' : St) (x : Int), SB A B → q_X12_holdsBack x B B1 → B2 = stA B1 36 (D - 1) 1 → q_X12_ahead B2 A' → (∃ A49 : St, A49 = stA A' 0 57 0 ∧ (z = 1 ∧ v = A49)) → z = 1 ∧ ∃ B, B = stA A 36 (D - 1) 1 ∧ AF f N b (tEnd f N p) 0 B v := by
      intro B B1 B2 A' x s1 s2 eB ha2 h3
      obtain ⟨A49, e, hz, hv⟩ := h3
      have s := s1.trans (q_holds_sb s2)
      have hG : MG f N b (tEnd f N p) B2 := by
        rw [eB]
        exact (h.go.sb s).fr rfl (fun _ _ => rfl)
      obtain ⟨a1, a2, a3, a4, a5, a6, a7⟩ := AF.mk hG ha2 (hv.trans e)
      refine ⟨hz, _, rfl, a1, ?_, ?_, a4, ?_, ?_, ?_⟩
      · rw [a2, eB]; exact s.k 53 rfl
      · rw [a3, eB]; exact s.k 54 rfl
      · rw [a5, eB]; exact s.r 35 (by decide) rfl
      · rw [a6, eB, stA_same, stA_same, s.r 36 (by decide) rfl]
      · rw [a7, eB]; exact s.r 37 (by decide) rfl
    obtain ⟨A275, hj, z280, _, h2⟩ := (h2 : tr_d_X12_goesOn_3 A z v k z2)
    rw [ix] at h2
    rcases h2 with ⟨_, z284, _, h2⟩ | ⟨_, A378, hh, A381, e, A382, ha2, h3⟩
    · rcases h2 with ⟨_, A288, hh, A291, e, A292, ha2, h3⟩ | ⟨_, A333, hh, A336, e, A337, ha2, h3⟩
      · exact fin A275 A288 A291 A292 _ (q_joins_sb hj) hh e ha2 h3
      · exact fin A275 A333 A336 A337 _ (q_joins_sb hj) hh e ha2 h3
    · exact fin A275 A378 A381 A382 _ (q_joins_sb hj) hh e ha2 h3
  rcases (hq : tr_d_X12_goesOn_2 A z v k z2) with ⟨c, h2⟩ | ⟨c, z259, hz, h2⟩
  · exact Or.inr ⟨fun g => by have := g.1; omega, h2⟩
  · have e2 : z2 = 1 := h01.resolve_right c
    rw [ix] at hz
    rcases h2 with ⟨c1, h2⟩ | ⟨c1, z261, i60, h2⟩
    · exact Or.inr ⟨fun g => c1 (hz.trans g.2.1), h2⟩
    · have hp : A 36 (D - 1) = 0 := by omega
      rcases h2 with ⟨c2, h2⟩ | ⟨c2, z266, i62, h2⟩
      · rcases h.isS i60 with ⟨_, g⟩ | ⟨g, _⟩
        · exact Or.inl (d3 e2 hp (Or.inl g) h2)
        · exact absurd g c2
      · have n60 : ¬ tsg f N p 60 := by
          rcases h.isS i60 with ⟨g, _⟩ | ⟨_, g⟩
          · omega
          · exact g
        rcases h2 with ⟨c3, h2⟩ | ⟨c3, z270, i61, h2⟩
        · rcases h.isS i62 with ⟨_, g⟩ | ⟨g, _⟩
          · exact Or.inl (d3 e2 hp (Or.inr (Or.inl g)) h2)
          · exact absurd g c3
        · have n62 : ¬ tsg f N p 62 := by
            rcases h.isS i62 with ⟨g, _⟩ | ⟨_, g⟩
            · omega
            · exact g
          rcases h2 with ⟨c4, h2⟩ | ⟨c4, h2⟩
          · have n61 : ¬ tsg f N p 61 := by
              rcases h.isS i61 with ⟨g, _⟩ | ⟨_, g⟩
              · omega
              · exact g
            refine Or.inr ⟨fun g => ?_, h2⟩
            rcases g.2.2 with g | g | g
            · exact n60 g
            · exact n62 g
            · exact n61 g
          · rcases h.isS i61 with ⟨_, g⟩ | ⟨g, _⟩
            · exact Or.inl (d3 e2 hp (Or.inr (Or.inr g)) h2)
            · exact absurd g c4
/-! The reference's tests: turns, second half. -/
theorem G_andor {f : Nat → Int} {N b p D : Nat} {A v : St} {z z2 k : Int} (h : MS f N b p A) (hD : A 0 53 = (D : Int)) (h1 : 1 ≤ D) (h01 : z2 = 1 ∨ z2 = 0) (hq : d_X12_goesOn_4 A z v k z2) : (z2 = 1 ∧ (tow f N p 17 ∨ tow f N p 16) ∧ ((A 36 (D - 1) = 0 ∧ z = 0 ∧ 1 ≤ v 0 8) ∨ (A 36 (D - 1) ≠ 0 ∧ z = 1 ∧ ∃ B, B = stA (stA A 36 (D - 1) 0) 37 (D - 1) 1 ∧ AF f N b (tEnd f N p) 0 B v))) ∨ (¬ (z2 = 1 ∧ (tow f N p 17 ∨ tow f N p 16)) ∧ d_X12_goesOn_7 A z v k z2) := by
  have ix : (A 0 53 - 1).toNat = D - 1 := by omega
  have d6f : ∀ A443 : St, 1 ≤ A443 0 8 → d_X12_goesOn_6 A z v k z2 A443 → z = 0 ∧ v = A443 := by
    intro A443 g h2
    obtain ⟨_, h2⟩ := (h2 : tr_d_X12_goesOn_6 A z v k z2 A443)
    rcases h2 with ⟨c, _⟩ | ⟨_, h2⟩
    · omega
    · exact h2
  have d5 : z2 = 1 → (tow f N p 17 ∨ tow f N p 16) → d_X12_goesOn_5 A z v k z2 → (z2 = 1 ∧ (tow f N p 17 ∨ tow f N p 16) ∧ ((A 36 (D - 1) = 0 ∧ z = 0 ∧ 1 ≤ v 0 8) ∨ (A 36 (D - 1) ≠ 0 ∧ z = 1 ∧ ∃ B, B = stA (stA A 36 (D - 1) 0) 37 (D - 1) 1 ∧ AF f N b (tEnd f N p) 0 B v))) := by
    intro e2 hw h2
    refine ⟨e2, hw, ?_⟩
    have fin : ∀ (B B1 B2 A' : St) (x : Int), SB A B → q_X12_holdsBack x B B1 → B2 = stA (stA B1 36 (D - 1) 0) 37 (D - 1) 1 → q_X12_ahead B2 A' → (∃ A49 : St, A49 = stA A' 0 57 0 ∧ (z = 1 ∧ v = A49)) → z = 1 ∧ ∃ B, B = stA (stA A 36 (D - 1) 0) 37 (D - 1) 1 ∧ AF f N b (tEnd f N p) 0 B v := by
      intro B B1 B2 A' x s1 s2 eB ha2 h3
      obtain ⟨A49, e, hz, hv⟩ := h3
      have s := s1.trans (q_holds_sb s2)
      have hG : MG f N b (tEnd f N p) B2 := by
        rw [eB]
        exact (h.go.sb s).fr rfl (fun _ _ => rfl)
      obtain ⟨a1, a2, a3, a4, a5, a6, a7⟩ := AF.mk hG ha2 (hv.trans e)
      refine ⟨hz, _, rfl, a1, ?_, ?_, a4, ?_, ?_, ?_⟩
      · rw [a2, eB]; exact s.k 53 rfl
      · rw [a3, eB]; exact s.k 54 rfl
      · rw [a5, eB]; exact s.r 35 (by decide) rfl
      · rw [a6, eB]
        show up (B1 36) (D - 1) 0 = up (A 36) (D - 1) 0
        rw [s.r 36 (by decide) rfl]
      · rw [a7, eB]
        show up (B1 37) (D - 1) 1 = up (A 37) (D - 1) 1
        rw [s.r 37 (by decide) rfl]
    obtain ⟨z436, hz, h2⟩ := (h2 : tr_d_X12_goesOn_5 A z v k z2)
    rw [ix] at hz
    rcases h2 with ⟨c, h2⟩ | ⟨c, A439, hb, h2⟩
    · obtain ⟨_, h2⟩ := (h2 : tr_d_X12_goesOn_6 A z v k z2 A)
      rw [ix] at h2
      rcases h2 with ⟨_, z445, _, h2⟩ | ⟨c2, _⟩
      · refine Or.inr ⟨by rw [← hz]; exact c, ?_⟩
        rcases h2 with ⟨_, A449, hj, A455, hh, A458, e, A459, ha2, h3⟩ | ⟨_, A499, hj, A505, hh, A508, e, A509, ha2, h3⟩
        · exact fin A449 A455 A458 A459 _ (q_joins_sb hj) hh e ha2 h3
        · exact fin A499 A505 A508 A509 _ (q_joins_sb hj) hh e ha2 h3
      · exact absurd (Int.le_of_eq h.ns) c2
    · have f1 := hb.2.2.2
      have g := d6f A439 f1 h2
      exact Or.inl ⟨by rw [← hz]; exact c, g.1, by rw [g.2]; exact f1⟩
  rcases (hq : tr_d_X12_goesOn_4 A z v k z2) with ⟨c, h2⟩ | ⟨c, z426, ia, h2⟩
  · exact Or.inr ⟨fun g => absurd (g.1.symm.trans c) (by decide), h2⟩
  · have e2 : z2 = 1 := h01.resolve_right c
    have ia := h.isW (WR_own17 : WR 6385252 4545) ia
    rcases h2 with ⟨c1, h2⟩ | ⟨c1, z431, io, h2⟩
    · rcases ia with ⟨_, g⟩ | ⟨g, _⟩
      · exact Or.inl (d5 e2 (Or.inl g) h2)
      · exact absurd g c1
    · have na : ¬ tow f N p 17 := by
        rcases ia with ⟨g, _⟩ | ⟨_, g⟩
        · exact absurd (g.symm.trans c1) (by decide)
        · exact g
      have io := h.isW (WR_own16 : WR 28530 591) io
      rcases h2 with ⟨c2, h2⟩ | ⟨c2, h2⟩
      · have no : ¬ tow f N p 16 := by
          rcases io with ⟨g, _⟩ | ⟨_, g⟩
          · exact absurd (g.symm.trans c2) (by decide)
          · exact g
        refine Or.inr ⟨fun g => ?_, h2⟩
        rcases g.2 with g | g
        · exact na g
        · exact no g
      · rcases io with ⟨_, g⟩ | ⟨g, _⟩
        · exact Or.inl (d5 e2 (Or.inr g) h2)
        · exact absurd g c2
theorem G_8f {A v B : St} {z k : Int} (g : 1 ≤ B 0 8) (h : d_X12_goesOn_8 A z v k B) : z = 0 ∧ 1 ≤ v 0 8 := by
  obtain ⟨_, h⟩ := (h : tr_d_X12_goesOn_8 A z v k B)
  have d10 : ∀ A576 : St, 1 ≤ A576 0 8 → d_X12_goesOn_10 A z v k A576 → z = 0 ∧ 1 ≤ v 0 8 := by
    intro A576 g h2
    obtain ⟨_, h2⟩ := (h2 : tr_d_X12_goesOn_10 A z v k A576)
    rcases h2 with ⟨c, _⟩ | ⟨_, hz, hv⟩
    · omega
    · exact ⟨hz, by rw [hv]; exact g⟩
  have d9 : ∀ x : Int, d_X12_goesOn_9 k A B z v x → z = 0 ∧ 1 ≤ v 0 8 := by
    intro x h2
    obtain ⟨_, z567, _, h2⟩ := (h2 : tr_d_X12_goesOn_9 k A B z v x)
    rcases h2 with ⟨_, h2⟩ | ⟨_, A572, hb, h2⟩
    · exact d10 B g h2
    · exact d10 A572 hb.2.2.2 h2
  have d11 : ∀ A712 : St, 1 ≤ A712 0 8 → d_X12_goesOn_11 A z v A712 → z = 0 ∧ 1 ≤ v 0 8 := by
    intro A712 g h2
    obtain ⟨_, h2⟩ := (h2 : tr_d_X12_goesOn_11 A z v A712)
    rcases h2 with ⟨c, _⟩ | ⟨_, hz, hv⟩
    · omega
    · exact ⟨hz, by rw [hv]; exact g⟩
  rcases h with ⟨_, h⟩ | ⟨_, h⟩
  · rcases h with ⟨_, h⟩ | ⟨_, z703, _, h⟩
    · rcases h with ⟨_, h⟩ | ⟨_, h⟩
      · exact d9 _ h
      · exact d9 _ h
    · rcases h with ⟨_, h⟩ | ⟨_, A708, hb, h⟩
      · exact d11 B g h
      · exact d11 A708 hb.2.2.2 h
  · rcases h with ⟨_, hz, hv⟩ | ⟨c, _⟩
    · exact ⟨hz, by rw [hv]; exact g⟩
    · omega
theorem G_end {f : Nat → Int} {N b p D : Nat} {A v : St} {z z2 k : Int} (h : MS f N b p A) (hD : A 0 53 = (D : Int)) (h1 : 1 ≤ D) (h01 : z2 = 1 ∨ z2 = 0) (hq : d_X12_goesOn_7 A z v k z2) : (z2 = 1 ∧ A 36 (D - 1) = 0 ∧ z = 0 ∧ 1 ≤ v 0 8) ∨ (¬ (z2 = 1 ∧ A 36 (D - 1) = 0) ∧ d_X12_goesOn_8 A z v k A) := by
  have ix : (A 0 53 - 1).toNat = D - 1 := by omega
  rcases (hq : tr_d_X12_goesOn_7 A z v k z2) with ⟨c, h2⟩ | ⟨c, z552, hz, h2⟩
  · exact Or.inr ⟨fun g => absurd (g.1.symm.trans c) (by decide), h2⟩
  · have e2 : z2 = 1 := h01.resolve_right c
    rw [ix] at hz
    rcases h2 with ⟨c1, h2⟩ | ⟨c1, A554, hb, h2⟩
    · exact Or.inr ⟨fun g => c1 (hz.trans g.2), h2⟩
    · exact Or.inl ⟨e2, by rw [← hz]; exact c1, G_8f hb.2.2.2 h2⟩
/-- the outermost test ends -/
theorem G_k1 {A v : St} {z k : Int} (hk : k < 2) (h8 : A 0 8 = 0) (h : d_X12_goesOn_8 A z v k A) : z = 0 ∧ SB A v := by
  obtain ⟨_, h⟩ := (h : tr_d_X12_goesOn_8 A z v k A)
  rcases h with ⟨c, _⟩ | ⟨_, h⟩
  · omega
  · rcases h with ⟨c, _⟩ | ⟨_, A754, hj, hz, hv⟩
    · exact absurd h8 c
    · exact ⟨hz, by rw [hv]; exact q_joins_sb hj⟩
/-- a comma of a pair -/
theorem G_k3 {f : Nat → Int} {N b p D : Nat} {A v : St} {z : Int} (h : MS f N b p A) (hD : A 0 53 = (D : Int)) (h1 : 1 ≤ D) (hq : d_X12_goesOn_8 A z v 3 A) : (¬ tsg f N p 44 ∧ z = 0 ∧ 1 ≤ v 0 8) ∨ (tsg f N p 44 ∧ z = 1 ∧ ∃ B, B = stA A 35 (D - 1) 4 ∧ AF f N b (tEnd f N p) 0 B v) := by
  have ix : (A 0 53 - 1).toNat = D - 1 := by omega
  obtain ⟨_, hq⟩ := (hq : tr_d_X12_goesOn_8 A z v 3 A)
  rcases hq with ⟨_, hq⟩ | ⟨c, _⟩
  · rcases hq with ⟨c, _⟩ | ⟨_, z703, is, hq⟩
    · exact absurd rfl c
    · have is := h.isS is
      rcases hq with ⟨c1, hq⟩ | ⟨c1, A708, hb, hq⟩
      · rcases is with ⟨_, g⟩ | ⟨g, _⟩
        · refine Or.inr ⟨g, ?_⟩
          obtain ⟨_, hq⟩ := (hq : tr_d_X12_goesOn_11 A z v A)
          rw [ix] at hq
          rcases hq with ⟨_, A716, hj, A721, e, A722, ha2, A725, e2, hz, hv⟩ | ⟨c, _⟩
          · have s := q_joins_sb hj
            have hG : MG f N b (tEnd f N p) A721 := by
              rw [e]
              exact (h.go.sb s).fr rfl (fun _ _ => rfl)
            obtain ⟨a1, a2, a3, a4, a5, a6, a7⟩ := AF.mk hG ha2 (hv.trans e2)
            refine ⟨hz, _, rfl, a1, ?_, ?_, a4, ?_, ?_, ?_⟩
            · rw [a2, e]; exact s.k 53 rfl
            · rw [a3, e]; exact s.k 54 rfl
            · rw [a5, e]
              show up (A716 35) (D - 1) 4 = up (A 35) (D - 1) 4
              rw [s.r 35 (by decide) rfl]
            · rw [a6, e]; exact s.r 36 (by decide) rfl
            · rw [a7, e]; exact s.r 37 (by decide) rfl
          · exact absurd (Int.le_of_eq h.ns) c
        · exact absurd g c1
      · have f1 := hb.2.2.2
        rcases is with ⟨g, _⟩ | ⟨_, g⟩
        · exact absurd (g.symm.trans c1) (by decide)
        · refine Or.inl ⟨g, ?_⟩
          obtain ⟨_, hq⟩ := (hq : tr_d_X12_goesOn_11 A z v A708)
          rcases hq with ⟨c, _⟩ | ⟨_, hz, hv⟩
          · exact absurd c (by omega)
          · exact ⟨hz, by rw [hv]; exact f1⟩
  · exact absurd c (by decide)
/-- a closing bracket -/
theorem G_kc {f : Nat → Int} {N b p D : Nat} {A v : St} {z k x : Int} (hk : (k = 2 ∧ x = 41) ∨ (k = 4 ∧ x = 41) ∨ (k = 5 ∧ x = 93)) (h : MS f N b p A) (hD : A 0 53 = (D : Int)) (h1 : 2 ≤ D) (hq : d_X12_goesOn_8 A z v k A) : (¬ tsg f N p x ∧ z = 0 ∧ 1 ≤ v 0 8) ∨ (tsg f N p x ∧ z = 1 ∧ MO f N b (tEnd f N p) v ∧ v 0 53 = (D : Int) - 1 ∧ v 0 54 = A 0 54 - 1 ∧ v 0 57 = A 0 57 ∧ v 35 = A 35 ∧ v 36 = (if k = 5 then up (A 36) (D - 2) 2 else A 36) ∧ v 37 = A 37) := by
  have ix : (A 0 53 - 2).toNat = D - 2 := by omega
  have ix1 : (A 0 53 - 1).toNat = D - 1 := by omega
  obtain ⟨_, hq⟩ := (hq : tr_d_X12_goesOn_8 A z v k A)
  have d9 : d_X12_goesOn_9 k A A z v x := by
    rcases hq with ⟨_, hq⟩ | ⟨c, _⟩
    · rcases hq with ⟨c, hq⟩ | ⟨c, _⟩
      · rcases hq with ⟨c2, hq⟩ | ⟨c2, hq⟩
        · rcases hk with ⟨_, hx⟩ | ⟨_, hx⟩ | ⟨hk, _⟩
          · rw [hx]; exact hq
          · rw [hx]; exact hq
          · exact absurd hk c2
        · rcases hk with ⟨hk, _⟩ | ⟨hk, _⟩ | ⟨_, hx⟩
          · rw [hk] at c2; exact absurd c2 (by decide)
          · rw [hk] at c2; exact absurd c2 (by decide)
          · rw [hx]; exact hq
      · rcases hk with ⟨hk, _⟩ | ⟨hk, _⟩ | ⟨hk, _⟩ <;> · rw [hk] at c; exact absurd c (by decide)
    · rcases hk with ⟨hk, _⟩ | ⟨hk, _⟩ | ⟨hk, _⟩ <;> · rw [hk] at c; exact absurd c (by decide)
  obtain ⟨_, z567, is, hq⟩ := (d9 : tr_d_X12_goesOn_9 k A A z v x)
  have is := h.isS is
  rcases hq with ⟨c1, hq⟩ | ⟨c1, A572, hb, hq⟩
  · rcases is with ⟨_, g⟩ | ⟨g, _⟩
    · refine Or.inr ⟨g, ?_⟩
      obtain ⟨_, hq⟩ := (hq : tr_d_X12_goesOn_10 A z v k A)
      rw [ix, ix1] at hq
      rcases hq with ⟨_, A579, hj, A584, e, hq⟩ | ⟨c, _⟩
      · have s := q_joins_sb hj
        have hG : MG f N b (tEnd f N p) A584 := by
          rw [e]
          refine (h.go.sb s).fr rfl (fun k hk => ?_)
          rcases hk with rfl | rfl | rfl | rfl <;> rfl
        have e53 : A584 0 53 = (D : Int) - 1 := by rw [e, ← hD]; rfl
        have e54 : A584 0 54 = A 0 54 - 1 := by rw [e]; rfl
        have e57 : A584 0 57 = A 0 57 := by rw [e]; exact s.k 57 rfl
        have r35 : A584 35 = A 35 := by rw [e]; exact s.r 35 (by decide) rfl
        have r36 : A584 36 = A 36 := by rw [e]; exact s.r 36 (by decide) rfl
        have r37 : A584 37 = A 37 := by rw [e]; exact s.r 37 (by decide) rfl
        rcases hq with ⟨k4, hq⟩ | ⟨k4, z657, _, A658, had, A663, ha2, hz, hv⟩
        · rcases hq with ⟨k5, A587, ha2, hz, hv⟩ | ⟨k5, A616, e6, A617, ha2, hz, hv⟩
          · obtain ⟨a1, a2, a3, a4, a5, a6, a7⟩ := AF.mk0 hG ha2 rfl
            rw [hv, if_neg k5]
            exact ⟨hz, a1, a2.trans e53, a3.trans e54, a4.trans e57, a5.trans r35, a6.trans r36, a7.trans r37⟩
          · have hG2 : MG f N b (tEnd f N p) A616 := by
              rw [e6]
              exact hG.fr rfl (fun _ _ => rfl)
            obtain ⟨a1, a2, a3, a4, a5, a6, a7⟩ := AF.mk0 hG2 ha2 rfl
            rw [hv, if_pos k5]
            refine ⟨hz, a1, ?_, ?_, ?_, ?_, ?_, ?_⟩
            · rw [a2, e6]; exact e53
            · rw [a3, e6]; exact e54
            · rw [a4, e6]; exact e57
            · rw [a5, e6]; exact r35
            · rw [a6, e6]
              show up (A584 36) (D - 2) 2 = up (A 36) (D - 2) 2
              rw [r36]
            · rw [a7, e6]; exact r37
        · have s2 := q_add_sb had
          obtain ⟨a1, a2, a3, a4, a5, a6, a7⟩ := (AF.mk0 (hG.sb s2) ha2 rfl).cg s2
          have k5 : ¬ k = 5 := by omega
          rw [hv, if_neg k5]
          exact ⟨hz, a1, a2.trans e53, a3.trans e54, a4.trans ((s2.k 57 rfl).trans e57), a5.trans r35, a6.trans r36, a7.trans r37⟩
      · exact absurd (Int.le_of_eq h.ns) c
    · exact absurd g c1
  · have f1 := hb.2.2.2
    rcases is with ⟨g, _⟩ | ⟨_, g⟩
    · exact absurd (g.symm.trans c1) (by decide)
    · refine Or.inl ⟨g, ?_⟩
      obtain ⟨_, hq⟩ := (hq : tr_d_X12_goesOn_10 A z v k A572)
      rcases hq with ⟨c, _⟩ | ⟨_, hz, hv⟩
      · exact absurd c (by omega)
      · exact ⟨hz, by rw [hv]; exact f1⟩
/-! The reference's tests: operands. -/
theorem st0_k {A : St} {j k : Nat} {x : Int} (hj : 9 ≤ j) (h47 : j ≠ 47) (hk : k < 9 ∨ k = 47) : stA A 0 j x 0 k = A 0 k := by
  rw [stA_same, up_ne _ _ (by omega)]
theorem MO.fr {f : Nat → Int} {N b e : Nat} {A v : St} (h : MO f N b e A) (h1 : v 1 = A 1) (h0 : ∀ k, k < 9 ∨ k = 47 → v 0 k = A 0 k) : MO f N b e v := by
  rcases h with ⟨h, g⟩ | ⟨h, g⟩
  · exact Or.inl ⟨h, by rw [h0 8 (Or.inl (by decide))]; exact g⟩
  · exact Or.inr ⟨by rw [h0 8 (Or.inl (by decide))]; exact h, g.fr h1 h0⟩
/-- behind an opening bracket -/
def OP (f : Nat → Int) (N b e D : Nat) (o x k : Int) (A v : St) : Prop := MO f N b e v ∧ v 0 53 = (D : Int) + 1 ∧ v 0 54 = o + 1 ∧ v 0 57 = x ∧ v 35 = up (A 35) D k ∧ v 36 = up (A 36) D 0 ∧ v 37 = up (A 37) D 1
theorem O_opens {f : Nat → Int} {N b p D : Nat} {A v : St} {k : Int} (h : MS f N b p A) (hD : A 0 53 = (D : Int)) (hq : q_X12_opens k A v) : (A 0 54 = 8 ∧ 1 ≤ v 0 8) ∨ (¬ A 0 54 = 8 ∧ OP f N b (tEnd f N p) D (A 0 54) (A 0 57) k A v) := by
  rcases (hq.1 : tr_r_X12_opens k A v) with ⟨c, h2⟩ | ⟨c, A3, hb, h2⟩
  · obtain ⟨_, h2⟩ := (h2 : tr_d_X12_opens_1 k A v A)
    rcases h2 with ⟨_, A11, e11, A12, ha, A15, hp, hv⟩ | ⟨c2, _⟩
    · refine Or.inr ⟨c, ?_⟩
      have hG : MG f N b (tEnd f N p) A11 := by
        rw [e11]
        refine h.go.fr rfl (fun k hk => ?_)
        rcases hk with rfl | rfl | rfl | rfl <;> rfl
      obtain ⟨g1, g2, g3, g4, g5⟩ := leafA hG ha
      have d12 : A12 0 53 = (D : Int) := by rw [g3, e11]; exact hD
      have ed : (A12 0 53).toNat = D := by rw [d12]; exact Int.toNat_natCast D
      obtain ⟨A1, e1, e2⟩ := (hp.1 : tr_r_X12_pushes k A12 A15)
      rw [ed, d12] at e1
      rw [hv, e2, e1]
      refine ⟨g1.fr rfl (fun k hk => st0_k (by decide) (by decide) hk), rfl, ?_, ?_, ?_, ?_, ?_⟩
      · show A12 0 54 = A 0 54 + 1
        rw [g4, e11]; rfl
      · show A12 0 57 = A 0 57
        rw [g5, e11]; rfl
      · show up (A12 35) D k = up (A 35) D k
        rw [g2 35 (by decide), e11]; rfl
      · show up (A12 36) D 0 = up (A 36) D 0
        rw [g2 36 (by decide), e11]; rfl
      · show up (A12 37) D 1 = up (A 37) D 1
        rw [g2 37 (by decide), e11]; rfl
    · exact absurd (Int.le_of_eq h.ns) c2
  · have f1 := hb.2.2.2
    obtain ⟨_, h2⟩ := (h2 : tr_d_X12_opens_1 k A v A3)
    rcases h2 with ⟨c2, _⟩ | ⟨_, hv⟩
    · omega
    · exact Or.inl ⟨c, by rw [hv]; exact f1⟩
theorem X_opens {A v : St} {k : Int} (h : 1 ≤ A 0 8) (hq : q_X12_opens k A v) : 1 ≤ v 0 8 := by
  have d1 : ∀ A3 : St, 1 ≤ A3 0 8 → d_X12_opens_1 k A v A3 → 1 ≤ v 0 8 := by
    intro A3 f1 h2
    obtain ⟨_, h2⟩ := (h2 : tr_d_X12_opens_1 k A v A3)
    rcases h2 with ⟨c2, _⟩ | ⟨_, hv⟩
    · omega
    · rw [hv]; exact f1
  rcases (hq.1 : tr_r_X12_opens k A v) with ⟨_, h2⟩ | ⟨_, A3, hb, h2⟩
  · exact d1 A h h2
  · exact d1 A3 hb.2.2.2 h2
abbrev tlf (f : Nat → Int) (N p : Nat) : Prop := tKind f N p = 2 ∨ tow f N p 20 ∨ tow f N p 21 ∨ tow f N p 22 ∨ tow f N p 23
/-- behind min or max -/
def PRo (f : Nat → Int) (N b p D : Nat) (o x : Int) (A v : St) : Prop := (1 ≤ v 0 8 ∧ (tKind f N (tEnd f N p) = 4 ∨ ¬ tsg f N (tEnd f N p) 40 ∨ o = 8 ∨ (tsg f N (tEnd f N p) 40 ∧ tKind f N (tEnd f N (tEnd f N p)) = 4))) ∨ (tsg f N (tEnd f N p) 40 ∧ ¬ o = 8 ∧ v 0 8 = 0 ∧ OP f N b (tEnd f N (tEnd f N p)) D o x 3 A v)
theorem O_5 {f : Nat → Int} {N b p D : Nat} {A B v : St} {z : Int} (h : MS f N b p B) (hA : A 0 3 = B 0 3) (hA4 : A 0 4 = B 0 4) (hD : B 0 53 = (D : Int)) (hq : d_X12_operand_5 A B z v) : (tlf f N p ∧ z = 1 ∧ AF f N b (tEnd f N p) (B 0 57) B v) ∨ (¬ tlf f N p ∧ tsg f N p 40 ∧ z = 0 ∧ q_X12_opens 2 B v) ∨ (¬ tlf f N p ∧ ¬ tsg f N p 40 ∧ (tow f N p 24 ∨ tow f N p 25) ∧ z = 0 ∧ PRo f N b p D (B 0 54) (B 0 57) B v) ∨ (¬ tlf f N p ∧ ¬ tsg f N p 40 ∧ ¬ (tow f N p 24 ∨ tow f N p 25) ∧ z = 1 ∧ 1 ≤ v 0 8) := by
  have nt : ∀ {k : Nat}, tsg f N p 40 → ¬ tow f N p k := fun g1 g2 => by have := g1.1; have := g2.1; omega
  have nl : tsg f N p 40 → ¬ tlf f N p := by
    intro g1 g2
    rcases g2 with g | g | g | g | g
    · have := g1.1; omega
    · exact nt g1 g
    · exact nt g1 g
    · exact nt g1 g
    · exact nt g1 g
  have d7f : ∀ (x : Int) (A162 : St), 1 ≤ A162 0 8 → d_X12_operand_7 x A z v A162 → z = 1 ∧ 1 ≤ v 0 8 := by
    intro x A162 g h2
    obtain ⟨_, h2⟩ := (h2 : tr_d_X12_operand_7 x A z v A162)
    rcases h2 with ⟨c, _⟩ | ⟨_, hz, hv⟩
    · omega
    · exact ⟨hz, by rw [hv]; exact g⟩
  have d6 : ∀ x : Int, ¬ x = -1 → d_X12_operand_6 A B z v x → z = 1 ∧ AF f N b (tEnd f N p) (B 0 57) B v := by
    intro x hx h2
    obtain ⟨_, h2⟩ := (h2 : tr_d_X12_operand_6 A B z v x)
    rcases h2 with ⟨_, h2⟩ | ⟨c, _⟩
    · obtain ⟨_, h2⟩ := (h2 : tr_d_X12_operand_7 x A z v B)
      rcases h2 with ⟨_, A166, had, A170, ha, hz, hv⟩ | ⟨c, _⟩
      · have s := q_add_sb had
        rw [hv]
        exact ⟨hz, (AF.mk0 (h.go.sb s) ha (s.k 57 rfl)).cg s⟩
      · exact absurd (Int.le_of_eq h.ns) c
    · exact absurd c hx
  have d6n : d_X12_operand_6 A B z v (-1) → z = 1 ∧ 1 ≤ v 0 8 := by
    intro h2
    obtain ⟨_, h2⟩ := (h2 : tr_d_X12_operand_6 A B z v (-1))
    rcases h2 with ⟨c, _⟩ | ⟨_, A158, hb, h2⟩
    · exact absurd rfl c
    · exact d7f _ A158 hb.2.2.2 h2
  have d8 : d_X12_operand_8 B z v → z = 0 ∧ PRo f N b p D (B 0 54) (B 0 57) B v := by
    intro h2
    have d9 : ∀ x : Int, d_X12_operand_9 B z v x → z = 0 ∧ PRo f N b p D (B 0 54) (B 0 57) B v := by
      intro x h2
      obtain ⟨_, A204, ha, z215, is, h2⟩ := (h2 : tr_d_X12_operand_9 B z v x)
      obtain ⟨g1, g2, g3, g4, g5⟩ := leafA h.go ha
      have d10f : ∀ A224 : St, 1 ≤ A224 0 8 → d_X12_operand_10 x z v A224 → z = 0 ∧ 1 ≤ v 0 8 := by
        intro A224 f1 h2
        obtain ⟨_, A227, ho, h2⟩ := (h2 : tr_d_X12_operand_10 x z v A224)
        have f2 := X_opens f1 ho
        rcases h2 with ⟨_, hz, hv⟩ | ⟨c, _⟩
        · exact ⟨hz, by rw [hv]; exact f2⟩
        · omega
      rcases g1 with ⟨t4, f1⟩ | ⟨_, s⟩
      · have g : z = 0 ∧ 1 ≤ v 0 8 := by
          rcases h2 with ⟨_, h2⟩ | ⟨_, A220, hb, h2⟩
          · exact d10f A204 f1 h2
          · exact d10f A220 hb.2.2.2 h2
        exact ⟨g.1, Or.inl ⟨g.2, Or.inl t4⟩⟩
      · have is := s.isS is
        rcases h2 with ⟨c, h2⟩ | ⟨c, A220, hb, h2⟩
        · rcases is with ⟨_, g⟩ | ⟨g, _⟩
          · obtain ⟨_, A227, ho, h2⟩ := (h2 : tr_d_X12_operand_10 x z v A204)
            have oo := O_opens (D := D) s (g3.trans hD) ho
            rw [g4, g5] at oo
            rcases oo with ⟨o8, f2⟩ | ⟨o8, op⟩
            · rcases h2 with ⟨_, hz, hv⟩ | ⟨c, _⟩
              · exact ⟨hz, Or.inl ⟨by rw [hv]; exact f2, Or.inr (Or.inr (Or.inl o8))⟩⟩
              · omega
            · obtain ⟨a1, a2, a3, a4, a5, a6, a7⟩ := op
              rcases h2 with ⟨c2, hz, hv⟩ | ⟨c2, A231, e, hz, hv⟩
              · rcases a1 with ⟨t4, f3⟩ | ⟨f3, _⟩
                · exact ⟨hz, Or.inl ⟨by rw [hv]; exact f3, Or.inr (Or.inr (Or.inr ⟨g, t4⟩))⟩⟩
                · exact absurd f3 c2
              · refine ⟨hz, Or.inr ⟨g, o8, by rw [hv, e]; exact c2, ?_⟩⟩
                rw [hv, e]
                refine ⟨a1.fr rfl (fun _ _ => rfl), a2, a3, a4, ?_, ?_, ?_⟩
                · show A227 35 = _
                  rw [a5, g2 35 (by decide)]
                · show A227 36 = _
                  rw [a6, g2 36 (by decide)]
                · show A227 37 = _
                  rw [a7, g2 37 (by decide)]
          · exact absurd g c
        · rcases is with ⟨g, _⟩ | ⟨_, g⟩
          · exact absurd (g.symm.trans c) (by decide)
          · have k := d10f A220 hb.2.2.2 h2
            exact ⟨k.1, Or.inl ⟨k.2, Or.inr (Or.inl g)⟩⟩
    obtain ⟨z195, _, h2⟩ := (h2 : tr_d_X12_operand_8 B z v)
    rcases h2 with ⟨_, h2⟩ | ⟨_, h2⟩
    · exact d9 _ h2
    · exact d9 _ h2
  have inj : ∀ i j : Fin 26, own5 i.val = own5 j.val → i = j := by decide +kernel
  have two : ∀ {i j : Nat}, i < 26 → j < 26 → i ≠ j → tow f N p i → ¬ tow f N p j := by
    intro i j hi hj ne g1 g2
    have := inj ⟨i, hi⟩ ⟨j, hj⟩ (g1.2.symm.trans g2.2)
    exact ne (by simpa using this)
  have mm : ∀ {i : Nat}, i < 26 → 24 ≤ i → tow f N p i → ¬ tlf f N p := by
    intro i hi hi2 g1 g2
    rcases g2 with g | g | g | g | g
    · have := g1.1; omega
    · exact two hi (by decide) (by omega) g1 g
    · exact two hi (by decide) (by omega) g1 g
    · exact two hi (by decide) (by omega) g1 g
    · exact two hi (by decide) (by omega) g1 g
  obtain ⟨z120, i40, h2⟩ := (hq : tr_d_X12_operand_5 A B z v)
  have i40 := h.isS i40
  rcases h2 with ⟨c1, z124, im, h2⟩ | ⟨c1, A253, ho, hz, hv⟩
  · have n40 : ¬ tsg f N p 40 := by
      rcases i40 with ⟨g, _⟩ | ⟨_, g⟩
      · exact absurd (g.symm.trans c1) (by decide)
      · exact g
    have im := h.isW (WR_own24 : WR 7170414 14637) im
    rcases h2 with ⟨c2, h2⟩ | ⟨c2, z129, ix, h2⟩
    · rcases im with ⟨_, g⟩ | ⟨g, _⟩
      · exact Or.inr (Or.inr (Or.inl ⟨mm (by decide) (by decide) (show tow f N p 24 from g), n40, Or.inl g, d8 h2⟩))
      · exact absurd g c2
    · have nmin : ¬ tow f N p 24 := by
        rcases im with ⟨g, _⟩ | ⟨_, g⟩
        · exact absurd (g.symm.trans c2) (by decide)
        · exact g
      have ix := h.isW (WR_own25 : WR 7168376 24621) ix
      rcases h2 with ⟨c3, h2⟩ | ⟨c3, h2⟩
      · have nmax : ¬ tow f N p 25 := by
          rcases ix with ⟨g, _⟩ | ⟨_, g⟩
          · exact absurd (g.symm.trans c3) (by decide)
          · exact g
        rcases h2 with ⟨c4, z135, i20, h2⟩ | ⟨c4, h2⟩
        · have n2 : ¬ tKind f N p = 2 := fun g => c4 (by rw [hA, h.sg]; exact g)
          have i20 := h.isW (WR_own20 : WR 7825519 15639) i20
          rcases h2 with ⟨c5, z139, i21, h2⟩ | ⟨c5, h2⟩
          · have n20 : ¬ tow f N p 20 := by
              rcases i20 with ⟨g, _⟩ | ⟨_, g⟩
              · exact absurd (g.symm.trans c5) (by decide)
              · exact g
            have i21 := h.isW (WR_own21 : WR 1936748404 671251) i21
            rcases h2 with ⟨c6, z143, i22, h2⟩ | ⟨c6, h2⟩
            · have n21 : ¬ tow f N p 21 := by
                rcases i21 with ⟨g, _⟩ | ⟨_, g⟩
                · exact absurd (g.symm.trans c6) (by decide)
                · exact g
              have i22 := h.isW (WR_own22 : WR 1801812339 648363) i22
              rcases h2 with ⟨c7, z147, i23, h2⟩ | ⟨c7, h2⟩
              · have n22 : ¬ tow f N p 22 := by
                  rcases i22 with ⟨g, _⟩ | ⟨_, g⟩
                  · exact absurd (g.symm.trans c7) (by decide)
                  · exact g
                have i23 := h.isW (WR_own23 : WR 109317377451364 140098947) i23
                rcases h2 with ⟨c8, h2⟩ | ⟨c8, h2⟩
                · have n23 : ¬ tow f N p 23 := by
                    rcases i23 with ⟨g, _⟩ | ⟨_, g⟩
                    · exact absurd (g.symm.trans c8) (by decide)
                    · exact g
                  have nlf : ¬ tlf f N p := by
                    rintro (g | g | g | g | g)
                    · exact n2 g
                    · exact n20 g
                    · exact n21 g
                    · exact n22 g
                    · exact n23 g
                  have nmm : ¬ (tow f N p 24 ∨ tow f N p 25) := by
                    rintro (g | g)
                    · exact nmin g
                    · exact nmax g
                  exact Or.inr (Or.inr (Or.inr ⟨nlf, n40, nmm, d6n h2⟩))
                · rcases i23 with ⟨_, g⟩ | ⟨g, _⟩
                  · exact Or.inl ⟨Or.inr (Or.inr (Or.inr (Or.inr g))), d6 _ (by decide) h2⟩
                  · exact absurd g c8
              · rcases i22 with ⟨_, g⟩ | ⟨g, _⟩
                · exact Or.inl ⟨Or.inr (Or.inr (Or.inr (Or.inl g))), d6 _ (by decide) h2⟩
                · exact absurd g c7
            · rcases i21 with ⟨_, g⟩ | ⟨g, _⟩
              · exact Or.inl ⟨Or.inr (Or.inr (Or.inl g)), d6 _ (by decide) h2⟩
              · exact absurd g c6
          · rcases i20 with ⟨_, g⟩ | ⟨g, _⟩
            · exact Or.inl ⟨Or.inr (Or.inl g), d6 _ (by decide) h2⟩
            · exact absurd g c5
        · have t2 : tKind f N p = 2 := by rw [← h.sg, ← hA]; exact c4
          exact Or.inl ⟨Or.inl t2, d6 _ (by decide) h2⟩
      · rcases ix with ⟨_, g⟩ | ⟨g, _⟩
        · exact Or.inr (Or.inr (Or.inl ⟨mm (by decide) (by decide) (show tow f N p 25 from g), n40, Or.inr g, d8 h2⟩))
        · exact absurd g c3
  · rcases i40 with ⟨_, g⟩ | ⟨g, _⟩
    · exact Or.inr (Or.inl ⟨nl g, g, hz, by rw [hv]; exact ho⟩)
    · exact absurd g c1
/-- a test's fact begins -/
abbrev fst1 (D : Nat) (A : St) : Prop := (A 35 (D - 1) = 1 ∨ A 35 (D - 1) = 5) ∧ ¬ A 37 (D - 1) = 0
theorem O_base {f : Nat → Int} {N b p D : Nat} {A v : St} {z : Int} (h : MS f N b p A) (hD : A 0 53 = (D : Int)) (h1 : 1 ≤ D) (hq : q_X12_operand A z v) : (fst1 D A ∧ tow f N p 18 ∧ z = 0 ∧ AF f N b (tEnd f N p) (A 0 57) A v) ∨ (fst1 D A ∧ tsg f N p 91 ∧ z = 0 ∧ q_X12_opens 5 (stA A 37 (D - 1) 0) v) ∨ (fst1 D A ∧ tow f N p 19 ∧ z = 1 ∧ AF f N b (tEnd f N p) (A 0 57) (stA (stA A 37 (D - 1) 0) 36 (D - 1) 2) v) ∨ ((fst1 D A → ¬ tow f N p 18 ∧ ¬ tsg f N p 91 ∧ ¬ tow f N p 19) ∧ d_X12_operand_5 A (stA A 37 (D - 1) 0) z v) := by
  have ix : (A 0 53 - 1).toNat = D - 1 := by omega
  have s49 : MS f N b p (stA A 37 (D - 1) 0) := h.fr rfl (fun _ _ => rfl)
  obtain ⟨z1, hz1, z2, ht, h2⟩ := (hq.1 : tr_r_X12_operand A z v)
  rw [ix] at hz1
  have ht := isTest_iff ht
  rw [hz1] at ht
  have d3n : ¬ fst1 D A → d_X12_operand_3 0 A z v → d_X12_operand_5 A (stA A 37 (D - 1) 0) z v := by
    intro hn h2
    obtain ⟨A49, e, h2⟩ := (h2 : tr_d_X12_operand_3 0 A z v)
    rw [ix] at e
    rw [← e]
    rcases h2 with ⟨_, h2⟩ | ⟨c, _⟩
    · rcases (h2 : tr_d_X12_operand_4 0 A A49 z v) with ⟨_, h2⟩ | ⟨c, _⟩
      · exact h2
      · exact absurd rfl c
    · exact absurd rfl c
  have d2n : ¬ fst1 D A → d_X12_operand_2 A z v 0 → d_X12_operand_5 A (stA A 37 (D - 1) 0) z v := by
    intro hn h2
    obtain ⟨_, h2⟩ := (h2 : tr_d_X12_operand_2 A z v 0)
    rcases h2 with ⟨_, h2⟩ | ⟨c, _⟩
    · exact d3n hn h2
    · exact absurd rfl c
  rcases h2 with ⟨c, h2⟩ | ⟨c, z8, hz8, h2⟩
  · have nf : ¬ fst1 D A := by
      intro g
      rcases ht with ⟨g2, _⟩ | ⟨_, g2⟩
      · exact absurd (g2.symm.trans c) (by decide)
      · exact g2 g.1
    exact Or.inr (Or.inr (Or.inr ⟨fun g => absurd g nf, d2n nf h2⟩))
  · rw [ix] at hz8
    rcases h2 with ⟨c2, h2⟩ | ⟨c2, h2⟩
    · have nf : ¬ fst1 D A := fun g => g.2 (hz8.symm.trans c2)
      exact Or.inr (Or.inr (Or.inr ⟨fun g => absurd g nf, d2n nf h2⟩))
    · have yf : fst1 D A := by
        rcases ht with ⟨_, g2⟩ | ⟨g2, _⟩
        · exact ⟨g2, fun g => c2 (hz8.trans g)⟩
        · exact absurd g2 c
      obtain ⟨_, h2⟩ := (h2 : tr_d_X12_operand_2 A z v 1)
      rcases h2 with ⟨c3, _⟩ | ⟨_, z18, i18, h2⟩
      · exact absurd c3 (by decide)
      · have i18 := h.isW (WR_own18 : WR 7237492 20974) i18
        rcases h2 with ⟨c4, h2⟩ | ⟨c4, A22, hh, A25, ha, hz, hv⟩
        · have n18 : ¬ tow f N p 18 := by
            rcases i18 with ⟨g, _⟩ | ⟨_, g⟩
            · exact absurd (g.symm.trans c4) (by decide)
            · exact g
          obtain ⟨A49, e, h2⟩ := (h2 : tr_d_X12_operand_3 1 A z v)
          rw [ix] at e
          rw [← e] at s49 ⊢
          rcases h2 with ⟨c5, _⟩ | ⟨_, z59, i91, h2⟩
          · exact absurd c5 (by decide)
          · have i91 := s49.isS i91
            rcases h2 with ⟨c6, h2⟩ | ⟨c6, A63, ho, hz, hv⟩
            · have n91 : ¬ tsg f N p 91 := by
                rcases i91 with ⟨g, _⟩ | ⟨_, g⟩
                · exact absurd (g.symm.trans c6) (by decide)
                · exact g
              rcases (h2 : tr_d_X12_operand_4 1 A A49 z v) with ⟨c7, _⟩ | ⟨_, z76, i19, h2⟩
              · exact absurd c7 (by decide)
              · have i19 := s49.isW (WR_own19 : WR 6384748 12673) i19
                rcases h2 with ⟨c8, h2⟩ | ⟨c8, A80, had, A84, e84, A85, ha, hz, hv⟩
                · have n19 : ¬ tow f N p 19 := by
                    rcases i19 with ⟨g, _⟩ | ⟨_, g⟩
                    · exact absurd (g.symm.trans c8) (by decide)
                    · exact g
                  exact Or.inr (Or.inr (Or.inr ⟨fun _ => ⟨n18, n91, n19⟩, h2⟩))
                · rcases i19 with ⟨_, g⟩ | ⟨g, _⟩
                  · refine Or.inr (Or.inr (Or.inl ⟨yf, g, hz, ?_⟩))
                    rw [ix] at e84
                    have s := q_add_sb had
                    have hG : MG f N b (tEnd f N p) A84 := by
                      rw [e84]
                      exact (s49.go.sb s).fr rfl (fun _ _ => rfl)
                    obtain ⟨a1, a2, a3, a4, a5, a6, a7⟩ := AF.mk0 hG ha rfl
                    rw [hv]
                    refine ⟨a1, ?_, ?_, ?_, ?_, ?_, ?_⟩
                    · rw [a2, e84]; exact s.k 53 rfl
                    · rw [a3, e84]; exact s.k 54 rfl
                    · rw [a4, e84]
                      show A80 0 57 = A 0 57
                      rw [s.k 57 rfl, e]; rfl
                    · rw [a5, e84]; exact s.r 35 (by decide) rfl
                    · rw [a6, e84, stA_same, stA_same, s.r 36 (by decide) rfl]
                    · rw [a7, e84]; exact s.r 37 (by decide) rfl
                  · exact absurd g c8
            · rcases i91 with ⟨_, g⟩ | ⟨g, _⟩
              · exact Or.inr (Or.inl ⟨yf, g, hz, by rw [hv]; exact ho⟩)
              · exact absurd g c6
        · rcases i18 with ⟨_, g⟩ | ⟨g, _⟩
          · refine Or.inl ⟨yf, g, hz, ?_⟩
            have s := q_holds_sb hh
            rw [hv]
            exact (AF.mk0 (h.go.sb s) ha (s.k 57 rfl)).cg s
          · exact absurd g c4
/-! The reference's tests against the class's: parts. -/
theorem sOwn_pos {f : Nat → Int} {N p k : Nat} (h : tow f N p k) : sOwn f N k p = some (tEnd f N p) := by
  unfold sOwn
  rw [if_pos h]
theorem sOwn_neg {f : Nat → Int} {N p k : Nat} (h : ¬ tow f N p k) : sOwn f N k p = none := by
  unfold sOwn
  rw [if_neg h]
theorem sSign_pos {f : Nat → Int} {N p : Nat} {c : Int} (h : tsg f N p c) : sSign f N c p = some (tEnd f N p) := by
  unfold sSign
  rw [if_pos h]
theorem sSign_neg {f : Nat → Int} {N p : Nat} {c : Int} (h : ¬ tsg f N p c) : sSign f N c p = none := by
  unfold sSign
  rw [if_neg h]
theorem own5_inj26 : ∀ i j : Fin 26, own5 i.val = own5 j.val → i = j := by decide +kernel
theorem tow_ne {f : Nat → Int} {N p i j : Nat} (h : tow f N p i) (hi : i < 26) (hj : j < 26) (ne : i ≠ j) : ¬ tow f N p j := by
  intro g
  have := own5_inj26 ⟨i, hi⟩ ⟨j, hj⟩ (h.2.symm.trans g.2)
  exact ne (by simpa using this)
theorem tow_sg {f : Nat → Int} {N p i : Nat} {c : Int} (h : tow f N p i) : ¬ tsg f N p c := fun g => by have := h.1; have := g.1; omega
theorem sPart_lf {f : Nat → Int} {N p : Nat} (h : tlf f N p) : ∃ x, ∀ n S T, sPart f N n S T p = sAd2 (some (T, tEnd f N p)) x := by
  rcases h with h | h | h | h | h
  · exact ⟨nv f N p, fun n S T => by unfold sPart; rw [if_pos h]⟩
  · refine ⟨-1, fun n S T => ?_⟩
    unfold sPart
    rw [if_neg (by have := h.1; omega), sSign_neg (tow_sg h), sOwn_pos h]
  · refine ⟨-2, fun n S T => ?_⟩
    unfold sPart
    rw [if_neg (by have := h.1; omega), sSign_neg (tow_sg h), sOwn_neg (tow_ne h (by decide) (by decide) (by decide)), sOwn_pos h]
  · refine ⟨-3, fun n S T => ?_⟩
    unfold sPart
    rw [if_neg (by have := h.1; omega), sSign_neg (tow_sg h), sOwn_neg (tow_ne h (by decide) (by decide) (by decide)), sOwn_neg (tow_ne h (by decide) (by decide) (by decide)), sOwn_pos h]
  · refine ⟨-4, fun n S T => ?_⟩
    unfold sPart
    rw [if_neg (by have := h.1; omega), sSign_neg (tow_sg h), sOwn_neg (tow_ne h (by decide) (by decide) (by decide)), sOwn_neg (tow_ne h (by decide) (by decide) (by decide)), sOwn_neg (tow_ne h (by decide) (by decide) (by decide)), sOwn_pos h]
theorem sPart_br {f : Nat → Int} {N p n : Nat} {S : PT} {T : St} (h : tsg f N p 40) : sPart f N n S T p = if n = 0 then none else (S T (tEnd f N p)).bind fun a => (sSign f N 41 a.2).bind fun p2 => some (a.1, p2) := by
  unfold sPart
  rw [if_neg (by have := h.1; omega), sSign_pos h]
theorem sPart_mm {f : Nat → Int} {N p : Nat} (h : tow f N p 24 ∨ tow f N p 25) : ∃ x, ∀ n S T, sPart f N n S T p = sAd2 (sPair f N n S T (tEnd f N p)) x := by
  rcases h with h | h
  · refine ⟨-17, fun n S T => ?_⟩
    unfold sPart
    rw [if_neg (by have := h.1; omega), sSign_neg (tow_sg h), sOwn_neg (tow_ne h (by decide) (by decide) (by decide)), sOwn_neg (tow_ne h (by decide) (by decide) (by decide)), sOwn_neg (tow_ne h (by decide) (by decide) (by decide)), sOwn_neg (tow_ne h (by decide) (by decide) (by decide)), sOwn_pos h]
  · refine ⟨-18, fun n S T => ?_⟩
    unfold sPart
    rw [if_neg (by have := h.1; omega), sSign_neg (tow_sg h), sOwn_neg (tow_ne h (by decide) (by decide) (by decide)), sOwn_neg (tow_ne h (by decide) (by decide) (by decide)), sOwn_neg (tow_ne h (by decide) (by decide) (by decide)), sOwn_neg (tow_ne h (by decide) (by decide) (by decide)), sOwn_neg (tow_ne h (by decide) (by decide) (by decide)), sOwn_pos h]
theorem sPart_no {f : Nat → Int} {N p n : Nat} {S : PT} {T : St} (h1 : ¬ tlf f N p) (h2 : ¬ tsg f N p 40) (h3 : ¬ (tow f N p 24 ∨ tow f N p 25)) : sPart f N n S T p = none := by
  unfold sPart
  rw [if_neg (fun g => h1 (Or.inl g)), sSign_neg h2, sOwn_neg (fun g => h1 (Or.inr (Or.inl g))), sOwn_neg (fun g => h1 (Or.inr (Or.inr (Or.inl g)))), sOwn_neg (fun g => h1 (Or.inr (Or.inr (Or.inr (Or.inl g))))), sOwn_neg (fun g => h1 (Or.inr (Or.inr (Or.inr (Or.inr g))))), sOwn_neg (fun g => h3 (Or.inl g)), sOwn_neg (fun g => h3 (Or.inr g))]
theorem bad_part {f : Nat → Int} {N p n : Nat} {S : PT} {T : St} (h : tKind f N p = 4) : sPart f N n S T p = none := by
  refine sPart_no ?_ (fun g => by have := g.1; omega) ?_
  · rintro (g | g | g | g | g)
    · omega
    · have := g.1; omega
    · have := g.1; omega
    · have := g.1; omega
    · have := g.1; omega
  · rintro (g | g)
    · have := g.1; omega
    · have := g.1; omega
theorem sAdC_ok {T : St} {x : Int} (h : T 19 2 < 1600) : ∃ t, sAdC T x = some t ∧ t 19 2 = T 19 2 + 1 := by
  unfold sAdC
  rw [if_pos h]
  refine ⟨_, rfl, ?_⟩
  rw [stA_same, up_same]
theorem sAd2_ok {T : St} {e : Nat} {x : Int} (h : T 19 2 < 1600) : ∃ t, sAd2 (some (T, e)) x = some (t, e) ∧ t 19 2 = T 19 2 + 1 := by
  obtain ⟨t, h1, h2⟩ := sAdC_ok (x := x) h
  refine ⟨t, ?_, h2⟩
  unfold sAd2
  show ((sAdC T x).bind fun t => some (t, e)) = some (t, e)
  rw [h1]
  rfl
theorem Bad.ad2 {f : Nat → Int} {N : Nat} {r : Option (St × Nat)} {x : Int} (h : Bad f N r) : Bad f N (sAd2 r x) := by
  unfold sAd2
  refine h.bd (fun a ha => ?_)
  cases sAdC a.1 x with
  | none => exact Or.inl rfl
  | some t => exact Or.inr ⟨(t, a.2), rfl, ha⟩
/-- the frames are as before; the top one's fact has begun -/
def TP (D : Nat) (A A' : St) : Prop := A' 0 53 = A 0 53 ∧ A' 0 54 = A 0 54 ∧ (∀ i, i < D → A' 35 i = A 35 i ∧ A' 36 i = A 36 i) ∧ (∀ i, i + 1 < D → A' 37 i = A 37 i) ∧ A' 37 (D - 1) = 0
theorem TP.trans {D : Nat} {A B C : St} (h : TP D A B) (g : TP D B C) : TP D A C := ⟨g.1.trans h.1, g.2.1.trans h.2.1, fun i hi => ⟨(g.2.2.1 i hi).1.trans (h.2.2.1 i hi).1, (g.2.2.1 i hi).2.trans (h.2.2.1 i hi).2⟩, fun i hi => (g.2.2.2.1 i hi).trans (h.2.2.2.1 i hi), g.2.2.2.2⟩
def Out (f : Nat → Int) (N b : Nat) (u : St) (D : Nat) (A T : St) (p q : Nat) (X : Nat → Prop) (r : Option (St × Nat)) : Prop := (1 ≤ u 0 8 ∧ Bad f N r) ∨ (∃ a A', r = some a ∧ MS f N b a.2 A' ∧ RN u A' ∧ A' 0 57 = 1 ∧ TP D A A' ∧ X a.2 ∧ q ≤ a.2 ∧ a.1 19 2 + (p : Int) ≤ T 19 2 + (a.2 : Int))
abbrev pln (f : Nat → Int) (N p D : Nat) (A : St) : Prop := fst1 D A → ¬ tow f N p 18 ∧ ¬ tsg f N p 91 ∧ ¬ tow f N p 19
def SimS (f : Nat → Int) (N b : Nat) (u : St) (o : Int) (S : PT) : Prop := (∀ T p, tKind f N p = 4 → S T p = none) ∧ ∀ (A T : St) (p D : Nat), MS f N b p A → RN u A → A 0 57 = 0 → A 0 53 = (D : Int) → 1 ≤ D → A 0 54 = o → pln f N p D A → A 36 (D - 1) < 2 → T 19 2 ≤ (p : Int) → 1 ≤ p → Out f N b u D A T p (p + 1) (fun e => ¬ tari f N e) (S T p)
/-- goesOn where no sign of a sum stands, in a frame that is no test -/
theorem G_in {f : Nat → Int} {N b p D : Nat} {A v : St} {z : Int} (h : MS f N b p A) (hD : A 0 53 = (D : Int)) (h1 : 1 ≤ D) (hk : ¬ (A 35 (D - 1) = 1 ∨ A 35 (D - 1) = 5)) (ht : ¬ tari f N p) (hq : q_X12_goesOn A z v) : d_X12_goesOn_8 A z v (A 35 (D - 1)) A := by
  rcases G_base h hD h1 hq with ⟨_, g, _⟩ | ⟨_, z2, hz2, h2⟩
  · exact absurd g ht
  · have e2 : z2 = 0 := by
      rcases hz2 with ⟨_, g⟩ | ⟨g, _⟩
      · exact absurd g hk
      · exact g
    have n1 : ¬ z2 = 1 := fun g => absurd (g.symm.trans e2) (by decide)
    rcases G_cmp h hD h1 (Or.inr e2) h2 with ⟨g, _⟩ | ⟨_, h2⟩
    · exact absurd g n1
    · rcases G_andor h hD h1 (Or.inr e2) h2 with ⟨g, _⟩ | ⟨_, h2⟩
      · exact absurd g n1
      · rcases G_end h hD h1 (Or.inr e2) h2 with ⟨g, _⟩ | ⟨_, h2⟩
        · exact absurd g n1
        · exact h2
theorem MO.nf {f : Nat → Int} {N b e : Nat} {v : St} (h : MO f N b e v) (g : v 0 8 = 0) : MS f N b e v := by
  rcases h with ⟨_, h⟩ | ⟨_, h⟩
  · omega
  · exact h
theorem MO.ff {f : Nat → Int} {N b e : Nat} {v : St} (h : MO f N b e v) (g : ¬ v 0 8 = 0) : tKind f N e = 4 ∧ 1 ≤ v 0 8 := by
  rcases h with h | ⟨h, _⟩
  · exact h
  · exact absurd h g
/-- behind an opening bracket: the deeper sum, and where it stands then -/
theorem S_deep {f : Nat → Int} {N b p D : Nat} {u A B T : St} {o k : Int} {S : PT} (hS : SimS f N b u (o + 1) S) (hk : ¬ (k = 1 ∨ k = 5)) (hB8 : B 0 8 = 0) (hop : OP f N b p D o 0 k A B) (hr : RN u B) (hT : T 19 2 ≤ (p : Int)) (hp : 1 ≤ p) : Out f N b u (D + 1) B T p (p + 1) (fun e => ¬ tari f N e) (S T p) := by
  obtain ⟨a1, a2, a3, a4, a5, a6, a7⟩ := hop
  refine hS.2 B T p (D + 1) (a1.nf hB8) hr a4 (by rw [a2]; rfl) (by omega) a3 (fun g => ?_) ?_ hT hp
  · have := g.1
    rw [a5, show D + 1 - 1 = D by omega, up_same] at this
    exact absurd this hk
  · rw [a6, show D + 1 - 1 = D by omega, up_same]
    decide
theorem up_lt {g : Nat → Int} {D i : Nat} {v : Int} (h : i < D) : up g D v i = g i := up_ne _ _ (by omega)
/-- a bracket closes: where it stands then -/
theorem C_close {f : Nat → Int} {N b D e e' : Nat} {u A B A2 T : St} {o : Int} {X : Nat → Prop} {a : St × Nat} {kk : Int} (h1 : 1 ≤ D) (hA53 : A 0 53 = (D : Int)) (hA54 : A 0 54 = o) (b54 : B 0 54 = o + 1) (b53 : B 0 53 = (D : Int) + 1) (hb : ∀ i, i < D → B 35 i = A 35 i ∧ B 36 i = A 36 i) (hb7 : ∀ i, i + 1 < D → B 37 i = A 37 i) (hb70 : B 37 (D - 1) = 0) (hs : MS f N b a.2 A2) (hr : RN u A2) (h57 : A2 0 57 = 1) (ht : TP (D + 1) B A2) (hX : ¬ tari f N a.2) (hkk : A2 35 D = kk) (hk24 : kk = 2 ∨ kk = 4) : (1 ≤ u 0 8 ∧ (¬ tsg f N a.2 41 ∨ (tsg f N a.2 41 ∧ tKind f N (tEnd f N a.2) = 4))) ∨ (tsg f N a.2 41 ∧ ∃ A', MS f N b (tEnd f N a.2) A' ∧ RN u A' ∧ A' 0 57 = 1 ∧ TP D A A') := by
  obtain ⟨z, C, hg, h3⟩ := RN_go hr (by rw [h57]; decide)
  have d2 : A2 0 53 = ((D + 1 : Nat) : Int) := by rw [ht.1, b53]; rfl
  have ed : D + 1 - 1 = D := by omega
  have g8 := G_in (D := D + 1) hs d2 (by omega) (by rw [ed, hkk]; omega) hX hg
  rw [ed, hkk] at g8
  have hk : (kk = 2 ∧ (41 : Int) = 41) ∨ (kk = 4 ∧ (41 : Int) = 41) ∨ (kk = 5 ∧ (41 : Int) = 93) := by
    rcases hk24 with g | g
    · exact Or.inl ⟨g, rfl⟩
    · exact Or.inr (Or.inl ⟨g, rfl⟩)
  rcases G_kc hk hs d2 (by omega) g8 with ⟨n, hz, f1⟩ | ⟨y, hz, mo, c53, c54, c57, c35, c36, c37⟩
  · refine Or.inl ⟨?_, Or.inl n⟩
    rcases h3 with ⟨_, e⟩ | ⟨c, _⟩ | ⟨c, _⟩
    · rw [e]; exact f1
    · exact absurd hz c
    · exact absurd hz c
  · have nz : ¬ z = 0 := by rw [hz]; decide
    rcases h3 with ⟨c, _⟩ | ⟨_, c8, e⟩ | ⟨_, c8, hr2⟩
    · exact absurd c nz
    · have g := mo.ff c8
      exact Or.inl ⟨by rw [e]; exact g.2, Or.inr ⟨y, g.1⟩⟩
    · refine Or.inr ⟨y, C, mo.nf c8, hr2, c57.trans h57, ?_, ?_, fun i hi => ?_, fun i hi => ?_, ?_⟩
      · rw [c53, hA53]
        show ((D + 1 : Nat) : Int) - 1 = (D : Int)
        omega
      · rw [c54, ht.2.1, b54, hA54]; omega
      · have t := ht.2.2.1 i (by omega)
        rw [c35, c36, if_neg (by omega)]
        exact ⟨t.1.trans (hb i hi).1, t.2.trans (hb i hi).2⟩
      · rw [c37, ht.2.2.2.1 i (by omega)]
        exact hb7 i hi
      · rw [c37, ht.2.2.2.1 (D - 1) (by omega)]
        exact hb70
theorem Sim_part {f : Nat → Int} {N b n : Nat} {u : St} {o : Int} {S : PT} (hn : (n : Int) + o = 8) (hS : 0 < n → SimS f N b u (o + 1) S) {A T : St} {p D : Nat} (h : MS f N b p A) (hr : RN u A) (h57 : A 0 57 = 0) (hD : A 0 53 = (D : Int)) (h1 : 1 ≤ D) (h54 : A 0 54 = o) (hpl : pln f N p D A) (hT : T 19 2 ≤ (p : Int)) (hp : 1 ≤ p) : Out f N b u D A T p (p + 1) (fun _ => True) (sPart f N n S T p) := by
  obtain ⟨z, B, hq, h2⟩ := RN_op hr h57
  have s49 : MS f N b p (stA A 37 (D - 1) 0) := h.fr rfl (fun _ _ => rfl)
  have tb := tEnd_b (f := f) h.le
  have N16 : N ≤ 1600 := h.1.2.1
  rcases O_base h hD h1 hq with ⟨g, g2, _⟩ | ⟨g, g2, _⟩ | ⟨g, g2, _⟩ | ⟨_, h5⟩
  · exact absurd g2 (hpl g).1
  · exact absurd g2 (hpl g).2.1
  · exact absurd g2 (hpl g).2.2
  · have r5 := O_5 (D := D) s49 rfl rfl hD h5
    have e57 : stA A 37 (D - 1) 0 0 57 = 0 := h57
    have e54 : stA A 37 (D - 1) 0 0 54 = o := h54
    rw [e57, e54] at r5
    have r37 : ∀ i, i + 1 < D → up (A 37) (D - 1) 0 i = A 37 i := fun i hi => up_ne _ _ (by omega)
    rcases r5 with ⟨lf, hz, a1, a2, a3, a4, a5, a6, a7⟩ | ⟨_, y, hz, ho⟩ | ⟨nlf, n40, mm, hz, pr⟩ | ⟨nlf, n40, nmm, hz, f1⟩
    · obtain ⟨x, sx⟩ := sPart_lf lf
      have tk0 : tKind f N p ≠ 0 := by
        rcases lf with g | g | g | g | g
        · omega
        · have := g.1; omega
        · have := g.1; omega
        · have := g.1; omega
        · have := g.1; omega
      have lt := tb.2.2.2 tk0
      obtain ⟨t, st, et⟩ := sAd2_ok (T := T) (e := tEnd f N p) (x := x) (by omega)
      rw [sx, st]
      rcases h2 with ⟨c, e⟩ | ⟨c, hr2⟩
      · have g := a1.ff c
        exact Or.inl ⟨by rw [e]; exact g.2, Or.inr ⟨_, rfl, g.1⟩⟩
      · refine Or.inr ⟨(t, tEnd f N p), stA B 0 57 z, rfl, (a1.nf c).fr rfl (fun k hk => st0_k (by decide) (by decide) hk), hr2, hz, ⟨a2, a3, fun i hi => ?_, fun i hi => ?_, ?_⟩, trivial, by show p + 1 ≤ tEnd f N p; omega, ?_⟩
        · show B 35 i = A 35 i ∧ B 36 i = A 36 i
          rw [a5, a6]
          exact ⟨rfl, rfl⟩
        · show B 37 i = A 37 i
          rw [a7]
          exact r37 i hi
        · show B 37 (D - 1) = 0
          rw [a7, stA_same, up_same]
        · show t 19 2 + (p : Int) ≤ T 19 2 + (tEnd f N p : Int)
          omega
    · rw [sPart_br y]
      have lt := tb.2.2.2 (by have := y.1; omega)
      rcases O_opens s49 hD ho with ⟨o8, f1⟩ | ⟨o8, op⟩
      · have o8 : o = 8 := by rw [← e54]; exact o8
        have n0 : n = 0 := by omega
        rw [if_pos n0]
        refine Or.inl ⟨?_, Or.inl rfl⟩
        rcases h2 with ⟨_, e⟩ | ⟨c, _⟩
        · rw [e]; exact f1
        · omega
      · rw [e54] at o8
        rw [e54, e57] at op
        have n0 : 0 < n := by omega
        rw [if_neg (by omega)]
        have hS := hS n0
        rcases h2 with ⟨c, e⟩ | ⟨c, hr2⟩
        · have g := op.1.ff c
          refine Or.inl ⟨by rw [e]; exact g.2, Or.inl ?_⟩
          rw [hS.1 T _ g.1]
          rfl
        · have hop : OP f N b (tEnd f N p) D o 0 2 (stA A 37 (D - 1) 0) (stA B 0 57 z) := by
            obtain ⟨a1, a2, a3, a4, a5, a6, a7⟩ := op
            exact ⟨a1.fr rfl (fun k hk => st0_k (by decide) (by decide) hk), a2, a3, hz, a5, a6, a7⟩
          have sd := S_deep (k := 2) (B := stA B 0 57 z) hS (by decide) c hop hr2 (show T 19 2 ≤ (tEnd f N p : Int) by omega) (by omega)
          obtain ⟨a1, a2, a3, a4, a5, a6, a7⟩ := hop
          rcases sd with ⟨f1, bd⟩ | ⟨a, A2, sa, ms, hr3, m57, tp, na, q, cd⟩
          · exact Or.inl ⟨f1, bd.bd (fun c hc => by rw [bad_sign hc]; exact Or.inl rfl)⟩
          · rw [sa]
            show Out f N b u D A T p (p + 1) (fun _ => True) ((sSign f N 41 a.2).bind fun p2 => some (a.1, p2))
            have tb2 := tEnd_b (f := f) ms.le
            have cl := C_close (T := T) (X := fun _ => True) (e := 0) (e' := 0) (kk := 2) h1 hD h54 a3 a2 (fun i hi => by rw [a5, a6, up_lt hi, up_lt hi]; exact ⟨rfl, rfl⟩) (fun i hi => by rw [a7, up_lt (by omega)]; exact r37 i hi) (by rw [a7, up_lt (by omega), stA_same, up_same]) ms hr3 m57 tp na (by rw [(tp.2.2.1 D (by omega)).1, a5, up_same]) (Or.inl rfl)
            rcases cl with ⟨f1, g⟩ | ⟨y2, A', s', r', x', t'⟩
            · refine Or.inl ⟨f1, ?_⟩
              rcases g with g | ⟨g, g4⟩
              · rw [sSign_neg g]; exact Or.inl rfl
              · rw [sSign_pos g]; exact Or.inr ⟨_, rfl, g4⟩
            · rw [sSign_pos y2]
              refine Or.inr ⟨(a.1, tEnd f N a.2), A', rfl, s', r', x', t', trivial, ?_, ?_⟩
              · show p + 1 ≤ tEnd f N a.2; omega
              · show a.1 19 2 + (p : Int) ≤ T 19 2 + (tEnd f N a.2 : Int)
                omega
    · obtain ⟨x, sx⟩ := sPart_mm mm
      rw [sx]
      have lt := tb.2.2.2 (by rcases mm with g | g <;> · have := g.1; omega)
      rcases pr with ⟨f1, g⟩ | ⟨y, o8, f8, op⟩
      · refine Or.inl ⟨?_, Bad.ad2 (Or.inl ?_)⟩
        · rcases h2 with ⟨_, e⟩ | ⟨c, _⟩
          · rw [e]; exact f1
          · omega
        · unfold sPair
          rcases g with g | g | g | ⟨g, g4⟩
          · rw [bad_sign g]; rfl
          · rw [sSign_neg g]; rfl
          · have n0 : n = 0 := by omega
            cases sSign f N 40 (tEnd f N p) with
            | none => rfl
            | some p1 =>
              show (if n = 0 then none else _) = none
              rw [if_pos n0]
          · rw [sSign_pos g]
            show (if n = 0 then none else (S T (tEnd f N (tEnd f N p))).bind _) = none
            by_cases n0 : n = 0
            · rw [if_pos n0]
            · rw [if_neg n0, (hS (by omega)).1 T _ g4]
              rfl
      · have n0 : 0 < n := by omega
        have hS := hS n0
        have sp : sPair f N n S T (tEnd f N p) = (S T (tEnd f N (tEnd f N p))).bind fun a => (sSign f N 44 a.2).bind fun p2 => (S a.1 p2).bind fun b => (sSign f N 41 b.2).bind fun p3 => some (b.1, p3) := by
          unfold sPair
          rw [sSign_pos y]
          show (if n = 0 then none else _) = _
          rw [if_neg (by omega)]
        rw [sp]
        rcases h2 with ⟨c, _⟩ | ⟨_, hr2⟩
        · exact absurd f8 c
        · have tb1 := tEnd_b (f := f) (p := tEnd f N p) tb.2.2.1
          have lt1 := tb1.2.2.2 (by have := y.1; omega)
          have hop : OP f N b (tEnd f N (tEnd f N p)) D o 0 3 (stA A 37 (D - 1) 0) (stA B 0 57 z) := by
            obtain ⟨a1, a2, a3, a4, a5, a6, a7⟩ := op
            exact ⟨a1.fr rfl (fun k hk => st0_k (by decide) (by decide) hk), a2, a3, hz, a5, a6, a7⟩
          have sd := S_deep (k := 3) (B := stA B 0 57 z) hS (by decide) f8 hop hr2 (show T 19 2 ≤ (tEnd f N (tEnd f N p) : Int) by omega) (by omega)
          obtain ⟨a1, a2, a3, a4, a5, a6, a7⟩ := hop
          rcases sd with ⟨f1, bd⟩ | ⟨a, A2, sa, ms, hr3, m57, tp, na, q, cd⟩
          · exact Or.inl ⟨f1, Bad.ad2 (bd.bd (fun c hc => by rw [bad_sign hc]; exact Or.inl rfl))⟩
          · rw [sa]
            show Out f N b u D A T p (p + 1) (fun _ => True) (sAd2 ((sSign f N 44 a.2).bind fun p2 => (S a.1 p2).bind fun b => (sSign f N 41 b.2).bind fun p3 => some (b.1, p3)) x)
            have ed : D + 1 - 1 = D := by omega
            have d2 : A2 0 53 = ((D + 1 : Nat) : Int) := by rw [tp.1, a2]; rfl
            have k3 : A2 35 D = 3 := by rw [(tp.2.2.1 D (by omega)).1, a5, up_same]
            have ph0 : A2 36 D = 0 := by rw [(tp.2.2.1 D (by omega)).2, a6, up_same]
            obtain ⟨z3, C, hg, h3⟩ := RN_go hr3 (by rw [m57]; decide)
            have g8 := G_in (D := D + 1) ms d2 (by omega) (by rw [ed, k3]; decide) na hg
            rw [ed, k3] at g8
            have tb2 := tEnd_b (f := f) ms.le
            rcases G_k3 (D := D + 1) ms d2 (by omega) g8 with ⟨n44, hz3, f1⟩ | ⟨y44, hz3, Bc, eBc, c1, c2, c3, c4, c5, c6, c7⟩
            · refine Or.inl ⟨?_, Bad.ad2 (Or.inl (by rw [sSign_neg n44]; rfl))⟩
              rcases h3 with ⟨_, e⟩ | ⟨c, _⟩ | ⟨c, _⟩
              · rw [e]; exact f1
              · exact absurd hz3 c
              · exact absurd hz3 c
            · rw [sSign_pos y44]
              show Out f N b u D A T p (p + 1) (fun _ => True) (sAd2 ((S a.1 (tEnd f N a.2)).bind fun b => (sSign f N 41 b.2).bind fun p3 => some (b.1, p3)) x)
              have nz : ¬ z3 = 0 := by rw [hz3]; decide
              have lt2 := tb2.2.2.2 (by have := y44.1; omega)
              rcases h3 with ⟨c, _⟩ | ⟨_, c8, e⟩ | ⟨_, c8, hr4⟩
              · exact absurd c nz
              · have g := c1.ff c8
                refine Or.inl ⟨by rw [e]; exact g.2, Bad.ad2 (Or.inl ?_)⟩
                rw [hS.1 _ _ g.1]
                rfl
              · have C35 : C 35 = up (A2 35) D 4 := by rw [c5, eBc, ed]; rfl
                have C36 : C 36 = A2 36 := by rw [c6, eBc]; rfl
                have C37 : C 37 = A2 37 := by rw [c7, eBc]; rfl
                have C53 : C 0 53 = ((D + 1 : Nat) : Int) := by rw [c2, eBc]; exact d2
                have C54 : C 0 54 = o + 1 := by
                  rw [c3, eBc]
                  show A2 0 54 = o + 1
                  rw [tp.2.1, a3]
                have sd2 := hS.2 C a.1 (tEnd f N a.2) (D + 1) (c1.nf c8) hr4 c4 C53 (by omega) C54 (fun g => by have := g.1; rw [ed, C35, up_same] at this; exact absurd this (by decide)) (by rw [ed, C36, ph0]; decide) (by omega) (by omega)
                rcases sd2 with ⟨f1, bd⟩ | ⟨b2, A4, sb2, ms4, hr5, m574, tp4, na4, q4, cd4⟩
                · exact Or.inl ⟨f1, Bad.ad2 (bd.bd (fun c hc => by rw [bad_sign hc]; exact Or.inl rfl))⟩
                · rw [sb2]
                  show Out f N b u D A T p (p + 1) (fun _ => True) (sAd2 ((sSign f N 41 b2.2).bind fun p3 => some (b2.1, p3)) x)
                  have tb4 := tEnd_b (f := f) ms4.le
                  have cl := C_close (T := T) (X := fun _ => True) (e := 0) (e' := 0) (kk := 4) (B := C) h1 hD h54 C54 (by rw [C53]; rfl) (fun i hi => by
                    have t := tp.2.2.1 i (by omega)
                    rw [C35, C36, up_lt hi, t.1, t.2, a5, a6, up_lt hi, up_lt hi]
                    exact ⟨rfl, rfl⟩) (fun i hi => by
                    rw [C37, tp.2.2.2.1 i (by omega), a7, up_lt (by omega)]
                    exact r37 i hi) (by rw [C37, tp.2.2.2.1 (D - 1) (by omega), a7, up_lt (by omega), stA_same, up_same]) ms4 hr5 m574 tp4 na4 (by rw [(tp4.2.2.1 D (by omega)).1, C35, up_same]) (Or.inr rfl)
                  rcases cl with ⟨f1, g⟩ | ⟨y2, A', s', r', x', t'⟩
                  · refine Or.inl ⟨f1, Bad.ad2 ?_⟩
                    rcases g with g | ⟨g, g4⟩
                    · rw [sSign_neg g]; exact Or.inl rfl
                    · rw [sSign_pos g]; exact Or.inr ⟨_, rfl, g4⟩
                  · rw [sSign_pos y2]
                    obtain ⟨t, st, et⟩ := sAd2_ok (T := b2.1) (e := tEnd f N b2.2) (x := x) (by omega)
                    show Out f N b u D A T p (p + 1) (fun _ => True) (sAd2 (some (b2.1, tEnd f N b2.2)) x)
                    rw [st]
                    refine Or.inr ⟨(t, tEnd f N b2.2), A', rfl, s', r', x', t', trivial, ?_, ?_⟩
                    · show p + 1 ≤ tEnd f N b2.2; omega
                    · show t 19 2 + (p : Int) ≤ T 19 2 + (tEnd f N b2.2 : Int)
                      omega
    · rw [sPart_no nlf n40 nmm]
      refine Or.inl ⟨?_, Or.inl rfl⟩
      rcases h2 with ⟨_, e⟩ | ⟨c, _⟩
      · rw [e]; exact f1
      · omega
