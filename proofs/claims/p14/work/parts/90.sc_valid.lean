/-! A town that was read is sound: its numbers are of things that are there. -/
theorem ask_b {f : Nat → Int} {N k p : Nat} {T : St} {a : Int × Nat} (h : sAsk f N T k p = some a) : 0 ≤ a.1 ∧ a.1 < T 1 k := by
  unfold sAsk at h
  cases hn : sName f N p with
  | none => rw [hn] at h; exact absurd h (by simp)
  | some w =>
    rw [hn] at h
    have h : (if sFind T k w.1 = -1 then none else some (sFind T k w.1, w.2)) = some a := h
    by_cases c : sFind T k w.1 = -1
    · rw [if_pos c] at h; exact absurd h (by simp)
    · rw [if_neg c] at h
      have h := Option.some.inj h
      rw [← h]
      exact (sFind_b T k w.1).resolve_left c
def TW (T : St) (w : Int) : Prop := (10 ≤ w ∧ w < 10 + T 1 0) ∨ (20 ≤ w ∧ w < 20 + T 1 1 ∧ T 10 (w - 20).toNat = 0)
def WV (T : St) (w : Int) : Prop := (0 ≤ w ∧ w < T 1 3) ∨ TW T w ∨ w = 40
theorem spot_b {f : Nat → Int} {N p : Nat} {T : St} {a : Int × Nat} (h : sSpot f N T p = some a) : TW T a.1 := by
  unfold sSpot at h
  cases hn : sName f N p with
  | none => rw [hn] at h; exact absurd h (by simp)
  | some w =>
    rw [hn] at h
    have h : (if sFind T 0 w.1 ≠ -1 then some (sFind T 0 w.1 + 10, w.2) else if sFind T 1 w.1 ≠ -1 ∧ T 10 (sFind T 1 w.1).toNat = 0 then some (sFind T 1 w.1 + 20, w.2) else none) = some a := h
    by_cases c : sFind T 0 w.1 ≠ -1
    · rw [if_pos c] at h
      have h := Option.some.inj h
      rw [← h]
      have := (sFind_b T 0 w.1).resolve_left c
      exact Or.inl ⟨by show 10 ≤ sFind T 0 w.1 + 10; omega, by show sFind T 0 w.1 + 10 < 10 + T 1 0; omega⟩
    · rw [if_neg c] at h
      by_cases c2 : sFind T 1 w.1 ≠ -1 ∧ T 10 (sFind T 1 w.1).toNat = 0
      · rw [if_pos c2] at h
        have h := Option.some.inj h
        rw [← h]
        have := (sFind_b T 1 w.1).resolve_left c2.1
        refine Or.inr ⟨by show 20 ≤ sFind T 1 w.1 + 20; omega, by show sFind T 1 w.1 + 20 < 20 + T 1 1; omega, ?_⟩
        show T 10 (sFind T 1 w.1 + 20 - 20).toNat = 0
        rw [show sFind T 1 w.1 + 20 - 20 = sFind T 1 w.1 by omega]
        exact c2.2
      · rw [if_neg c2] at h; exact absurd h (by simp)
theorem num_b {f : Nat → Int} {N p : Nat} {lo hi : Int} {a : Int × Nat} (h : sNum f N lo hi p = some a) : lo ≤ a.1 ∧ a.1 ≤ hi := by
  unfold sNum at h
  by_cases c : tKind f N p = 2 ∧ lo ≤ nv f N p ∧ nv f N p ≤ hi
  · rw [if_pos c] at h
    have h := Option.some.inj h
    rw [← h]
    exact c.2
  · rw [if_neg c] at h; exact absurd h (by simp)
def DV (T : St) (k : Nat) : Prop := (0 ≤ T 8 k ∧ T 8 k < T 1 0) ∧ (0 ≤ T 9 k ∧ T 9 k < T 1 0) ∧ 0 ≤ T 10 k ∧ (T 10 k = 0 → T 8 k = T 9 k)
def KV (T : St) (k : Nat) : Prop := (0 ≤ T 25 k ∧ T 25 k ≤ 6) ∧ (∀ i : Nat, (i : Int) < T 25 k → 0 ≤ T (27 + k) i ∧ T (27 + k) i < T 1 1) ∧ (∀ i j : Nat, i < j → (j : Int) < T 25 k → T (27 + k) i ≠ T (27 + k) j) ∧ WV T (T 24 k)
def VT (T : St) : Prop := (0 ≤ T 1 0 ∧ 0 ≤ T 1 1 ∧ 0 ≤ T 1 2 ∧ 0 ≤ T 1 3 ∧ 0 ≤ T 1 4) ∧ (∀ k : Nat, (k : Int) < T 1 1 → DV T k) ∧ (∀ k : Nat, (k : Int) < T 1 3 → 0 ≤ T 23 k ∧ T 23 k < T 1 0) ∧ (∀ k : Nat, (k : Int) < T 1 2 → KV T k) ∧ (∀ k : Nat, k < 4 → T 1 2 ≤ (k : Int) → T 25 k = 0) ∧ ∀ k : Nat, (k : Int) < T 1 4 → TW T (T 11 k)
/-- the counts don't fall, doors stay as they are -/
def GR (T T' : St) : Prop := (T 1 0 ≤ T' 1 0 ∧ T 1 1 ≤ T' 1 1 ∧ T 1 2 ≤ T' 1 2 ∧ T 1 3 ≤ T' 1 3 ∧ T 1 4 ≤ T' 1 4) ∧ ∀ k : Nat, (k : Int) < T 1 1 → T' 8 k = T 8 k ∧ T' 9 k = T 9 k ∧ T' 10 k = T 10 k
theorem TW.gr {T T' : St} {w : Int} (h : TW T w) (g : GR T T') : TW T' w := by
  obtain ⟨⟨g0, g1, _⟩, gd⟩ := g
  rcases h with ⟨h1, h2⟩ | ⟨h1, h2, h3⟩
  · exact Or.inl ⟨h1, by omega⟩
  · exact Or.inr ⟨h1, by omega, by rw [(gd (w - 20).toNat (by omega)).2.2]; exact h3⟩
theorem WV.gr {T T' : St} {w : Int} (h : WV T w) (g : GR T T') : WV T' w := by
  rcases h with h | h | h
  · exact Or.inl ⟨h.1, by have := g.1.2.2.2.1; omega⟩
  · exact Or.inr (Or.inl (h.gr g))
  · exact Or.inr (Or.inr h)
theorem DV.gr {T T' : St} {k : Nat} (h : DV T k) (hk : (k : Int) < T 1 1) (g : GR T T') : DV T' k := by
  obtain ⟨a, b, c, d⟩ := h
  have x := g.2 k hk
  have := g.1.1
  unfold DV
  rw [x.1, x.2.1, x.2.2]
  exact ⟨⟨a.1, by omega⟩, ⟨b.1, by omega⟩, c, d⟩
theorem KV.gr {T T' : St} {k : Nat} (h : KV T k) (g : GR T T') (h24 : T' 24 k = T 24 k) (h25 : T' 25 k = T 25 k) (h27 : T' (27 + k) = T (27 + k)) : KV T' k := by
  obtain ⟨a, b, c, d⟩ := h
  have := g.1.2.1
  unfold KV
  rw [h24, h25, h27]
  exact ⟨a, fun i hi => ⟨(b i hi).1, by have := (b i hi).2; omega⟩, c, d.gr g⟩
theorem VT.step {T T' : St} (h : VT T) (g : GR T T') (nD : ∀ k : Nat, T 1 1 ≤ (k : Int) → (k : Int) < T' 1 1 → DV T' k) (r23 : ∀ k : Nat, (k : Int) < T 1 3 → T' 23 k = T 23 k) (nP : ∀ k : Nat, T 1 3 ≤ (k : Int) → (k : Int) < T' 1 3 → 0 ≤ T' 23 k ∧ T' 23 k < T' 1 0) (rK : ∀ k : Nat, (k : Int) < T 1 2 → KV T' k) (nK : ∀ k : Nat, T 1 2 ≤ (k : Int) → (k : Int) < T' 1 2 → KV T' k) (nz : ∀ k : Nat, k < 4 → T' 1 2 ≤ (k : Int) → T' 25 k = 0) (r11 : ∀ k : Nat, (k : Int) < T 1 4 → T' 11 k = T 11 k) (nT : ∀ k : Nat, T 1 4 ≤ (k : Int) → (k : Int) < T' 1 4 → TW T' (T' 11 k)) : VT T' := by
  obtain ⟨⟨c0, c1, c2, c3, c4⟩, hD, hP, hK, hz, hT⟩ := h
  have g0 := g.1.1
  have g1 := g.1.2.1
  have g2 := g.1.2.2.1
  have g3 := g.1.2.2.2.1
  have g4 := g.1.2.2.2.2
  refine ⟨⟨by omega, by omega, by omega, by omega, by omega⟩, fun k hk => ?_, fun k hk => ?_, fun k hk => ?_, nz, fun k hk => ?_⟩
  · by_cases c : (k : Int) < T 1 1
    · exact (hD k c).gr c g
    · exact nD k (by omega) hk
  · by_cases c : (k : Int) < T 1 3
    · rw [r23 k c]
      have := hP k c
      exact ⟨this.1, by omega⟩
    · exact nP k (by omega) hk
  · by_cases c : (k : Int) < T 1 2
    · exact rK k c
    · exact nK k (by omega) hk
  · by_cases c : (k : Int) < T 1 4
    · rw [r11 k c]
      exact (hT k c).gr g
    · exact nT k (by omega) hk
/-- nothing that counts here is touched -/
theorem VT.cg {T T' : St} (h : VT T) (e : ∀ j, j = 8 ∨ j = 9 ∨ j = 10 ∨ j = 11 ∨ j = 23 ∨ j = 24 ∨ j = 25 → T' j = T j) (e27 : ∀ k, T' (27 + k) = T (27 + k)) (e1 : ∀ k, k < 5 → T' 1 k = T 1 k) : VT T' := by
  have g : GR T T' := by
    refine ⟨⟨by rw [e1 0 (by decide)]; exact Int.le_refl _, by rw [e1 1 (by decide)]; exact Int.le_refl _, by rw [e1 2 (by decide)]; exact Int.le_refl _, by rw [e1 3 (by decide)]; exact Int.le_refl _, by rw [e1 4 (by decide)]; exact Int.le_refl _⟩, fun k _ => ?_⟩
    rw [e 8 (by omega), e 9 (by omega), e 10 (by omega)]
    exact ⟨rfl, rfl, rfl⟩
  have d := e1 1 (by decide)
  have p := e1 3 (by decide)
  have q := e1 2 (by decide)
  have t := e1 4 (by decide)
  refine h.step g (fun k h1 h2 => by omega) (fun k _ => by rw [e 23 (by omega)]) (fun k h1 h2 => by omega) (fun k hk => (h.2.2.2.1 k hk).gr g (by rw [e 24 (by omega)]) (by rw [e 25 (by omega)]) (e27 k)) (fun k h1 h2 => by omega) (fun k hk h2 => ?_) (fun k _ => by rw [e 11 (by omega)]) (fun k h1 h2 => by omega)
  rw [e 25 (by omega)]
  exact h.2.2.2.2.1 k hk (by omega)
def VB (r : Option (St × Nat)) : Prop := ∀ a, r = some a → VT a.1
theorem VB.no : VB none := fun a h => absurd h (by simp)
theorem VB.so {t : St} {e : Nat} (h : VT t) : VB (some (t, e)) := fun a g => by rw [← Option.some.inj g]; exact h
theorem VB.bd {α : Type} {r : Option α} {k : α → Option (St × Nat)} (hk : ∀ a, r = some a → VB (k a)) : VB (r.bind k) := by
  cases r with
  | none => exact VB.no
  | some a => exact hk a rfl
theorem VB.if {r r' : Option (St × Nat)} {c : Prop} [Decidable c] (h : c → VB r) (g : ¬ c → VB r') : VB (if c then r else r') := by
  by_cases d : c
  · rw [if_pos d]; exact h d
  · rw [if_neg d]; exact g d
theorem GR.rf {T : St} : GR T T := ⟨⟨Int.le_refl _, Int.le_refl _, Int.le_refl _, Int.le_refl _, Int.le_refl _⟩, fun _ _ => ⟨rfl, rfl, rfl⟩⟩
theorem VT_place {T : St} {w : Int} (h : VT T) : VT (sAdd T 0 w) := by
  have e1 : ∀ k, k ≠ 0 → sAdd T 0 w 1 k = T 1 k := fun k hk => up_ne _ _ hk
  have e0 : sAdd T 0 w 1 0 = T 1 0 + 1 := by
    show up (T 1) 0 (T 1 0 + 1) 0 = T 1 0 + 1
    exact up_same _ _ _
  have d := e1 1 (by decide)
  have q := e1 2 (by decide)
  have p := e1 3 (by decide)
  have t := e1 4 (by decide)
  have g : GR T (sAdd T 0 w) := ⟨⟨by omega, by omega, by omega, by omega, by omega⟩, fun k _ => ⟨rfl, rfl, rfl⟩⟩
  refine h.step g (fun k h1 h2 => by omega) (fun k _ => rfl) (fun k h1 h2 => by omega) (fun k hk => (h.2.2.2.1 k hk).gr g rfl rfl ?_) (fun k h1 h2 => by omega) (fun k hk h2 => h.2.2.2.2.1 k hk (by omega)) (fun k _ => rfl) (fun k h1 h2 => by omega)
  show stA (stA T 3 _ w) 1 _ _ (27 + k) = T (27 + k)
  rw [stA_ne _ _ (by omega), stA_ne _ _ (by omega)]
theorem VT_door {T : St} {w a c m : Int} (h : VT T) (ha : 0 ≤ a ∧ a < T 1 0) (hc : 0 ≤ c ∧ c < T 1 0) (hm : 0 ≤ m) (hz : m = 0 → a = c) : VT (sDoorAdd T w a c m) := by
  have e1 : ∀ k, k ≠ 1 → sDoorAdd T w a c m 1 k = T 1 k := fun k hk => up_ne _ _ hk
  have e0 : sDoorAdd T w a c m 1 1 = T 1 1 + 1 := by
    show up (T 1) 1 (T 1 1 + 1) 1 = T 1 1 + 1
    exact up_same _ _ _
  have d := e1 0 (by decide)
  have q := e1 2 (by decide)
  have p := e1 3 (by decide)
  have t := e1 4 (by decide)
  have n0 := h.1.2.1
  have g : GR T (sDoorAdd T w a c m) := by
    refine ⟨⟨by omega, by omega, by omega, by omega, by omega⟩, fun k hk => ?_⟩
    have ne : k ≠ (T 1 1).toNat := by omega
    exact ⟨up_ne _ _ ne, up_ne _ _ ne, up_ne _ _ ne⟩
  refine h.step g (fun k h1 h2 => ?_) (fun k _ => rfl) (fun k h1 h2 => by omega) (fun k hk => (h.2.2.2.1 k hk).gr g rfl rfl ?_) (fun k h1 h2 => by omega) (fun k hk h2 => h.2.2.2.2.1 k hk (by omega)) (fun k _ => rfl) (fun k h1 h2 => by omega)
  · have ek : k = (T 1 1).toNat := by omega
    have x8 : sDoorAdd T w a c m 8 k = a := by rw [ek]; exact up_same _ _ _
    have x9 : sDoorAdd T w a c m 9 k = c := by rw [ek]; exact up_same _ _ _
    have x10 : sDoorAdd T w a c m 10 k = m := by rw [ek]; exact up_same _ _ _
    unfold DV
    rw [x8, x9, x10, d]
    exact ⟨ha, hc, hm, hz⟩
  · show stA (stA (stA (stA (stA T 4 _ w) 1 _ _) 8 _ _) 9 _ _) 10 _ _ (27 + k) = T (27 + k)
    rw [stA_ne _ _ (by omega), stA_ne _ _ (by omega), stA_ne _ _ (by omega), stA_ne _ _ (by omega), stA_ne _ _ (by omega)]
theorem VT_key {T : St} {w a : Int} (h : VT T) (ha : TW T a) (hn : T 1 2 < 4) : VT (sKeyAdd T w a) := by
  have e1 : ∀ k, k ≠ 2 → sKeyAdd T w a 1 k = T 1 k := fun k hk => up_ne _ _ hk
  have e0 : sKeyAdd T w a 1 2 = T 1 2 + 1 := by
    show up (T 1) 2 (T 1 2 + 1) 2 = T 1 2 + 1
    exact up_same _ _ _
  have d := e1 0 (by decide)
  have q := e1 1 (by decide)
  have p := e1 3 (by decide)
  have t := e1 4 (by decide)
  have n0 := h.1.2.2.1
  have g : GR T (sKeyAdd T w a) := ⟨⟨by omega, by omega, by omega, by omega, by omega⟩, fun k _ => ⟨rfl, rfl, rfl⟩⟩
  have e27 : ∀ k, sKeyAdd T w a (27 + k) = T (27 + k) := by
    intro k
    show stA (stA (stA T 5 _ w) 1 _ _) 24 _ _ (27 + k) = T (27 + k)
    rw [stA_ne _ _ (by omega), stA_ne _ _ (by omega), stA_ne _ _ (by omega)]
  refine h.step g (fun k h1 h2 => by omega) (fun k _ => rfl) (fun k h1 h2 => by omega) (fun k hk => (h.2.2.2.1 k hk).gr g ?_ rfl (e27 k)) (fun k h1 h2 => ?_) (fun k hk h2 => h.2.2.2.2.1 k hk (by omega)) (fun k _ => rfl) (fun k h1 h2 => by omega)
  · exact up_ne _ _ (by omega)
  · have ek : k = (T 1 2).toNat := by omega
    have z : T 25 k = 0 := h.2.2.2.2.1 k (by omega) (by omega)
    have x24 : sKeyAdd T w a 24 k = a := by rw [ek]; exact up_same _ _ _
    have x25 : sKeyAdd T w a 25 k = 0 := z
    unfold KV
    rw [x24, x25]
    exact ⟨⟨by decide, by decide⟩, fun i hi => by omega, fun i j _ hj => by omega, Or.inr (Or.inl (ha.gr g))⟩
theorem VT_person {T : St} {w a : Int} (h : VT T) (ha : 0 ≤ a ∧ a < T 1 0) : VT (sPersonAdd T w a) := by
  have e1 : ∀ k, k ≠ 3 → sPersonAdd T w a 1 k = T 1 k := fun k hk => up_ne _ _ hk
  have e0 : sPersonAdd T w a 1 3 = T 1 3 + 1 := by
    show up (T 1) 3 (T 1 3 + 1) 3 = T 1 3 + 1
    exact up_same _ _ _
  have d := e1 0 (by decide)
  have q := e1 1 (by decide)
  have p := e1 2 (by decide)
  have t := e1 4 (by decide)
  have n0 := h.1.2.2.2.1
  have g : GR T (sPersonAdd T w a) := ⟨⟨by omega, by omega, by omega, by omega, by omega⟩, fun k _ => ⟨rfl, rfl, rfl⟩⟩
  refine h.step g (fun k h1 h2 => by omega) (fun k hk => up_ne _ _ (by omega)) (fun k h1 h2 => ?_) (fun k hk => (h.2.2.2.1 k hk).gr g rfl rfl ?_) (fun k h1 h2 => by omega) (fun k hk h2 => h.2.2.2.2.1 k hk (by omega)) (fun k _ => rfl) (fun k h1 h2 => by omega)
  · have ek : k = (T 1 3).toNat := by omega
    have x : sPersonAdd T w a 23 k = a := by rw [ek]; exact up_same _ _ _
    rw [x, d]
    exact ha
  · show stA (stA (stA T 6 _ w) 1 _ _) 23 _ _ (27 + k) = T (27 + k)
    rw [stA_ne _ _ (by omega), stA_ne _ _ (by omega), stA_ne _ _ (by omega)]
theorem VT_thing {T : St} {w a : Int} (h : VT T) (ha : TW T a) : VT (sThingAdd T w a) := by
  have e1 : ∀ k, k ≠ 4 → sThingAdd T w a 1 k = T 1 k := fun k hk => up_ne _ _ hk
  have e0 : sThingAdd T w a 1 4 = T 1 4 + 1 := by
    show up (T 1) 4 (T 1 4 + 1) 4 = T 1 4 + 1
    exact up_same _ _ _
  have d := e1 0 (by decide)
  have q := e1 1 (by decide)
  have p := e1 2 (by decide)
  have t := e1 3 (by decide)
  have n0 := h.1.2.2.2.2
  have g : GR T (sThingAdd T w a) := ⟨⟨by omega, by omega, by omega, by omega, by omega⟩, fun k _ => ⟨rfl, rfl, rfl⟩⟩
  refine h.step g (fun k h1 h2 => by omega) (fun k _ => rfl) (fun k h1 h2 => by omega) (fun k hk => (h.2.2.2.1 k hk).gr g rfl rfl ?_) (fun k h1 h2 => by omega) (fun k hk h2 => h.2.2.2.2.1 k hk (by omega)) (fun k hk => up_ne _ _ (by omega)) (fun k h1 h2 => ?_)
  · show stA (stA (stA T 7 _ w) 1 _ _) 11 _ _ (27 + k) = T (27 + k)
    rw [stA_ne _ _ (by omega), stA_ne _ _ (by omega), stA_ne _ _ (by omega)]
  · have ek : k = (T 1 4).toNat := by omega
    have x : sThingAdd T w a 11 k = a := by rw [ek]; exact up_same _ _ _
    rw [x]
    exact ha.gr g
/-- a key goes elsewhere -/
theorem VT_where {T : St} {q : Nat} {a : Int} (h : VT T) (ha : WV T a) : VT (stA T 24 q a) := by
  have g : GR T (stA T 24 q a) := GR.rf
  refine h.step g (fun k h1 h2 => absurd h2 (Int.not_lt.mpr h1)) (fun k _ => rfl) (fun k h1 h2 => absurd h2 (Int.not_lt.mpr h1)) (fun k hk => ?_) (fun k h1 h2 => absurd h2 (Int.not_lt.mpr h1)) (fun k hk h2 => h.2.2.2.2.1 k hk h2) (fun k _ => rfl) (fun k h1 h2 => absurd h2 (Int.not_lt.mpr h1))
  obtain ⟨x1, x2, x3, x4⟩ := h.2.2.2.1 k hk
  have e27 : stA T 24 q a (27 + k) = T (27 + k) := stA_ne _ _ (by omega)
  unfold KV
  rw [e27]
  refine ⟨x1, x2, x3, ?_⟩
  show WV (stA T 24 q a) (up (T 24) q a k)
  by_cases e : k = q
  · rw [e, up_same]; exact ha
  · rw [up_ne _ _ e]; exact x4
/-- a row grows -/
theorem VT_push {T : St} {q n : Nat} {d : Int} (h : VT T) (hq : (q : Int) < T 1 2) (hn : T 25 q = (n : Int)) (h6 : n < 6) (hd : 0 ≤ d ∧ d < T 1 1) (hu : ∀ i : Nat, i < n → T (27 + q) i ≠ d) : VT (stA (stA T (27 + q) n d) 25 q ((n : Int) + 1)) := by
  obtain ⟨T', eT⟩ : ∃ T', T' = stA (stA T (27 + q) n d) 25 q ((n : Int) + 1) := ⟨_, rfl⟩
  rw [← eT]
  have low : ∀ j, j < 25 → T' j = T j := by
    intro j hj
    rw [eT, stA_ne _ _ (by omega), stA_ne _ _ (by omega)]
  have g : GR T T' := by
    refine ⟨⟨?_, ?_, ?_, ?_, ?_⟩, fun k _ => ?_⟩
    · rw [low 1 (by decide)]; exact Int.le_refl _
    · rw [low 1 (by decide)]; exact Int.le_refl _
    · rw [low 1 (by decide)]; exact Int.le_refl _
    · rw [low 1 (by decide)]; exact Int.le_refl _
    · rw [low 1 (by decide)]; exact Int.le_refl _
    · rw [low 8 (by decide), low 9 (by decide), low 10 (by decide)]; exact ⟨rfl, rfl, rfl⟩
  have c1 : T' 1 = T 1 := low 1 (by decide)
  have t25 : ∀ k, k ≠ q → T' 25 k = T 25 k := by
    intro k hk
    rw [eT]
    show up (stA T (27 + q) n d 25) q ((n : Int) + 1) k = T 25 k
    rw [up_ne _ _ hk, stA_ne _ _ (by omega)]
  have t25q : T' 25 q = (n : Int) + 1 := by
    rw [eT]
    show up (stA T (27 + q) n d 25) q ((n : Int) + 1) q = _
    rw [up_same]
  have t27 : ∀ k, k ≠ q → T' (27 + k) = T (27 + k) := by
    intro k hk
    rw [eT, stA_ne _ _ (by omega), stA_ne _ _ (by omega)]
  have t27q : T' (27 + q) = up (T (27 + q)) n d := by
    rw [eT, stA_ne _ _ (by omega), stA_same]
  refine h.step g (fun k h1 h2 => by rw [c1] at h2; omega) (fun k _ => by rw [low 23 (by decide)]) (fun k h1 h2 => by rw [c1] at h2; omega) (fun k hk => ?_) (fun k h1 h2 => by rw [c1] at h2; omega) (fun k hk h2 => ?_) (fun k _ => by rw [low 11 (by decide)]) (fun k h1 h2 => by rw [c1] at h2; omega)
  · by_cases e : k = q
    · subst e
      obtain ⟨x1, x2, x3, x4⟩ := h.2.2.2.1 k hk
      unfold KV
      rw [t25q, t27q, low 24 (by decide)]
      refine ⟨⟨by omega, by omega⟩, fun i hi => ?_, fun i j hij hj => ?_, x4.gr g⟩
      · rw [c1]
        by_cases e2 : i = n
        · rw [e2, up_same]; exact hd
        · rw [up_ne _ _ e2]
          exact x2 i (by omega)
      · by_cases e2 : j = n
        · rw [e2, up_same, up_ne _ _ (by omega)]
          exact hu i (by omega)
        · rw [up_ne _ _ (by omega), up_ne _ _ e2]
          exact x3 i j hij (by omega)
    · exact (h.2.2.2.1 k hk).gr g (by rw [low 24 (by decide)]) (t25 k e) (t27 k e)
  · rw [c1] at h2
    have : k ≠ q := by omega
    rw [t25 k this]
    exact h.2.2.2.2.1 k hk h2
theorem fnd_no {g : Nat → Int} {w : Int} : ∀ (n i : Nat), fnd g w n i = -1 → ∀ k, i ≤ k → k < i + n → g k ≠ w := by
  intro n
  induction n with
  | zero => intro i _ k h1 h2; omega
  | succ n ih =>
    intro i h k h1 h2
    have h : (if g i = w then (i : Int) else fnd g w n (i + 1)) = -1 := h
    by_cases c : g i = w
    · rw [if_pos c] at h; omega
    · rw [if_neg c] at h
      by_cases e : k = i
      · rw [e]; exact c
      · exact ih (i + 1) h k (by omega) (by omega)
theorem VB_push {T : St} {key door : Int} {e : Nat} (h : VT T) (hk : 0 ≤ key ∧ key < T 1 2) (hd : 0 ≤ door ∧ door < T 1 1) : VB ((sPush T key door).bind fun t => some (t, e)) := by
  unfold sPush
  by_cases c : fnd (T (27 + key.toNat)) door (T 25 key.toNat).toNat 0 = -1 ∧ T 25 key.toNat < 6
  · rw [if_pos c]
    refine VB.so ?_
    have kv := (h.2.2.2.1 key.toNat (by omega)).1
    obtain ⟨n, hn⟩ : ∃ n : Nat, T 25 key.toNat = (n : Int) := ⟨(T 25 key.toNat).toNat, by omega⟩
    have c1 := c.1
    rw [hn, Int.toNat_natCast] at c1 ⊢
    exact VT_push h (by omega) hn (by omega) hd (fun i hi => fnd_no n 0 c1 i (Nat.zero_le i) (by omega))
  · rw [if_neg c]; exact VB.no
theorem VB_stmt {f : Nat → Int} {N p : Nat} {T : St} (h : VT T) : VB (sStmt f N T p) := by
  unfold sStmt
  refine VB.if (fun _ => VB.no) (fun _ => ?_)
  refine VB.if (fun _ => VB.if (fun _ => ?_) (fun _ => VB.no)) (fun _ => VB.if (fun _ => VB.if (fun _ => ?_) (fun _ => VB.no)) (fun _ => VB.if (fun _ => VB.if (fun _ => ?_) (fun _ => VB.no)) (fun _ => VB.if (fun _ => VB.if (fun l4 => ?_) (fun _ => VB.no)) (fun _ => VB.if (fun _ => VB.if (fun _ => ?_) (fun _ => VB.no)) (fun _ => VB.if (fun _ => VB.if (fun _ => ?_) (fun _ => VB.no)) (fun _ => VB.if (fun _ => VB.if (fun _ => ?_) (fun _ => VB.no)) (fun _ => VB.if (fun _ => VB.if (fun _ => ?_) (fun _ => VB.no)) (fun _ => VB.if (fun _ => VB.if (fun _ => ?_) (fun _ => VB.no)) (fun _ => VB.if (fun _ => ?_) (fun _ => VB.if (fun _ => ?_) (fun _ => VB.if (fun _ => ?_) (fun _ => VB.no))))))))))))
  · exact VB.bd (fun a _ => VB.so (VT_place h))
  · refine VB.bd (fun a _ => VB.bd (fun b hb => VB.bd (fun c hc => VB.if (fun _ => VB.no) (fun ne => VB.bd (fun d hd => VB.so ?_)))))
    have := num_b hd
    exact VT_door h (ask_b hb) (ask_b hc) (by omega) (fun g => by omega)
  · exact VB.bd (fun a _ => VB.bd (fun b _ => VB.bd (fun c hc => VB.so (VT_door h (ask_b hc) (ask_b hc) (Int.le_refl 0) (fun _ => rfl)))))
  · exact VB.bd (fun a _ => VB.bd (fun b _ => VB.bd (fun c hc => VB.so (VT_key h (spot_b hc) l4))))
  · exact VB.bd (fun a _ => VB.bd (fun b _ => VB.bd (fun c hc => VB.so (VT_person h (ask_b hc)))))
  · exact VB.bd (fun a _ => VB.bd (fun b _ => VB.bd (fun c hc => VB.so (VT_thing h (spot_b hc)))))
  · refine VB.bd (fun a _ => VB.if (fun _ => VB.bd (fun b _ => VB.if (fun _ => VB.so ?_) (fun _ => VB.no))) (fun _ => VB.no))
    refine h.cg (fun j hj => ?_) (fun k => ?_) (fun k hk => ?_)
    · rw [stA_ne _ _ (by omega), stA_ne _ _ (by omega)]
    · rw [stA_ne _ _ (by omega), stA_ne _ _ (by omega)]
    · show up (T 1) 5 _ k = T 1 k
      exact up_ne _ _ (by omega)
  · refine VB.bd (fun a _ => VB.bd (fun b _ => VB.bd (fun c _ => VB.so ?_)))
    refine h.cg (fun j hj => ?_) (fun k => ?_) (fun k hk => ?_)
    · show stA (stA (stA (stA T 13 _ _) 14 _ _) 15 _ _) 1 _ _ j = T j
      rw [stA_ne _ _ (by omega), stA_ne _ _ (by omega), stA_ne _ _ (by omega), stA_ne _ _ (by omega)]
    · show stA (stA (stA (stA T 13 _ _) 14 _ _) 15 _ _) 1 _ _ (27 + k) = T (27 + k)
      rw [stA_ne _ _ (by omega), stA_ne _ _ (by omega), stA_ne _ _ (by omega), stA_ne _ _ (by omega)]
    · show up (T 1) 6 _ k = T 1 k
      exact up_ne _ _ (by omega)
  · refine VB.bd (fun a _ => VB.if (fun _ => VB.no) (fun _ => VB.bd (fun e _ => VB.bd (fun b hb => VB.so ?_))))
    have kp := KS_testN (f := f) (N := N) 8 T e b hb
    refine h.cg (fun j hj => ?_) (fun k => ?_) (fun k hk => ?_)
    · show stA (stA (stA (stA b.1 16 _ _) 17 _ _) 18 _ _) 1 _ _ j = T j
      rw [stA_ne _ _ (by omega), stA_ne _ _ (by omega), stA_ne _ _ (by omega), stA_ne _ _ (by omega)]
      exact kp j (by omega) (by omega)
    · show stA (stA (stA (stA b.1 16 _ _) 17 _ _) 18 _ _) 1 _ _ (27 + k) = T (27 + k)
      rw [stA_ne _ _ (by omega), stA_ne _ _ (by omega), stA_ne _ _ (by omega), stA_ne _ _ (by omega)]
      exact kp (27 + k) (by omega) (by omega)
    · show up (b.1 1) 7 _ k = T 1 k
      rw [up_ne _ _ (by omega), kp 1 (by decide) (by decide)]
  · refine VB.bd (fun a ha => VB.bd (fun b hb => VB.if (fun _ => VB.so ?_) (fun _ => VB.no)))
    exact VT_where h (Or.inl (ask_b ha))
  · exact VB.bd (fun a ha => VB.bd (fun b _ => VB.bd (fun c hc => VB_push h (ask_b hc) (ask_b ha))))
  · refine VB.bd (fun a _ => VB.if (fun _ => VB.so ?_) (fun _ => VB.no))
    refine h.cg (fun j hj => ?_) (fun k => ?_) (fun k hk => ?_)
    · exact stA_ne _ _ (by omega)
    · exact stA_ne _ _ (by omega)
    · rfl
theorem VT_townL {f : Nat → Int} {N : Nat} : ∀ (k n : Nat) (T : St) (p : Nat) (a : Nat × St), VT T → sTownL f N k n T p = some a → VT a.2 := by
  intro k
  induction k with
  | zero => intro n T p a _ h; exact absurd h (by simp [sTownL])
  | succ k ih =>
    intro n T p a hT h
    by_cases c : tKind f N p = 0
    · have e : sTownL f N (k + 1) n T p = some (n, T) := by
        show (if tKind f N p = 0 then some (n, T) else _) = _
        rw [if_pos c]
      rw [e] at h
      rw [← Option.some.inj h]
      exact hT
    · rw [sTownL_st c] at h
      cases hs : sSt f N T p with
      | none => rw [hs] at h; exact absurd h (by simp)
      | some b =>
        rw [hs] at h
        refine ih (n + 1) b.1 b.2 a ?_ h
        unfold sSt at hs
        cases hc : sStmt f N T p with
        | none => rw [hc] at hs; exact absurd hs (by simp)
        | some b' =>
          rw [hc] at hs
          have hs : ((sSign f N 59 b'.2).bind fun e => some (b'.1, e)) = some b := hs
          cases hd : sSign f N 59 b'.2 with
          | none => rw [hd] at hs; exact absurd hs (by simp)
          | some e =>
            rw [hd] at hs
            have hs := Option.some.inj hs
            rw [← hs]
            exact VB_stmt hT b' hc
theorem VT_0 {T : St} : VT (sClear T) := by
  have z : ∀ k, k < 5 → sClear T 1 k = 0 := by
    intro k hk
    rcases (show k = 0 ∨ k = 1 ∨ k = 2 ∨ k = 3 ∨ k = 4 by omega) with rfl | rfl | rfl | rfl | rfl <;> rfl
  have z0 := z 0 (by decide)
  have z1 := z 1 (by decide)
  have z2 := z 2 (by decide)
  have z3 := z 3 (by decide)
  have z4 := z 4 (by decide)
  refine ⟨⟨by omega, by omega, by omega, by omega, by omega⟩, fun k hk => by omega, fun k hk => by omega, fun k hk => by omega, fun k hk _ => ?_, fun k hk => by omega⟩
  rcases (show k = 0 ∨ k = 1 ∨ k = 2 ∨ k = 3 by omega) with rfl | rfl | rfl | rfl <;> rfl
theorem VT_town {f : Nat → Int} {N : Nat} {T : St} {a : Nat × St} (h : sTown f N T = some a) : VT a.2 := VT_townL 1601 0 (sClear T) 0 a VT_0 h
