/-! The reference's tests against the class's: parts. -/
theorem sOwn_pos {f : Nat → Int} {N p k : Nat} (h : tow f N p k) : sOwn f N k p = some (tEnd f N p) := by
  unfold sOwn
  rw [if_pos h]
theorem sOwn_neg {f : Nat → Int} {N p k : Nat} (h : ¬ tow f N p k) : sOwn f N k p = none := by
  unfold sOwn
  rw [if_neg h]
theorem sSign_pos {f : Nat → Int} {N p : Nat} {c : Int} (h : tsg f N p c) : sSign f N c p = some (tEnd f N p) := by
  unfold sSign
  rw [if_pos h]
theorem sSign_neg {f : Nat → Int} {N p : Nat} {c : Int} (h : ¬ tsg f N p c) : sSign f N c p = none := by
  unfold sSign
  rw [if_neg h]
theorem own5_inj26 : ∀ i j : Fin 26, own5 i.val = own5 j.val → i = j := by decide +kernel
theorem tow_ne {f : Nat → Int} {N p i j : Nat} (h : tow f N p i) (hi : i < 26) (hj : j < 26) (ne : i ≠ j) : ¬ tow f N p j := by
  intro g
  have := own5_inj26 ⟨i, hi⟩ ⟨j, hj⟩ (h.2.symm.trans g.2)
  exact ne (by simpa using this)
theorem tow_sg {f : Nat → Int} {N p i : Nat} {c : Int} (h : tow f N p i) : ¬ tsg f N p c := fun g => by have := h.1; have := g.1; omega
theorem sPart_lf {f : Nat → Int} {N p : Nat} (h : tlf f N p) : ∃ x, ∀ n S T, sPart f N n S T p = sAd2 (some (T, tEnd f N p)) x := by
  rcases h with h | h | h | h | h
  · exact ⟨nv f N p, fun n S T => by unfold sPart; rw [if_pos h]⟩
  · refine ⟨-1, fun n S T => ?_⟩
    unfold sPart
    rw [if_neg (by have := h.1; omega), sSign_neg (tow_sg h), sOwn_pos h]
  · refine ⟨-2, fun n S T => ?_⟩
    unfold sPart
    rw [if_neg (by have := h.1; omega), sSign_neg (tow_sg h), sOwn_neg (tow_ne h (by decide) (by decide) (by decide)), sOwn_pos h]
  · refine ⟨-3, fun n S T => ?_⟩
    unfold sPart
    rw [if_neg (by have := h.1; omega), sSign_neg (tow_sg h), sOwn_neg (tow_ne h (by decide) (by decide) (by decide)), sOwn_neg (tow_ne h (by decide) (by decide) (by decide)), sOwn_pos h]
  · refine ⟨-4, fun n S T => ?_⟩
    unfold sPart
    rw [if_neg (by have := h.1; omega), sSign_neg (tow_sg h), sOwn_neg (tow_ne h (by decide) (by decide) (by decide)), sOwn_neg (tow_ne h (by decide) (by decide) (by decide)), sOwn_neg (tow_ne h (by decide) (by decide) (by decide)), sOwn_pos h]
theorem sPart_br {f : Nat → Int} {N p n : Nat} {S : PT} {T : St} (h : tsg f N p 40) : sPart f N n S T p = if n = 0 then none else (S T (tEnd f N p)).bind fun a => (sSign f N 41 a.2).bind fun p2 => some (a.1, p2) := by
  unfold sPart
  rw [if_neg (by have := h.1; omega), sSign_pos h]
theorem sPart_mm {f : Nat → Int} {N p : Nat} (h : tow f N p 24 ∨ tow f N p 25) : ∃ x, ∀ n S T, sPart f N n S T p = sAd2 (sPair f N n S T (tEnd f N p)) x := by
  rcases h with h | h
  · refine ⟨-17, fun n S T => ?_⟩
    unfold sPart
    rw [if_neg (by have := h.1; omega), sSign_neg (tow_sg h), sOwn_neg (tow_ne h (by decide) (by decide) (by decide)), sOwn_neg (tow_ne h (by decide) (by decide) (by decide)), sOwn_neg (tow_ne h (by decide) (by decide) (by decide)), sOwn_neg (tow_ne h (by decide) (by decide) (by decide)), sOwn_pos h]
  · refine ⟨-18, fun n S T => ?_⟩
    unfold sPart
    rw [if_neg (by have := h.1; omega), sSign_neg (tow_sg h), sOwn_neg (tow_ne h (by decide) (by decide) (by decide)), sOwn_neg (tow_ne h (by decide) (by decide) (by decide)), sOwn_neg (tow_ne h (by decide) (by decide) (by decide)), sOwn_neg (tow_ne h (by decide) (by decide) (by decide)), sOwn_neg (tow_ne h (by decide) (by decide) (by decide)), sOwn_pos h]
theorem sPart_no {f : Nat → Int} {N p n : Nat} {S : PT} {T : St} (h1 : ¬ tlf f N p) (h2 : ¬ tsg f N p 40) (h3 : ¬ (tow f N p 24 ∨ tow f N p 25)) : sPart f N n S T p = none := by
  unfold sPart
  rw [if_neg (fun g => h1 (Or.inl g)), sSign_neg h2, sOwn_neg (fun g => h1 (Or.inr (Or.inl g))), sOwn_neg (fun g => h1 (Or.inr (Or.inr (Or.inl g)))), sOwn_neg (fun g => h1 (Or.inr (Or.inr (Or.inr (Or.inl g))))), sOwn_neg (fun g => h1 (Or.inr (Or.inr (Or.inr (Or.inr g))))), sOwn_neg (fun g => h3 (Or.inl g)), sOwn_neg (fun g => h3 (Or.inr g))]
theorem bad_part {f : Nat → Int} {N p n : Nat} {S : PT} {T : St} (h : tKind f N p = 4) : sPart f N n S T p = none := by
  refine sPart_no ?_ (fun g => by have := g.1; omega) ?_
  · rintro (g | g | g | g | g)
    · omega
    · have := g.1; omega
    · have := g.1; omega
    · have := g.1; omega
    · have := g.1; omega
  · rintro (g | g)
    · have := g.1; omega
    · have := g.1; omega
theorem sAdC_ok {T : St} {x : Int} (h : T 19 2 < 1600) : ∃ t, sAdC T x = some t ∧ t 19 2 = T 19 2 + 1 := by
  unfold sAdC
  rw [if_pos h]
  refine ⟨_, rfl, ?_⟩
  rw [stA_same, up_same]
theorem sAd2_ok {T : St} {e : Nat} {x : Int} (h : T 19 2 < 1600) : ∃ t, sAd2 (some (T, e)) x = some (t, e) ∧ t 19 2 = T 19 2 + 1 := by
  obtain ⟨t, h1, h2⟩ := sAdC_ok (x := x) h
  refine ⟨t, ?_, h2⟩
  unfold sAd2
  show ((sAdC T x).bind fun t => some (t, e)) = some (t, e)
  rw [h1]
  rfl
theorem Bad.ad2 {f : Nat → Int} {N : Nat} {r : Option (St × Nat)} {x : Int} (h : Bad f N r) : Bad f N (sAd2 r x) := by
  unfold sAd2
  refine h.bd (fun a ha => ?_)
  cases sAdC a.1 x with
  | none => exact Or.inl rfl
  | some t => exact Or.inr ⟨(t, a.2), rfl, ha⟩
/-- the frames are as before; the top one's fact has begun -/
def TP (D : Nat) (A A' : St) : Prop := A' 0 53 = A 0 53 ∧ A' 0 54 = A 0 54 ∧ (∀ i, i < D → A' 35 i = A 35 i ∧ A' 36 i = A 36 i) ∧ (∀ i, i + 1 < D → A' 37 i = A 37 i) ∧ A' 37 (D - 1) = 0
theorem TP.trans {D : Nat} {A B C : St} (h : TP D A B) (g : TP D B C) : TP D A C := ⟨g.1.trans h.1, g.2.1.trans h.2.1, fun i hi => ⟨(g.2.2.1 i hi).1.trans (h.2.2.1 i hi).1, (g.2.2.1 i hi).2.trans (h.2.2.1 i hi).2⟩, fun i hi => (g.2.2.2.1 i hi).trans (h.2.2.2.1 i hi), g.2.2.2.2⟩
def Out (f : Nat → Int) (N b : Nat) (u : St) (D : Nat) (A T : St) (p q : Nat) (X : Nat → Prop) (r : Option (St × Nat)) : Prop := (1 ≤ u 0 8 ∧ Bad f N r) ∨ (∃ a A', r = some a ∧ MS f N b a.2 A' ∧ RN u A' ∧ A' 0 57 = 1 ∧ TP D A A' ∧ X a.2 ∧ q ≤ a.2 ∧ a.1 19 2 + (p : Int) ≤ T 19 2 + (a.2 : Int))
abbrev pln (f : Nat → Int) (N p D : Nat) (A : St) : Prop := fst1 D A → ¬ tow f N p 18 ∧ ¬ tsg f N p 91 ∧ ¬ tow f N p 19
def SimS (f : Nat → Int) (N b : Nat) (u : St) (o : Int) (S : PT) : Prop := (∀ T p, tKind f N p = 4 → S T p = none) ∧ ∀ (A T : St) (p D : Nat), MS f N b p A → RN u A → A 0 57 = 0 → A 0 53 = (D : Int) → 1 ≤ D → A 0 54 = o → pln f N p D A → A 36 (D - 1) < 2 → T 19 2 ≤ (p : Int) → 1 ≤ p → Out f N b u D A T p (p + 1) (fun e => ¬ tari f N e) (S T p)
/-- goesOn where no sign of a sum stands, in a frame that is no test -/
theorem G_in {f : Nat → Int} {N b p D : Nat} {A v : St} {z : Int} (h : MS f N b p A) (hD : A 0 53 = (D : Int)) (h1 : 1 ≤ D) (hk : ¬ (A 35 (D - 1) = 1 ∨ A 35 (D - 1) = 5)) (ht : ¬ tari f N p) (hq : q_X12_goesOn A z v) : d_X12_goesOn_8 A z v (A 35 (D - 1)) A := by
  rcases G_base h hD h1 hq with ⟨_, g, _⟩ | ⟨_, z2, hz2, h2⟩
  · exact absurd g ht
  · have e2 : z2 = 0 := by
      rcases hz2 with ⟨_, g⟩ | ⟨g, _⟩
      · exact absurd g hk
      · exact g
    have n1 : ¬ z2 = 1 := fun g => absurd (g.symm.trans e2) (by decide)
    rcases G_cmp h hD h1 (Or.inr e2) h2 with ⟨g, _⟩ | ⟨_, h2⟩
    · exact absurd g n1
    · rcases G_andor h hD h1 (Or.inr e2) h2 with ⟨g, _⟩ | ⟨_, h2⟩
      · exact absurd g n1
      · rcases G_end h hD h1 (Or.inr e2) h2 with ⟨g, _⟩ | ⟨_, h2⟩
        · exact absurd g n1
        · exact h2
theorem MO.nf {f : Nat → Int} {N b e : Nat} {v : St} (h : MO f N b e v) (g : v 0 8 = 0) : MS f N b e v := by
  rcases h with ⟨_, h⟩ | ⟨_, h⟩
  · omega
  · exact h
theorem MO.ff {f : Nat → Int} {N b e : Nat} {v : St} (h : MO f N b e v) (g : ¬ v 0 8 = 0) : tKind f N e = 4 ∧ 1 ≤ v 0 8 := by
  rcases h with h | ⟨h, _⟩
  · exact h
  · exact absurd h g
/-- behind an opening bracket: the deeper sum, and where it stands then -/
theorem S_deep {f : Nat → Int} {N b p D : Nat} {u A B T : St} {o k : Int} {S : PT} (hS : SimS f N b u (o + 1) S) (hk : ¬ (k = 1 ∨ k = 5)) (hB8 : B 0 8 = 0) (hop : OP f N b p D o 0 k A B) (hr : RN u B) (hT : T 19 2 ≤ (p : Int)) (hp : 1 ≤ p) : Out f N b u (D + 1) B T p (p + 1) (fun e => ¬ tari f N e) (S T p) := by
  obtain ⟨a1, a2, a3, a4, a5, a6, a7⟩ := hop
  refine hS.2 B T p (D + 1) (a1.nf hB8) hr a4 (by rw [a2]; rfl) (by omega) a3 (fun g => ?_) ?_ hT hp
  · have := g.1
    rw [a5, show D + 1 - 1 = D by omega, up_same] at this
    exact absurd this hk
  · rw [a6, show D + 1 - 1 = D by omega, up_same]
    decide
theorem up_lt {g : Nat → Int} {D i : Nat} {v : Int} (h : i < D) : up g D v i = g i := up_ne _ _ (by omega)
