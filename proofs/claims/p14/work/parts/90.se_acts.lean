/-! Acts: both sides do the same to the same. -/
def AC (b : Nat) (A T : St) : Prop := MKy b A T ∧ MPr b A T ∧ VT T
def ACT (b : Nat) (A T : St) : Prop := A 0 12 = (b : Int) ∧ MRs b A T ∧ AC b A T
def actT : List Nat := [1, 8, 9, 10, 11, 23, 24, 25, 27, 28, 29, 30]
def sT (T T' : St) : Prop := ∀ j, actT.contains j = true → T' j = T j
def sM (A A' : St) : Prop := A' 13 = A 13 ∧ A' 14 = A 14 ∧ A' 15 = A 15 ∧ A' 18 = A 18
theorem sT.rf {T : St} : sT T T := fun _ _ => rfl
theorem sM.rf {A : St} : sM A A := ⟨rfl, rfl, rfl, rfl⟩
theorem sM.trans {A B C : St} (h : sM A B) (g : sM B C) : sM A C := ⟨g.1.trans h.1, g.2.1.trans h.2.1, g.2.2.1.trans h.2.2.1, g.2.2.2.trans h.2.2.2⟩
theorem sM.fr {M' N' : List Nat} {A u : St} (h : fr M' N' A u) (a : M'.contains 13 = false) (b : M'.contains 14 = false) (c : M'.contains 15 = false) (d : M'.contains 18 = false) : sM A u := ⟨h.1 13 (by decide) a, h.1 14 (by decide) b, h.1 15 (by decide) c, h.1 18 (by decide) d⟩
theorem sT.fk {t : Nat} (hT : isT t) {P : List Nat} {F : List (Nat × Nat)} {B u : St} (h : fk P F B u) (hP : actT.all (fun j => !P.contains (51 + j) && !P.contains (82 + j)) = true) (hF : F.all (fun x => decide (x.1 < 51)) = true) : sT (tw t B) (tw t u) := by
  intro j hj
  have p : (!P.contains (51 + j) && !P.contains (82 + j)) = true := List.all_eq_true.mp hP j (List.contains_iff_mem.mp hj)
  simp only [Bool.and_eq_true, Bool.not_eq_true'] at p
  funext k
  refine h (t + j) k ?_ ?_
  · rcases hT with rfl | rfl
    · exact p.1
    · exact p.2
  · cases hc : fin2 F (t + j) k with
    | false => rfl
    | true =>
      have h1 := List.all_eq_true.mp hF _ (fin2_iff.mp hc)
      have h2 : t + j < 51 := of_decide_eq_true h1
      rcases hT with rfl | rfl <;> omega
theorem AC.cg {b : Nat} {A A' T T' : St} (h : AC b A T) (h4 : T 1 2 ≤ 4) (g : sT T T') (gA : sM A A') : AC b A' T' := by
  have e1 := g 1 rfl
  have e8 := g 8 rfl
  have e9 := g 9 rfl
  have e10 := g 10 rfl
  have e11 := g 11 rfl
  have e23 := g 23 rfl
  have e24 := g 24 rfl
  have e25 := g 25 rfl
  have e27 : ∀ k, k < 4 → T' (27 + k) = T (27 + k) := fun k hk => g (27 + k) (by
    rcases (show k = 0 ∨ k = 1 ∨ k = 2 ∨ k = 3 by omega) with rfl | rfl | rfl | rfl <;> rfl)
  refine ⟨⟨fun k hk => ?_, fun k hk h2 => ?_⟩, fun k hk => ?_, ?_⟩
  · rw [e1] at hk
    rw [gA.1, gA.2.1, gA.2.2.1, e24, e25, e27 k (by omega)]
    exact h.1.1 k hk
  · rw [e1] at h2
    rw [e25]
    exact h.1.2 k hk h2
  · rw [e1] at hk
    rw [gA.2.2.2, e23]
    exact h.2.1 k hk
  · have G : GR T T' := by
      refine ⟨?_, fun k _ => ?_⟩
      · rw [e1]
        exact ⟨Int.le_refl _, Int.le_refl _, Int.le_refl _, Int.le_refl _, Int.le_refl _⟩
      · rw [e8, e9, e10]
        exact ⟨rfl, rfl, rfl⟩
    refine h.2.2.step G (fun k h1 h2 => by rw [e1] at h2; omega) (fun k _ => by rw [e23]) (fun k h1 h2 => by rw [e1] at h2; omega) (fun k hk => (h.2.2.2.2.2.1 k hk).gr G (by rw [e24]) (by rw [e25]) (e27 k (by omega))) (fun k h1 h2 => by rw [e1] at h2; omega) (fun k hk h2 => ?_) (fun k _ => by rw [e11]) (fun k h1 h2 => by rw [e1] at h2; omega)
    rw [e1] at h2
    rw [e25]
    exact h.2.2.2.2.2.2.1 k hk h2
theorem ACT.cnt {b : Nat} {A T : St} (h : ACT b A T) : A 2 b = T 1 0 ∧ A 4 b = T 1 1 ∧ A 11 b = T 1 2 ∧ A 16 b = T 1 3 := by
  obtain ⟨_, ⟨⟨k0, k1, k2, k3, _⟩, _⟩, _⟩ := h
  exact ⟨k0.1, k1.1, k2.1, k3.1⟩
theorem ACT.lim {b : Nat} {A T : St} (hI : IM A) (h : ACT b A T) : T 1 0 ≤ 8 ∧ T 1 1 ≤ 10 ∧ T 1 2 ≤ 4 ∧ T 1 3 ≤ 3 := by
  obtain ⟨c0, c1, c2, c3⟩ := h.cnt
  have r0 : A 2 b ≤ 8 := (hI 2 b).2
  have r1 : A 4 b ≤ 10 := (hI 4 b).2
  have r2 : A 11 b ≤ 4 := (hI 11 b).2
  have r3 : A 16 b ≤ 3 := (hI 16 b).2
  exact ⟨by omega, by omega, by omega, by omega⟩
theorem ACT.st {b : Nat} {A T : St} (h : ACT b A T) : NB b A T ∧ MDr b A T ∧ MLs b A T := by
  obtain ⟨_, ⟨_, _, _, nb, dr, ls, _⟩, _⟩ := h
  exact ⟨nb, dr, ls⟩
/-- doors that stand shut, doors that are dead: how many -/
theorem cnt_D {t : Nat} {B : St} {m : Int} {P : Nat → Prop} (h1 : 0 ≤ B (t + 1) 1) (h10 : B (t + 1) 1 ≤ 10) (hm : 0 ≤ m ∧ m < 1024) (hq : ∀ d, d < 10 → (m.toNat.testBit d = true ↔ P d)) (hP : ∀ d, d < 10 → P d → (d : Int) < B (t + 1) 1) : cd (fun k => m.toNat.testBit k) 10 = cd (fun k => m.toNat.testBit k) (B (t + 1) 1).toNat := by
  have z : ∀ k, (B (t + 1) 1).toNat ≤ k → k < (B (t + 1) 1).toNat + (10 - (B (t + 1) 1).toNat) → (fun k => m.toNat.testBit k) k = false := by
    intro k g1 g2
    show m.toNat.testBit k = false
    cases hc : m.toNat.testBit k with
    | false => rfl
    | true =>
      have := hP k (by omega) ((hq k (by omega)).mp hc)
      omega
  have e := cd_more (p := fun k => m.toNat.testBit k) (n := (B (t + 1) 1).toNat) (10 - (B (t + 1) 1).toNat) z
  rw [show (B (t + 1) 1).toNat + (10 - (B (t + 1) 1).toNat) = 10 by omega] at e
  exact e
theorem shT_lt {b : Nat} {A T : St} (h : ACT b A T) {d : Nat} (g : shT T d) : (d : Int) < T 1 1 := by
  by_cases c : (d : Int) < T 1 1
  · exact c
  · exfalso
    rcases g with g | ⟨k, a1, i, a2, a3⟩
    · have := h.st.2.2.2.2 d (by omega)
      rw [this] at g
      exact absurd g Bool.false_ne_true
    · have := (h.2.2.2.2.2.2.2.1 k a1).2.1 i a2
      omega
theorem ddT_sh {T : St} {d : Nat} (g : ddT T d) : shT T d := g.elim Or.inl (fun ⟨k, a1, _, a3⟩ => Or.inr ⟨k, a1, a3⟩)
theorem closed_eq {t b : Nat} {B A : St} {m z1 z2 : Int} (hI : IM A) (h : ACT b A (tw t B)) (hm : q_X9_shutMask t B m) (h1 : q_J6_bitCount_0f7a4 m B z1) (h2 : q_X12_closedAll A z2) : z1 = z2 := by
  obtain ⟨l0, l1, l2, l3⟩ := h.lim hI
  have l1 : B (t + 1) 1 ≤ 10 := l1
  have l2 : B (t + 1) 2 ≤ 4 := l2
  have hv := h.2.2.2.2
  have hv0 : 0 ≤ B (t + 1) 1 := hv.1.2.1
  have ls := h.st.2.2
  obtain ⟨q1, q2⟩ := K_shutMask (hv.rb l1) l2 ls.1 hm
  have e : m = ((m.toNat : Nat) : Int) := by omega
  rw [e] at h1
  have k1 := K_bits (by omega) h1
  obtain ⟨nn, hc⟩ := (h2.1 : tr_r_X12_closedAll A z2)
  have r := M_closedAllL (p := fun k => m.toNat.testBit k) h.1 h.cnt.2.1 l1 h.cnt.2.2.1 h.2.2.1 ls (fun k hk => q2 k (by have hk : (k : Int) < B (t + 1) 1 := hk; omega)) nn 0 0 rfl hv0 hc
  have r : z2 = cd (fun k => m.toNat.testBit k) (B (t + 1) 1).toNat := r
  have c := cnt_D hv0 l1 q1 q2 (fun d _ g => shT_lt h g)
  rw [k1, r, c]
/-- what is there -/
theorem K_there1 {t : Nat} {x z : Int} {B : St} (h : q_X9_isThere_1_1 t x B z) : (z = 1 ↔ 0 ≤ x ∧ x < B (t + 1) 1) ∧ (z = 0 ∨ z = 1) := by
  rcases (h.1 : tr_r_X9_isThere_1_1 t x B z) with ⟨c, e⟩ | ⟨c, z4, e4, h⟩
  · omega
  · have e4 : z4 = B (t + 1) 1 := e4
    rcases h with ⟨c2, e⟩ | ⟨c2, e⟩ <;> omega
theorem K_there2 {t : Nat} {x z : Int} {B : St} (h : q_X9_isThere_1_2 t x B z) : (z = 1 ↔ 0 ≤ x ∧ x < B (t + 1) 2) ∧ (z = 0 ∨ z = 1) := by
  rcases (h.1 : tr_r_X9_isThere_1_2 t x B z) with ⟨c, e⟩ | ⟨c, z4, e4, h⟩
  · omega
  · have e4 : z4 = B (t + 1) 2 := e4
    rcases h with ⟨c2, e⟩ | ⟨c2, e⟩ <;> omega
theorem K_there3 {t : Nat} {x z : Int} {B : St} (h : q_X9_isThere_1_3 t x B z) : (z = 1 ↔ 0 ≤ x ∧ x < B (t + 1) 3) ∧ (z = 0 ∨ z = 1) := by
  rcases (h.1 : tr_r_X9_isThere_1_3 t x B z) with ⟨c, e⟩ | ⟨c, z4, e4, h⟩
  · omega
  · have e4 : z4 = B (t + 1) 3 := e4
    rcases h with ⟨c2, e⟩ | ⟨c2, e⟩ <;> omega
theorem M_isDoor {b : Nat} {x z : Int} {A T : St} (hI : IM A) (hA : ACT b A T) (h : q_X12_isDoor x A z) : (z = 1 ↔ 0 ≤ x ∧ x < T 1 1) ∧ (z = 0 ∨ z = 1) := by
  have q := h.2
  have l := hA.lim hI
  rw [hA.1, Int.toNat_natCast, hA.cnt.2.1] at q
  omega
theorem M_isKey {b : Nat} {x z : Int} {A T : St} (hI : IM A) (hA : ACT b A T) (h : q_X12_isKey x A z) : (z = 1 ↔ 0 ≤ x ∧ x < T 1 2) ∧ (z = 0 ∨ z = 1) := by
  have q := h.2
  have l := hA.lim hI
  rw [hA.1, Int.toNat_natCast, hA.cnt.2.2.1] at q
  omega
theorem M_isPerson {b : Nat} {x z : Int} {A T : St} (hI : IM A) (hA : ACT b A T) (h : q_X12_isPerson x A z) : (z = 1 ↔ 0 ≤ x ∧ x < T 1 3) ∧ (z = 0 ∨ z = 1) := by
  have q := h.2
  have l := hA.lim hI
  rw [hA.1, Int.toNat_natCast, hA.cnt.2.2.2] at q
  omega
theorem M_isPlace {b : Nat} {x z : Int} {A T : St} (hI : IM A) (hA : ACT b A T) (h : q_X12_isPlace x A z) : (z = 1 ↔ 0 ≤ x ∧ x < T 1 0) ∧ (z = 0 ∨ z = 1) := by
  have q := h.2
  have l := hA.lim hI
  rw [hA.1, Int.toNat_natCast, hA.cnt.1] at q
  omega
theorem K_isBox {t : Nat} {x z : Int} {B : St} (h : q_X9_isBox t x B z) : (z = 1 ↔ 0 ≤ x ∧ x < B (t + 1) 1 ∧ B (t + 10) x.toNat = 0) ∧ (z = 0 ∨ z = 1) := by
  rcases (h.1 : tr_r_X9_isBox t x B z) with ⟨c, e⟩ | ⟨c, z2, e2, h⟩
  · omega
  · have e2 : z2 = B (t + 1) 1 := e2
    rcases h with ⟨c2, e⟩ | ⟨c2, z4, e4, h⟩
    · omega
    · rcases h with ⟨c3, e⟩ | ⟨c3, e⟩ <;> omega
theorem K_isAt {t : Nat} {x p z : Int} {B : St} (h : q_X9_isAt t x p B z) : (z = 1 ↔ 0 ≤ x ∧ x < B (t + 1) 1 ∧ (B (t + 8) x.toNat = p ∨ B (t + 9) x.toNat = p)) ∧ (z = 0 ∨ z = 1) := by
  rcases (h.1 : tr_r_X9_isAt t x p B z) with ⟨c, e⟩ | ⟨c, z2, e2, h⟩
  · omega
  · have e2 : z2 = B (t + 1) 1 := e2
    rcases h with ⟨c2, e⟩ | ⟨c2, z4, e4, h⟩
    · omega
    · rcases h with ⟨c3, e⟩ | ⟨c3, z6, e6, h⟩
      · omega
      · rcases h with ⟨c4, e⟩ | ⟨c4, e⟩ <;> omega
theorem K_other {t d : Nat} {p z : Int} {B : St} (hd : (d : Int) < B (t + 1) 1) (h : q_X9_otherSide t (d : Int) p B z) : z = if B (t + 8) d = p then B (t + 9) d else B (t + 8) d := by
  obtain ⟨z1, h1, h⟩ := (h.1 : tr_r_X9_otherSide t (d : Int) p B z)
  have k := K_there1 h1
  rcases h with ⟨_, z5, e5, h⟩ | ⟨c, _⟩
  · rw [Int.toNat_natCast] at e5
    rcases h with ⟨c, hz⟩ | ⟨c, z8, e8, hz⟩
    · rw [if_neg (by rw [← e5]; exact c), hz, e5]
    · rw [Int.toNat_natCast] at e8
      rw [if_pos (by rw [← e5]; exact c), hz, e8]
  · omega
theorem M_isAt {b d : Nat} {p z : Int} {A T : St} (hA : ACT b A T) (hd : (d : Int) < T 1 1) (h : q_X12_isAt p (d : Int) A z) : (z = 1 ↔ T 8 d = p ∨ T 9 d = p) ∧ (z = 0 ∨ z = 1) := by
  have dr := hA.st.2.1 d hd
  obtain ⟨_, _, z4, e4, h⟩ := (h.1 : tr_r_X12_isAt p (d : Int) A z)
  rw [hA.1, show (10 * (b : Int) + (d : Int)).toNat = 10 * b + d by omega, dr.1] at e4
  rcases h with ⟨c, e⟩ | ⟨c, _, _, z9, e9, h⟩
  · omega
  · rw [hA.1, show (10 * (b : Int) + (d : Int)).toNat = 10 * b + d by omega, dr.2.1] at e9
    rcases h with ⟨c2, e⟩ | ⟨c2, e⟩ <;> omega
theorem M_other {b d : Nat} {p z : Int} {A T : St} (hb : A 0 12 = (b : Int)) (hD : MDr b A T) (hd : (d : Int) < T 1 1) (h : q_X12_otherSide (d : Int) p A z) : z = if T 8 d = p then T 9 d else T 8 d := by
  have dr := hD d hd
  obtain ⟨_, _, z4, e4, h⟩ := (h.1 : tr_r_X12_otherSide (d : Int) p A z)
  rw [hb, show (10 * (b : Int) + (d : Int)).toNat = 10 * b + d by omega, dr.1] at e4
  rcases h with ⟨c, _, _, z9, e9, hz⟩ | ⟨c, _, _, z13, e13, hz⟩
  · rw [hb, show (10 * (b : Int) + (d : Int)).toNat = 10 * b + d by omega, dr.1] at e9
    rw [if_neg (by rw [← e4]; exact c), hz, e9]
  · rw [hb, show (10 * (b : Int) + (d : Int)).toNat = 10 * b + d by omega, dr.2.1] at e13
    rw [if_pos (by rw [← e4]; exact c), hz, e13]
theorem M_spotOf {b p : Nat} {z : Int} {A T : St} (hb : A 0 12 = (b : Int)) (hP : MPr b A T) (hp : (p : Int) < T 1 3) (h : q_X12_placeOf (p : Int) A z) : z = T 23 p := by
  obtain ⟨z1, e1, hz⟩ := (h.1 : tr_r_X12_placeOf (p : Int) A z)
  rw [hb, show (3 * (b : Int) + (p : Int)).toNat = 3 * b + p by omega, hP p hp] at e1
  rw [hz, e1]
/-- a person goes -/
theorem VT_spot {T : St} {q : Nat} {a : Int} (h : VT T) (ha : 0 ≤ a ∧ a < T 1 0) : VT (stA T 23 q a) := by
  have g : GR T (stA T 23 q a) := GR.rf
  refine ⟨h.1, h.2.1, fun k hk => ?_, fun k hk => (h.2.2.2.1 k hk).gr g rfl rfl (stA_ne _ _ (by omega)), h.2.2.2.2.1, fun k hk => (h.2.2.2.2.2 k hk).gr g⟩
  show 0 ≤ up (T 23) q a k ∧ up (T 23) q a k < T 1 0
  by_cases e : k = q
  · rw [e, up_same]; exact ha
  · rw [up_ne _ _ e]; exact h.2.2.1 k hk
theorem AC_spot {b p : Nat} {A T : St} {v : Int} (h : AC b A T) (hv : 0 ≤ v ∧ v < T 1 0) : AC b (stA A 18 (3 * b + p) v) (stA T 23 p v) := by
  refine ⟨h.1.cg rfl rfl rfl rfl rfl rfl (fun k => stA_ne _ _ (by omega)), fun k hk => ?_, VT_spot h.2.2 hv⟩
  show up (A 18) (3 * b + p) v (3 * b + k) = up (T 23) p v k
  by_cases e : k = p
  · rw [e, up_same, up_same]
  · rw [up_ne _ _ e, up_ne _ _ (by omega)]
    exact h.2.1 k hk
theorem AC_where {b q : Nat} {A T : St} {v : Int} (h : AC b A T) (hv : WV T v) : AC b (stA A 13 (4 * b + q) v) (stA T 24 q v) := by
  refine ⟨⟨fun k hk => ?_, h.1.2⟩, h.2.1, VT_where h.2.2 hv⟩
  have e27 : stA T 24 q v (27 + k) = T (27 + k) := stA_ne _ _ (by omega)
  rw [e27]
  have x := h.1.1 k hk
  refine ⟨?_, x.2.1, x.2.2⟩
  show up (A 13) (4 * b + q) v (4 * b + k) = up (T 24) q v k
  by_cases e : k = q
  · rw [e, up_same, up_same]
  · rw [up_ne _ _ e, up_ne _ _ (by omega)]
    exact x.1
theorem AC_pop {b q : Nat} {A T : St} {v : Int} (h : AC b A T) (hq : (q : Int) < T 1 2) (hv : 0 ≤ v ∧ v ≤ T 25 q) : AC b (stA A 14 (4 * b + q) v) (stA T 25 q v) := by
  have e27 : ∀ k, stA T 25 q v (27 + k) = T (27 + k) := fun k => stA_ne _ _ (by omega)
  have g : GR T (stA T 25 q v) := GR.rf
  have le : ∀ k, up (T 25) q v k ≤ T 25 k ∧ (k ≠ q → up (T 25) q v k = T 25 k) := by
    intro k
    by_cases e : k = q
    · subst e
      rw [up_same]
      exact ⟨hv.2, fun n => absurd rfl n⟩
    · rw [up_ne _ _ e]
      exact ⟨Int.le_refl _, fun _ => rfl⟩
  refine ⟨⟨fun k hk => ?_, fun k hk h2 => ?_⟩, h.2.1, ⟨h.2.2.1, h.2.2.2.1, h.2.2.2.2.1, fun k hk => ?_, fun k hk h2 => ?_, h.2.2.2.2.2.2.2⟩⟩
  · have x := h.1.1 k hk
    rw [e27]
    refine ⟨x.1, ?_, fun i hi => x.2.2 i ?_⟩
    · show up (A 14) (4 * b + q) v (4 * b + k) = up (T 25) q v k
      by_cases e : k = q
      · rw [e, up_same, up_same]
      · rw [up_ne _ _ e, up_ne _ _ (by omega)]
        exact x.2.1
    · have hi : (i : Int) < up (T 25) q v k := hi
      have := (le k).1
      omega
  · have h2 : T 1 2 ≤ (k : Int) := h2
    show up (T 25) q v k = 0
    rw [(le k).2 (by omega)]
    exact h.1.2 k hk h2
  · obtain ⟨x1, x2, x3, x4⟩ := h.2.2.2.2.2.1 k hk
    have l := (le k).1
    have n := (le k).2
    unfold KV
    rw [e27]
    refine ⟨?_, fun i hi => x2 i ?_, fun i j hij hj => x3 i j hij ?_, x4⟩
    · show 0 ≤ up (T 25) q v k ∧ up (T 25) q v k ≤ 6
      by_cases e : k = q
      · subst e
        rw [up_same]
        omega
      · rw [n e]
        exact x1
    · have hi : (i : Int) < up (T 25) q v k := hi
      omega
    · have hj : (j : Int) < up (T 25) q v k := hj
      omega
  · have h2 : T 1 2 ≤ (k : Int) := h2
    show up (T 25) q v k = 0
    rw [(le k).2 (by omega)]
    exact h.1.2 k hk h2
theorem AC_push {b q n : Nat} {A T : St} {d : Int} (h : AC b A T) (hq : (q : Int) < T 1 2) (hn : T 25 q = (n : Int)) (h6 : n < 6) (hd : 0 ≤ d ∧ d < T 1 1) (hu : ∀ i : Nat, i < n → T (27 + q) i ≠ d) : AC b (stA (stA A 15 (40 * b + 10 * q + n) d) 14 (4 * b + q) ((n : Int) + 1)) (stA (stA T (27 + q) n d) 25 q ((n : Int) + 1)) := by
  refine ⟨⟨fun k hk => ?_, fun k hk h2 => ?_⟩, fun k hk => ?_, VT_push h.2.2 hq hn h6 hd hu⟩
  · have hk : (k : Int) < T 1 2 := by
      have e : stA (stA T (27 + q) n d) 25 q ((n : Int) + 1) 1 = T 1 := by rw [stA_ne _ _ (by omega), stA_ne _ _ (by omega)]
      rw [e] at hk
      exact hk
    have x := h.1.1 k hk
    have t24 : stA (stA T (27 + q) n d) 25 q ((n : Int) + 1) 24 = T 24 := by rw [stA_ne _ _ (by omega), stA_ne _ _ (by omega)]
    have t25 : stA (stA T (27 + q) n d) 25 q ((n : Int) + 1) 25 = up (T 25) q ((n : Int) + 1) := by rw [stA_same, stA_ne _ _ (by omega)]
    have a13 : stA (stA A 15 (40 * b + 10 * q + n) d) 14 (4 * b + q) ((n : Int) + 1) 13 = A 13 := rfl
    have a14 : stA (stA A 15 (40 * b + 10 * q + n) d) 14 (4 * b + q) ((n : Int) + 1) 14 = up (A 14) (4 * b + q) ((n : Int) + 1) := rfl
    have a15 : stA (stA A 15 (40 * b + 10 * q + n) d) 14 (4 * b + q) ((n : Int) + 1) 15 = up (A 15) (40 * b + 10 * q + n) d := rfl
    rw [t24, t25, a13, a14, a15]
    by_cases e : k = q
    · subst e
      have t27 : stA (stA T (27 + k) n d) 25 k ((n : Int) + 1) (27 + k) = up (T (27 + k)) n d := by rw [stA_ne _ _ (by omega), stA_same]
      rw [t27, up_same, up_same]
      refine ⟨x.1, rfl, fun i hi => ?_⟩
      by_cases e2 : i = n
      · rw [e2, up_same, up_same]
      · rw [up_ne _ _ e2, up_ne _ _ (by omega)]
        exact x.2.2 i (by omega)
    · have t27 : stA (stA T (27 + q) n d) 25 q ((n : Int) + 1) (27 + k) = T (27 + k) := by rw [stA_ne _ _ (by omega), stA_ne _ _ (by omega)]
      have k6 := (h.2.2.2.2.2.1 k hk).1
      rw [t27, up_ne _ _ e, up_ne _ _ (by omega)]
      refine ⟨x.1, x.2.1, fun i hi => ?_⟩
      rw [up_ne _ _ (by omega)]
      exact x.2.2 i hi
  · have e1 : stA (stA T (27 + q) n d) 25 q ((n : Int) + 1) 1 = T 1 := by rw [stA_ne _ _ (by omega), stA_ne _ _ (by omega)]
    have t25 : stA (stA T (27 + q) n d) 25 q ((n : Int) + 1) 25 = up (T 25) q ((n : Int) + 1) := by rw [stA_same, stA_ne _ _ (by omega)]
    rw [e1] at h2
    rw [t25, up_ne _ _ (by omega)]
    exact h.1.2 k hk h2
  · have e1 : stA (stA T (27 + q) n d) 25 q ((n : Int) + 1) 1 = T 1 := by rw [stA_ne _ _ (by omega), stA_ne _ _ (by omega)]
    have t23 : stA (stA T (27 + q) n d) 25 q ((n : Int) + 1) 23 = T 23 := by rw [stA_ne _ _ (by omega), stA_ne _ _ (by omega)]
    rw [e1] at hk
    rw [t23]
    exact h.2.1 k hk
