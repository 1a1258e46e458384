/-! Acts: both sides do the same to the same. -/
def AC (b : Nat) (A T : St) : Prop := MKy b A T ∧ MPr b A T ∧ VT T
def ACT (b : Nat) (A T : St) : Prop := A 0 12 = (b : Int) ∧ MRs b A T ∧ AC b A T
def actT : List Nat := [1, 8, 9, 10, 11, 23, 24, 25, 27, 28, 29, 30]
def sT (T T' : St) : Prop := ∀ j, actT.contains j = true → T' j = T j
def sM (A A' : St) : Prop := A' 13 = A 13 ∧ A' 14 = A 14 ∧ A' 15 = A 15 ∧ A' 18 = A 18
theorem sT.rf {T : St} : sT T T := fun _ _ => rfl
theorem sM.rf {A : St} : sM A A := ⟨rfl, rfl, rfl, rfl⟩
theorem sM.trans {A B C : St} (h : sM A B) (g : sM B C) : sM A C := ⟨g.1.trans h.1, g.2.1.trans h.2.1, g.2.2.1.trans h.2.2.1, g.2.2.2.trans h.2.2.2⟩
theorem sM.fr {M' N' : List Nat} {A u : St} (h : fr M' N' A u) (a : M'.contains 13 = false) (b : M'.contains 14 = false) (c : M'.contains 15 = false) (d : M'.contains 18 = false) : sM A u := ⟨h.1 13 (by decide) a, h.1 14 (by decide) b, h.1 15 (by decide) c, h.1 18 (by decide) d⟩
theorem sT.fk {t : Nat} (hT : isT t) {P : List Nat} {F : List (Nat × Nat)} {B u : St} (h : fk P F B u) (hP : actT.all (fun j => !P.contains (51 + j) && !P.contains (82 + j)) = true) (hF : F.all (fun x => decide (x.1 < 51)) = true) : sT (tw t B) (tw t u) := by
  intro j hj
  have p : (!P.contains (51 + j) && !P.contains (82 + j)) = true := List.all_eq_true.mp hP j (List.contains_iff_mem.mp hj)
  simp only [Bool.and_eq_true, Bool.not_eq_true'] at p
  funext k
  refine h (t + j) k ?_ ?_
  · rcases hT with rfl | rfl
    · exact p.1
    · exact p.2
  · cases hc : fin2 F (t + j) k with
    | false => rfl
    | true =>
      have h1 := List.all_eq_true.mp hF _ (fin2_iff.mp hc)
      have h2 : t + j < 51 := of_decide_eq_true h1
      rcases hT with rfl | rfl <;> omega
theorem AC.cg {b : Nat} {A A' T T' : St} (h : AC b A T) (h4 : T 1 2 ≤ 4) (g : sT T T') (gA : sM A A') : AC b A' T' := by
  have e1 := g 1 rfl
  have e8 := g 8 rfl
  have e9 := g 9 rfl
  have e10 := g 10 rfl
  have e11 := g 11 rfl
  have e23 := g 23 rfl
  have e24 := g 24 rfl
  have e25 := g 25 rfl
  have e27 : ∀ k, k < 4 → T' (27 + k) = T (27 + k) := fun k hk => g (27 + k) (by
    rcases (show k = 0 ∨ k = 1 ∨ k = 2 ∨ k = 3 by omega) with rfl | rfl | rfl | rfl <;> rfl)
  refine ⟨⟨fun k hk => ?_, fun k hk h2 => ?_⟩, fun k hk => ?_, ?_⟩
  · rw [e1] at hk
    rw [gA.1, gA.2.1, gA.2.2.1, e24, e25, e27 k (by omega)]
    exact h.1.1 k hk
  · rw [e1] at h2
    rw [e25]
    exact h.1.2 k hk h2
  · rw [e1] at hk
    rw [gA.2.2.2, e23]
    exact h.2.1 k hk
  · have G : GR T T' := by
      refine ⟨?_, fun k _ => ?_⟩
      · rw [e1]
        exact ⟨Int.le_refl _, Int.le_refl _, Int.le_refl _, Int.le_refl _, Int.le_refl _⟩
      · rw [e8, e9, e10]
        exact ⟨rfl, rfl, rfl⟩
    refine h.2.2.step G (fun k h1 h2 => by rw [e1] at h2; omega) (fun k _ => by rw [e23]) (fun k h1 h2 => by rw [e1] at h2; omega) (fun k hk => (h.2.2.2.2.2.1 k hk).gr G (by rw [e24]) (by rw [e25]) (e27 k (by omega))) (fun k h1 h2 => by rw [e1] at h2; omega) (fun k hk h2 => ?_) (fun k _ => by rw [e11]) (fun k h1 h2 => by rw [e1] at h2; omega)
    rw [e1] at h2
    rw [e25]
    exact h.2.2.2.2.2.2.1 k hk h2
theorem ACT.cnt {b : Nat} {A T : St} (h : ACT b A T) : A 2 b = T 1 0 ∧ A 4 b = T 1 1 ∧ A 11 b = T 1 2 ∧ A 16 b = T 1 3 := by
  obtain ⟨_, ⟨⟨k0, k1, k2, k3, _⟩, _⟩, _⟩ := h
  exact ⟨k0.1, k1.1, k2.1, k3.1⟩
theorem ACT.lim {b : Nat} {A T : St} (hI : IM A) (h : ACT b A T) : T 1 0 ≤ 8 ∧ T 1 1 ≤ 10 ∧ T 1 2 ≤ 4 ∧ T 1 3 ≤ 3 := by
  obtain ⟨c0, c1, c2, c3⟩ := h.cnt
  have r0 : A 2 b ≤ 8 := (hI 2 b).2
  have r1 : A 4 b ≤ 10 := (hI 4 b).2
  have r2 : A 11 b ≤ 4 := (hI 11 b).2
  have r3 : A 16 b ≤ 3 := (hI 16 b).2
  exact ⟨by omega, by omega, by omega, by omega⟩
theorem ACT.st {b : Nat} {A T : St} (h : ACT b A T) : NB b A T ∧ MDr b A T ∧ MLs b A T := by
  obtain ⟨_, ⟨_, _, _, nb, dr, ls, _⟩, _⟩ := h
  exact ⟨nb, dr, ls⟩
/-- doors that stand shut, doors that are dead: how many -/
theorem cnt_D {t : Nat} {B : St} {m : Int} {P : Nat → Prop} (h1 : 0 ≤ B (t + 1) 1) (h10 : B (t + 1) 1 ≤ 10) (hm : 0 ≤ m ∧ m < 1024) (hq : ∀ d, d < 10 → (m.toNat.testBit d = true ↔ P d)) (hP : ∀ d, d < 10 → P d → (d : Int) < B (t + 1) 1) : cd (fun k => m.toNat.testBit k) 10 = cd (fun k => m.toNat.testBit k) (B (t + 1) 1).toNat := by
  have z : ∀ k, (B (t + 1) 1).toNat ≤ k → k < (B (t + 1) 1).toNat + (10 - (B (t + 1) 1).toNat) → (fun k => m.toNat.testBit k) k = false := by
    intro k g1 g2
    show m.toNat.testBit k = false
    cases hc : m.toNat.testBit k with
    | false => rfl
    | true =>
      have := hP k (by omega) ((hq k (by omega)).mp hc)
      omega
  have e := cd_more (p := fun k => m.toNat.testBit k) (n := (B (t + 1) 1).toNat) (10 - (B (t + 1) 1).toNat) z
  rw [show (B (t + 1) 1).toNat + (10 - (B (t + 1) 1).toNat) = 10 by omega] at e
  exact e
theorem shT_lt {b : Nat} {A T : St} (h : ACT b A T) {d : Nat} (g : shT T d) : (d : Int) < T 1 1 := by
  by_cases c : (d : Int) < T 1 1
  · exact c
  · exfalso
    rcases g with g | ⟨k, a1, i, a2, a3⟩
    · have := h.st.2.2.2.2 d (by omega)
      rw [this] at g
      exact absurd g Bool.false_ne_true
    · have := (h.2.2.2.2.2.2.2.1 k a1).2.1 i a2
      omega
theorem closed_eq {t b : Nat} {B A : St} {m z1 z2 : Int} (hI : IM A) (h : ACT b A (tw t B)) (hm : q_X9_shutMask t B m) (h1 : q_J6_bitCount_0f7a4 m B z1) (h2 : q_X12_closedAll A z2) : z1 = z2 := by
  obtain ⟨l0, l1, l2, l3⟩ := h.lim hI
  have l1 : B (t + 1) 1 ≤ 10 := l1
  have l2 : B (t + 1) 2 ≤ 4 := l2
  have hv := h.2.2.2.2
  have hv0 : 0 ≤ B (t + 1) 1 := hv.1.2.1
  have ls := h.st.2.2
  obtain ⟨q1, q2⟩ := K_shutMask (hv.rb l1) l2 ls.1 hm
  have e : m = ((m.toNat : Nat) : Int) := by omega
  rw [e] at h1
  have k1 := K_bits (by omega) h1
  obtain ⟨nn, hc⟩ := (h2.1 : tr_r_X12_closedAll A z2)
  have r := M_closedAllL (p := fun k => m.toNat.testBit k) h.1 h.cnt.2.1 l1 h.cnt.2.2.1 h.2.2.1 ls (fun k hk => q2 k (by have hk : (k : Int) < B (t + 1) 1 := hk; omega)) nn 0 0 rfl hv0 hc
  have r : z2 = cd (fun k => m.toNat.testBit k) (B (t + 1) 1).toNat := r
  have c := cnt_D hv0 l1 q1 q2 (fun d _ g => shT_lt h g)
  rw [k1, r, c]
/-- what is there -/
theorem K_there1 {t : Nat} {x z : Int} {B : St} (h : q_X9_isThere_1_1 t x B z) : (z = 1 ↔ 0 ≤ x ∧ x < B (t + 1) 1) ∧ (z = 0 ∨ z = 1) := by
  rcases (h.1 : tr_r_X9_isThere_1_1 t x B z) with ⟨c, e⟩ | ⟨c, z4, e4, h⟩
  · omega
  · have e4 : z4 = B (t + 1) 1 := e4
    rcases h with ⟨c2, e⟩ | ⟨c2, e⟩ <;> omega
theorem K_there2 {t : Nat} {x z : Int} {B : St} (h : q_X9_isThere_1_2 t x B z) : (z = 1 ↔ 0 ≤ x ∧ x < B (t + 1) 2) ∧ (z = 0 ∨ z = 1) := by
  rcases (h.1 : tr_r_X9_isThere_1_2 t x B z) with ⟨c, e⟩ | ⟨c, z4, e4, h⟩
  · omega
  · have e4 : z4 = B (t + 1) 2 := e4
    rcases h with ⟨c2, e⟩ | ⟨c2, e⟩ <;> omega
theorem K_there3 {t : Nat} {x z : Int} {B : St} (h : q_X9_isThere_1_3 t x B z) : (z = 1 ↔ 0 ≤ x ∧ x < B (t + 1) 3) ∧ (z = 0 ∨ z = 1) := by
  rcases (h.1 : tr_r_X9_isThere_1_3 t x B z) with ⟨c, e⟩ | ⟨c, z4, e4, h⟩
  · omega
  · have e4 : z4 = B (t + 1) 3 := e4
    rcases h with ⟨c2, e⟩ | ⟨c2, e⟩ <;> omega
theorem M_isDoor {b : Nat} {x z : Int} {A T : St} (hI : IM A) (hA : ACT b A T) (h : q_X12_isDoor x A z) : (z = 1 ↔ 0 ≤ x ∧ x < T 1 1) ∧ (z = 0 ∨ z = 1) := by
  have q := h.2
  have l := hA.lim hI
  rw [hA.1, Int.toNat_natCast, hA.cnt.2.1] at q
  omega
theorem M_isKey {b : Nat} {x z : Int} {A T : St} (hI : IM A) (hA : ACT b A T) (h : q_X12_isKey x A z) : (z = 1 ↔ 0 ≤ x ∧ x < T 1 2) ∧ (z = 0 ∨ z = 1) := by
  have q := h.2
  have l := hA.lim hI
  rw [hA.1, Int.toNat_natCast, hA.cnt.2.2.1] at q
  omega
theorem M_isPerson {b : Nat} {x z : Int} {A T : St} (hI : IM A) (hA : ACT b A T) (h : q_X12_isPerson x A z) : (z = 1 ↔ 0 ≤ x ∧ x < T 1 3) ∧ (z = 0 ∨ z = 1) := by
  have q := h.2
  have l := hA.lim hI
  rw [hA.1, Int.toNat_natCast, hA.cnt.2.2.2] at q
  omega
theorem M_isPlace {b : Nat} {x z : Int} {A T : St} (hI : IM A) (hA : ACT b A T) (h : q_X12_isPlace x A z) : (z = 1 ↔ 0 ≤ x ∧ x < T 1 0) ∧ (z = 0 ∨ z = 1) := by
  have q := h.2
  have l := hA.lim hI
  rw [hA.1, Int.toNat_natCast, hA.cnt.1] at q
  omega
theorem K_isBox {t : Nat} {x z : Int} {B : St} (h : q_X9_isBox t x B z) : (z = 1 ↔ 0 ≤ x ∧ x < B (t + 1) 1 ∧ B (t + 10) x.toNat = 0) ∧ (z = 0 ∨ z = 1) := by
  rcases (h.1 : tr_r_X9_isBox t x B z) with ⟨c, e⟩ | ⟨c, z2, e2, h⟩
  · omega
  · have e2 : z2 = B (t + 1) 1 := e2
    rcases h with ⟨c2, e⟩ | ⟨c2, z4, e4, h⟩
    · omega
    · rcases h with ⟨c3, e⟩ | ⟨c3, e⟩ <;> omega
theorem K_isAt {t : Nat} {x p z : Int} {B : St} (h : q_X9_isAt t x p B z) : (z = 1 ↔ 0 ≤ x ∧ x < B (t + 1) 1 ∧ (B (t + 8) x.toNat = p ∨ B (t + 9) x.toNat = p)) ∧ (z = 0 ∨ z = 1) := by
  rcases (h.1 : tr_r_X9_isAt t x p B z) with ⟨c, e⟩ | ⟨c, z2, e2, h⟩
  · omega
  · have e2 : z2 = B (t + 1) 1 := e2
    rcases h with ⟨c2, e⟩ | ⟨c2, z4, e4, h⟩
    · omega
    · rcases h with ⟨c3, e⟩ | ⟨c3, z6, e6, h⟩
      · omega
      · rcases h with ⟨c4, e⟩ | ⟨c4, e⟩ <;> omega
theorem K_other {t d : Nat} {p z : Int} {B : St} (hd : (d : Int) < B (t + 1) 1) (h : q_X9_otherSide t (d : Int) p B z) : z = if B (t + 8) d = p then B (t + 9) d else B (t + 8) d := by
  obtain ⟨z1, h1, h⟩ := (h.1 : tr_r_X9_otherSide t (d : Int) p B z)
  have k := K_there1 h1
  rcases h with ⟨_, z5, e5, h⟩ | ⟨c, _⟩
  · rw [Int.toNat_natCast] at e5
    rcases h with ⟨c, hz⟩ | ⟨c, z8, e8, hz⟩
    · rw [if_neg (by rw [← e5]; exact c), hz, e5]
    · rw [Int.toNat_natCast] at e8
      rw [if_pos (by rw [← e5]; exact c), hz, e8]
  · omega
theorem M_isAt {b d : Nat} {p z : Int} {A T : St} (hA : ACT b A T) (hd : (d : Int) < T 1 1) (h : q_X12_isAt p (d : Int) A z) : (z = 1 ↔ T 8 d = p ∨ T 9 d = p) ∧ (z = 0 ∨ z = 1) := by
  have dr := hA.st.2.1 d hd
  obtain ⟨_, _, z4, e4, h⟩ := (h.1 : tr_r_X12_isAt p (d : Int) A z)
  rw [hA.1, show (10 * (b : Int) + (d : Int)).toNat = 10 * b + d by omega, dr.1] at e4
  rcases h with ⟨c, e⟩ | ⟨c, _, _, z9, e9, h⟩
  · omega
  · rw [hA.1, show (10 * (b : Int) + (d : Int)).toNat = 10 * b + d by omega, dr.2.1] at e9
    rcases h with ⟨c2, e⟩ | ⟨c2, e⟩ <;> omega
theorem M_other {b d : Nat} {p z : Int} {A T : St} (hb : A 0 12 = (b : Int)) (hD : MDr b A T) (hd : (d : Int) < T 1 1) (h : q_X12_otherSide (d : Int) p A z) : z = if T 8 d = p then T 9 d else T 8 d := by
  have dr := hD d hd
  obtain ⟨_, _, z4, e4, h⟩ := (h.1 : tr_r_X12_otherSide (d : Int) p A z)
  rw [hb, show (10 * (b : Int) + (d : Int)).toNat = 10 * b + d by omega, dr.1] at e4
  rcases h with ⟨c, _, _, z9, e9, hz⟩ | ⟨c, _, _, z13, e13, hz⟩
  · rw [hb, show (10 * (b : Int) + (d : Int)).toNat = 10 * b + d by omega, dr.1] at e9
    rw [if_neg (by rw [← e4]; exact c), hz, e9]
  · rw [hb, show (10 * (b : Int) + (d : Int)).toNat = 10 * b + d by omega, dr.2.1] at e13
    rw [if_pos (by rw [← e4]; exact c), hz, e13]
theorem M_spotOf {b p : Nat} {z : Int} {A T : St} (hb : A 0 12 = (b : Int)) (hP : MPr b A T) (hp : (p : Int) < T 1 3) (h : q_X12_placeOf (p : Int) A z) : z = T 23 p := by
  obtain ⟨z1, e1, hz⟩ := (h.1 : tr_r_X12_placeOf (p : Int) A z)
  rw [hb, show (3 * (b : Int) + (p : Int)).toNat = 3 * b + p by omega, hP p hp] at e1
  rw [hz, e1]
/-- a person goes -/
theorem VT_spot {T : St} {q : Nat} {a : Int} (h : VT T) (ha : 0 ≤ a ∧ a < T 1 0) : VT (stA T 23 q a) := by
  have g : GR T (stA T 23 q a) := GR.rf
  refine ⟨h.1, h.2.1, fun k hk => ?_, fun k hk => (h.2.2.2.1 k hk).gr g rfl rfl (stA_ne _ _ (by omega)), h.2.2.2.2.1, fun k hk => (h.2.2.2.2.2 k hk).gr g⟩
  show 0 ≤ up (T 23) q a k ∧ up (T 23) q a k < T 1 0
  by_cases e : k = q
  · rw [e, up_same]; exact ha
  · rw [up_ne _ _ e]; exact h.2.2.1 k hk
theorem AC_spot {b p : Nat} {A T : St} {v : Int} (h : AC b A T) (hv : 0 ≤ v ∧ v < T 1 0) : AC b (stA A 18 (3 * b + p) v) (stA T 23 p v) := by
  refine ⟨h.1.cg rfl rfl rfl rfl rfl rfl (fun k => stA_ne _ _ (by omega)), fun k hk => ?_, VT_spot h.2.2 hv⟩
  show up (A 18) (3 * b + p) v (3 * b + k) = up (T 23) p v k
  by_cases e : k = p
  · rw [e, up_same, up_same]
  · rw [up_ne _ _ e, up_ne _ _ (by omega)]
    exact h.2.1 k hk
theorem AC_where {b q : Nat} {A T : St} {v : Int} (h : AC b A T) (hv : WV T v) : AC b (stA A 13 (4 * b + q) v) (stA T 24 q v) := by
  refine ⟨⟨fun k hk => ?_, h.1.2⟩, h.2.1, VT_where h.2.2 hv⟩
  have e27 : stA T 24 q v (27 + k) = T (27 + k) := stA_ne _ _ (by omega)
  rw [e27]
  have x := h.1.1 k hk
  refine ⟨?_, x.2.1, x.2.2⟩
  show up (A 13) (4 * b + q) v (4 * b + k) = up (T 24) q v k
  by_cases e : k = q
  · rw [e, up_same, up_same]
  · rw [up_ne _ _ e, up_ne _ _ (by omega)]
    exact x.1
theorem AC_pop {b q : Nat} {A T : St} {v : Int} (h : AC b A T) (hq : (q : Int) < T 1 2) (hv : 0 ≤ v ∧ v ≤ T 25 q) : AC b (stA A 14 (4 * b + q) v) (stA T 25 q v) := by
  have e27 : ∀ k, stA T 25 q v (27 + k) = T (27 + k) := fun k => stA_ne _ _ (by omega)
  have g : GR T (stA T 25 q v) := GR.rf
  have le : ∀ k, up (T 25) q v k ≤ T 25 k ∧ (k ≠ q → up (T 25) q v k = T 25 k) := by
    intro k
    by_cases e : k = q
    · subst e
      rw [up_same]
      exact ⟨hv.2, fun n => absurd rfl n⟩
    · rw [up_ne _ _ e]
      exact ⟨Int.le_refl _, fun _ => rfl⟩
  refine ⟨⟨fun k hk => ?_, fun k hk h2 => ?_⟩, h.2.1, ⟨h.2.2.1, h.2.2.2.1, h.2.2.2.2.1, fun k hk => ?_, fun k hk h2 => ?_, h.2.2.2.2.2.2.2⟩⟩
  · have x := h.1.1 k hk
    rw [e27]
    refine ⟨x.1, ?_, fun i hi => x.2.2 i ?_⟩
    · show up (A 14) (4 * b + q) v (4 * b + k) = up (T 25) q v k
      by_cases e : k = q
      · rw [e, up_same, up_same]
      · rw [up_ne _ _ e, up_ne _ _ (by omega)]
        exact x.2.1
    · have hi : (i : Int) < up (T 25) q v k := hi
      have := (le k).1
      omega
  · have h2 : T 1 2 ≤ (k : Int) := h2
    show up (T 25) q v k = 0
    rw [(le k).2 (by omega)]
    exact h.1.2 k hk h2
  · obtain ⟨x1, x2, x3, x4⟩ := h.2.2.2.2.2.1 k hk
    have l := (le k).1
    have n := (le k).2
    unfold KV
    rw [e27]
    refine ⟨?_, fun i hi => x2 i ?_, fun i j hij hj => x3 i j hij ?_, x4⟩
    · show 0 ≤ up (T 25) q v k ∧ up (T 25) q v k ≤ 6
      by_cases e : k = q
      · subst e
        rw [up_same]
        omega
      · rw [n e]
        exact x1
    · have hi : (i : Int) < up (T 25) q v k := hi
      omega
    · have hj : (j : Int) < up (T 25) q v k := hj
      omega
  · have h2 : T 1 2 ≤ (k : Int) := h2
    show up (T 25) q v k = 0
    rw [(le k).2 (by omega)]
    exact h.1.2 k hk h2
theorem AC_push {b q n : Nat} {A T : St} {d : Int} (h : AC b A T) (hq : (q : Int) < T 1 2) (hn : T 25 q = (n : Int)) (h6 : n < 6) (hd : 0 ≤ d ∧ d < T 1 1) (hu : ∀ i : Nat, i < n → T (27 + q) i ≠ d) : AC b (stA (stA A 15 (40 * b + 10 * q + n) d) 14 (4 * b + q) ((n : Int) + 1)) (stA (stA T (27 + q) n d) 25 q ((n : Int) + 1)) := by
  refine ⟨⟨fun k hk => ?_, fun k hk h2 => ?_⟩, fun k hk => ?_, VT_push h.2.2 hq hn h6 hd hu⟩
  · have hk : (k : Int) < T 1 2 := by
      have e : stA (stA T (27 + q) n d) 25 q ((n : Int) + 1) 1 = T 1 := by rw [stA_ne _ _ (by omega), stA_ne _ _ (by omega)]
      rw [e] at hk
      exact hk
    have x := h.1.1 k hk
    have t24 : stA (stA T (27 + q) n d) 25 q ((n : Int) + 1) 24 = T 24 := by rw [stA_ne _ _ (by omega), stA_ne _ _ (by omega)]
    have t25 : stA (stA T (27 + q) n d) 25 q ((n : Int) + 1) 25 = up (T 25) q ((n : Int) + 1) := by rw [stA_same, stA_ne _ _ (by omega)]
    have a13 : stA (stA A 15 (40 * b + 10 * q + n) d) 14 (4 * b + q) ((n : Int) + 1) 13 = A 13 := rfl
    have a14 : stA (stA A 15 (40 * b + 10 * q + n) d) 14 (4 * b + q) ((n : Int) + 1) 14 = up (A 14) (4 * b + q) ((n : Int) + 1) := rfl
    have a15 : stA (stA A 15 (40 * b + 10 * q + n) d) 14 (4 * b + q) ((n : Int) + 1) 15 = up (A 15) (40 * b + 10 * q + n) d := rfl
    rw [t24, t25, a13, a14, a15]
    by_cases e : k = q
    · subst e
      have t27 : stA (stA T (27 + k) n d) 25 k ((n : Int) + 1) (27 + k) = up (T (27 + k)) n d := by rw [stA_ne _ _ (by omega), stA_same]
      rw [t27, up_same, up_same]
      refine ⟨x.1, rfl, fun i hi => ?_⟩
      by_cases e2 : i = n
      · rw [e2, up_same, up_same]
      · rw [up_ne _ _ e2, up_ne _ _ (by omega)]
        exact x.2.2 i (by omega)
    · have t27 : stA (stA T (27 + q) n d) 25 q ((n : Int) + 1) (27 + k) = T (27 + k) := by rw [stA_ne _ _ (by omega), stA_ne _ _ (by omega)]
      have k6 := (h.2.2.2.2.2.1 k hk).1
      rw [t27, up_ne _ _ e, up_ne _ _ (by omega)]
      refine ⟨x.1, x.2.1, fun i hi => ?_⟩
      rw [up_ne _ _ (by omega)]
      exact x.2.2 i hi
  · have e1 : stA (stA T (27 + q) n d) 25 q ((n : Int) + 1) 1 = T 1 := by rw [stA_ne _ _ (by omega), stA_ne _ _ (by omega)]
    have t25 : stA (stA T (27 + q) n d) 25 q ((n : Int) + 1) 25 = up (T 25) q ((n : Int) + 1) := by rw [stA_same, stA_ne _ _ (by omega)]
    rw [e1] at h2
    rw [t25, up_ne _ _ (by omega)]
    exact h.1.2 k hk h2
  · have e1 : stA (stA T (27 + q) n d) 25 q ((n : Int) + 1) 1 = T 1 := by rw [stA_ne _ _ (by omega), stA_ne _ _ (by omega)]
    have t23 : stA (stA T (27 + q) n d) 25 q ((n : Int) + 1) 23 = T 23 := by rw [stA_ne _ _ (by omega), stA_ne _ _ (by omega)]
    rw [e1] at hk
    rw [t23]
    exact h.2.1 k hk
/-! The calls that act: the same answer, the same change. -/
theorem go_no {A u : St} {z : Int} (h : d_X12_go_2 z u (-1) A) : z = -1 ∧ sM A u := by
  obtain ⟨_, _, h⟩ := (h : tr_d_X12_go_2 z u (-1) A)
  rcases h with ⟨c, -⟩ | ⟨_, z23, A24, hr, hz, hu⟩
  · exact absurd rfl c
  · rw [hz, hu]
    exact ⟨hr.2.2.2, sM.fr hr.2.2.1 rfl rfl rfl rfl⟩
theorem gone_eq {t b p d : Nat} {B A u1 A12 : St} {z1 y11 : Int} (hT : isT t) (hI : IM A) (h : ACT b A (tw t B)) (hC : MBc b A (tw t B)) (hp : (p : Int) < B (t + 1) 3) (hd : (d : Int) < B (t + 1) 1) (h1 : q_X9_goThrough t (p : Int) (d : Int) B z1 u1) (hg : q_X12_gone (p : Int) (d : Int) A y11 A12) : z1 = y11 ∧ AC b A12 (tw t u1) := by
  obtain ⟨l0, l1, l2, l3⟩ := h.lim hI
  have l0 : B (t + 1) 0 ≤ 8 := l0
  have l1 : B (t + 1) 1 ≤ 10 := l1
  have l2 : B (t + 1) 2 ≤ 4 := l2
  have l3 : B (t + 1) 3 ≤ 3 := l3
  have hv := h.2.2.2.2
  have rb := hv.rb l1
  obtain ⟨nb, dr, ls⟩ := h.st
  have h15 : 0 ≤ B t 15 ∧ B t 15 < 1024 := ls.1
  have no : ∀ A', sM A A' → sT (tw t B) (tw t u1) → z1 = -1 → y11 = -1 → A12 = A' → z1 = y11 ∧ AC b A12 (tw t u1) := fun A' g1 g2 g3 g4 g5 => ⟨g3.trans g4.symm, by rw [g5]; exact h.2.2.cg l2 g2 g1⟩
  obtain ⟨a3, ha3, h1⟩ := (h1.1 : tr_r_X9_goThrough t (p : Int) (d : Int) B z1 u1)
  have k3 := K_there3 ha3
  rcases h1 with ⟨c, -⟩ | ⟨c, a5, ha5, h1⟩
  · omega
  have k1 := K_there1 ha5
  rcases h1 with ⟨c4, -⟩ | ⟨c4, a9, ha9, h1⟩
  · omega
  have kb := K_isBox ha9
  rw [Int.toNat_natCast] at kb
  have nbd : A 8 (10 * b + d) = 0 ↔ B (t + 10) d ≠ 0 := nb d hd
  obtain ⟨s, hs, _, _, w7, e7, hg'⟩ := (hg.1 : tr_r_X12_gone (p : Int) (d : Int) A y11 A12)
  have es : s = B (t + 23) p := M_spotOf h.1 h.2.2.2.1 hp hs
  have bs : 0 ≤ s ∧ s ≤ 7 := hs.2
  rw [h.1, show (10 * (b : Int) + (d : Int)).toNat = 10 * b + d by omega] at e7
  rcases h1 with ⟨c5, a13, e13, a14, h14, a17, h17, h1⟩ | ⟨c5, hz, hu⟩
  case inr =>
    rcases hg' with ⟨_, hz2, hu2⟩ | ⟨c6, -⟩
    · exact no A sM.rf (by rw [hu]; exact sT.rf) hz hz2 hu2
    · exact absurd (nbd.mp (by omega)) (by omega)
  rcases hg' with ⟨c6, -⟩ | ⟨_, y9, hy9, hg'⟩
  · exact absurd (nbd.mpr (by (first | omega | (clear h1; omega) | (clear h2; omega) | (clear hg'; omega) | (clear h1 h2; omega) | (clear h1 hg'; omega)))) (by omega)
  rw [Int.toNat_natCast] at e13
  have e13 : a13 = B (t + 23) p := e13
  rw [← es] at e13
  subst e13
  have k17 := K_isAt h17
  rw [Int.toNat_natCast] at k17
  have m9 : (y9 = 1 ↔ B (t + 8) d = a13 ∨ B (t + 9) d = a13) ∧ (y9 = 0 ∨ y9 = 1) := M_isAt h hd hy9
  rcases h1 with ⟨c7, hz, hu⟩ | ⟨c7, a21, e21, a22, e22, h1⟩
  · rcases hg' with ⟨_, hz2, hu2⟩ | ⟨c8, -⟩
    · exact no A sM.rf (by rw [hu]; exact sT.rf) hz hz2 hu2
    · omega
  rcases hg' with ⟨c8, -⟩ | ⟨_, y13, hy13, hg'⟩
  · (first | omega | (clear h1; omega) | (clear h2; omega) | (clear hg'; omega) | (clear h1 h2; omega) | (clear h1 hg'; omega))
  obtain ⟨q1, q2⟩ := K_shutMask rb l2 h15 h14
  have m13 := M_isShut h.1 h.cnt.2.2.1 h.2.2.1 hd ls hy13
  have bi := bit_iff (d := d) q1 (by omega)
  rw [← e21, ← e22] at bi
  have q2d := q2 d (by omega)
  rcases h1 with ⟨c9, a24, h24, a27, h27, a30, h30, a33, A34, h33, h1⟩ | ⟨c9, hz, hu⟩
  case inr =>
    rcases hg' with ⟨_, hz2, hu2⟩ | ⟨c10, -⟩
    · exact no A sM.rf (by rw [hu]; exact sT.rf) hz hz2 hu2
    · exfalso
      have : a14.toNat.testBit d = true := by
        cases hc : a14.toNat.testBit d with
        | true => rfl
        | false => exact absurd (bi.mpr hc) c9
      have := m13.1.mpr (q2d.mp this)
      omega
  rcases hg' with ⟨c10, -⟩ | ⟨_, y17, hy17, y20, hy20, y23, hy23, y26, A27, hy26, hg'⟩
  · exfalso
    have e := q2d.mpr (m13.1.mp (by (first | omega | (clear h1; omega) | (clear h2; omega) | (clear hg'; omega) | (clear h1 h2; omega) | (clear h1 hg'; omega))))
    rw [bi.mp c9] at e
    exact absurd e Bool.false_ne_true
  have kk := K_keysOf l2 h24
  have mk := M_keysOf h.1 h.cnt.2.2.1 l2 h.2.2.1 hy17
  have ek : a24 = y17 := same_bits kk.1.1 mk.1.1 (fun d => (kk.2 d).trans (mk.2 d).symm)
  have eheld : a27 = cd (fun k => a24.toNat.testBit k) 10 := by
    have e : a24 = ((a24.toNat : Nat) : Int) := by have := kk.1; omega
    rw [e] at h27
    have := K_bits (by have := kk.1; omega) h27
    exact this
  have eheld2 : y20 = cd (fun k => a24.toNat.testBit k) 10 := by
    have e : y17 = ((a24.toNat : Nat) : Int) := by have := kk.1; omega
    rw [e] at hy20
    exact M_bits (by have := kk.1; omega) hy20
  have ecl : a30 = y23 := closed_eq hI h h14 h30 hy23
  rw [eheld2, ← eheld] at hy26
  rw [← ecl] at hy26
  have cbh := cd_b (p := fun k => a24.toNat.testBit k) 10
  have cbc : 0 ≤ a30 ∧ a30 ≤ 10 := by
    have e : a14 = ((a14.toNat : Nat) : Int) := by omega
    rw [e] at h30
    rw [K_bits (by omega) h30]
    exact cd_b 10
  rw [← eheld] at cbh
  have bars : ∀ k : Nat, (k : Int) < B (t + 1) 7 → A 30 (6 * b + k) = B (t + 16) k := by
    obtain ⟨_, ⟨_, _, _, _, _, _, _, _, _, mb⟩, _⟩ := h
    exact mb
  have c7' : A 29 b = B (t + 1) 7 := by
    obtain ⟨_, ⟨_, mc, _⟩, _⟩ := h
    exact mc.2.2
  have eb := barred_eq hT c7' h.1 bars hC ⟨⟨by omega, by omega⟩, ⟨by omega, by omega⟩, ⟨by omega, by omega⟩, by omega, by omega⟩ h33 hy26
  have g34 : sT (tw t B) (tw t A34) := sT.fk hT h33.2.2.1 rfl rfl
  have g27 : sM A A27 := sM.fr hy26.2.2.1 rfl rfl rfl rfl
  rcases h1 with ⟨c11, a38, h38, A41, e41, hz, hu⟩ | ⟨c11, hz, hu⟩
  · rcases hg' with ⟨_, y32, hy32, A35, e35, y36, hy36, hz2, hu2⟩ | ⟨c12, -⟩
    · have r1 : A34 (t + 1) = B (t + 1) := g34 1 rfl
      have r8 : A34 (t + 8) = B (t + 8) := g34 8 rfl
      have r9 : A34 (t + 9) = B (t + 9) := g34 9 rfl
      have o1 := K_other (by rw [r1]; exact hd) h38
      rw [r8, r9] at o1
      have b27 : A27 0 12 = (b : Int) := (hy26.2.2.1.2 12 rfl).trans h.1
      have dr27 : MDr b A27 (tw t B) := by
        intro k hk
        rw [hy26.2.2.1.1 6 (by decide) rfl, hy26.2.2.1.1 7 (by decide) rfl, hy26.2.2.1.1 9 (by decide) rfl]
        exact dr k hk
      have o2 : y32 = if B (t + 8) d = a13 then B (t + 9) d else B (t + 8) d := M_other b27 dr27 hd hy32
      have o3 : y32 = a38 := o2.trans o1.symm
      have dv := hv.2.1 d hd
      have dv8 : 0 ≤ B (t + 8) d ∧ B (t + 8) d < B (t + 1) 0 := dv.1
      have dv9 : 0 ≤ B (t + 9) d ∧ B (t + 9) d < B (t + 1) 0 := dv.2.1
      have bv : 0 ≤ a38 ∧ a38 < B (t + 1) 0 := by
        rw [o1]
        split
        · exact dv9
        · exact dv8
      have e35 : A35 = stA A27 18 (3 * b + p) a38 := by
        rw [e35, h.1, show (3 * (b : Int) + (p : Int)).toNat = 3 * b + p by omega, o3]
      have b35 : A35 0 12 = (b : Int) := by rw [e35]; exact b27
      obtain ⟨y37, e37, hy36⟩ := (hy36.1 : tr_r_X12_placeOf (p : Int) A35 y36)
      rw [b35, show (3 * (b : Int) + (p : Int)).toNat = 3 * b + p by omega, e35, stA_same, up_same] at e37
      rw [Int.toNat_natCast] at e41
      have e41 : A41 = stA A34 (t + 23) p a38 := e41
      refine ⟨by rw [hz, hz2, hy36, e37], ?_⟩
      rw [hu2, hu, e35, e41, tw_st]
      have ac : AC b A27 (tw t A34) := h.2.2.cg l2 g34 g27
      refine AC_spot ac ?_
      show 0 ≤ a38 ∧ a38 < A34 (t + 1) 0
      rw [r1]
      exact bv
    · omega
  · rcases hg' with ⟨c12, -⟩ | ⟨_, hz2, hu2⟩
    · omega
    · exact no A27 g27 (by rw [hu]; exact g34) hz hz2 hu2
theorem go_eq {t b : Nat} {B A u1 u2 : St} {x1 x2 z1 z2 : Int} (hT : isT t) (hI : IM A) (h : ACT b A (tw t B)) (hC : MBc b A (tw t B)) (qq1 : q_X9_goThrough t x1 x2 B z1 u1) (qq2 : q_X12_go x1 x2 A z2 u2) : z1 = z2 ∧ AC b u2 (tw t u1) := by
  have l2 : B (t + 1) 2 ≤ 4 := (h.lim hI).2.2.1
  have q1 := qq1
  have no : sT (tw t B) (tw t u1) → z1 = -1 → d_X12_go_2 z2 u2 (-1) A → z1 = z2 ∧ AC b u2 (tw t u1) := fun g2 g3 g4 => ⟨g3.trans (go_no g4).1.symm, h.2.2.cg l2 g2 (go_no g4).2⟩
  obtain ⟨a3, ha3, h1⟩ := (qq1.1 : tr_r_X9_goThrough t x1 x2 B z1 u1)
  obtain ⟨y1, hy1, h2⟩ := (qq2.1 : tr_r_X12_go x1 x2 A z2 u2)
  have k3 := K_there3 ha3
  have m3 : (y1 = 1 ↔ 0 ≤ x1 ∧ x1 < B (t + 1) 3) ∧ (y1 = 0 ∨ y1 = 1) := M_isPerson hI h hy1
  rcases h1 with ⟨c, hz, hu⟩ | ⟨c, a5, ha5, h1⟩
  · rcases h2 with ⟨_, h2⟩ | ⟨c2, -⟩
    · exact no (by rw [hu]; exact sT.rf) hz h2
    · omega
  rcases h2 with ⟨c2, -⟩ | ⟨_, y7, hy7, h2⟩
  · (first | omega | (clear h1; omega) | (clear h2; omega) | (clear hg'; omega) | (clear h1 h2; omega) | (clear h1 hg'; omega))
  have k1 := K_there1 ha5
  have m1 : (y7 = 1 ↔ 0 ≤ x2 ∧ x2 < B (t + 1) 1) ∧ (y7 = 0 ∨ y7 = 1) := M_isDoor hI h hy7
  rcases h1 with ⟨c4, hz, hu⟩ | ⟨c4, -⟩
  · rcases h2 with ⟨_, h2⟩ | ⟨c2, -⟩
    · exact no (by rw [hu]; exact sT.rf) hz h2
    · omega
  rcases h2 with ⟨c2, -⟩ | ⟨_, y11, A12, hg, h2⟩
  · omega
  obtain ⟨p, rfl⟩ : ∃ p : Nat, x1 = (p : Int) := ⟨x1.toNat, by omega⟩
  obtain ⟨d, rfl⟩ : ∃ d : Nat, x2 = (d : Int) := ⟨x2.toNat, by omega⟩
  obtain ⟨e, ac⟩ := gone_eq hT hI h hC (by omega) (by omega) q1 hg
  have s1 : tw t u1 1 2 ≤ 4 := by
    have r1 : u1 (t + 1) 2 = B (t + 1) 2 := by
      rcases hT with e0 | e0
      · rw [e0]; exact q1.2.2.1 52 2 rfl rfl
      · rw [e0]; exact q1.2.2.1 83 2 rfl rfl
    show u1 (t + 1) 2 ≤ 4
    rw [r1]
    exact l2
  obtain ⟨_, _, h2⟩ := (h2 : tr_d_X12_go_2 z2 u2 y11 A12)
  rcases h2 with ⟨_, hz3, hu3⟩ | ⟨c13, y23, A24, hr, hz3, hu3⟩
  · rw [hu3]
    exact ⟨e.trans hz3.symm, ac⟩
  · rw [hu3]
    exact ⟨by rw [e, c13, hz3, hr.2.2.2], ac.cg s1 sT.rf (sM.fr hr.2.2.1 rfl rfl rfl rfl)⟩
/-- to have a key -/
theorem K_holds {t : Nat} {x k z : Int} {B : St} (h : q_X9_holdsKey t x k B z) : (z = 1 ↔ (0 ≤ x ∧ x < B (t + 1) 3) ∧ (0 ≤ k ∧ k < B (t + 1) 2) ∧ B (t + 24) k.toNat = x) ∧ (z = 0 ∨ z = 1) := by
  obtain ⟨a1, h1, h⟩ := (h.1 : tr_r_X9_holdsKey t x k B z)
  have k1 := K_there3 h1
  rcases h with ⟨c, e⟩ | ⟨c, a5, h5, h⟩
  · omega
  · have k5 := K_there2 h5
    rcases h with ⟨c2, e⟩ | ⟨c2, a9, e9, h⟩
    · omega
    · have e9 : a9 = B (t + 24) k.toNat := e9
      rcases h with ⟨c3, e⟩ | ⟨c3, e⟩ <;> omega
theorem K_keyTop {t k : Nat} {z : Int} {B : St} (hk : k < 4) (h0 : 0 ≤ B (t + 25) k) (h : q_X6_topOf (t + 22) (k : Int) B z) : (B (t + 25) k = 0 ∧ z = -1) ∨ (0 < B (t + 25) k ∧ z = B (t + (27 + k)) (B (t + 25) k - 1).toNat) := by
  rcases (h.1 : tr_r_X6_topOf (t + 22) (k : Int) B z) with ⟨c, -⟩ | ⟨_, h⟩
  · omega
  rcases h with ⟨c, -⟩ | ⟨_, a3, e3, a4, h4, hz⟩
  · omega
  rw [Int.toNat_natCast] at e3
  have e3 : a3 = B (t + 25) k := e3
  by_cases c : B (t + 25) k = 0
  · refine Or.inl ⟨c, ?_⟩
    rcases (h4.1 : tr_r_X6_inRow (t + 22) (k : Int) (a3 - 1) B a4) with ⟨c1, e⟩ | ⟨_, h⟩
    · rw [hz, e]
    rcases h with ⟨_, e⟩ | ⟨_, h⟩
    · rw [hz, e]
    rcases h with ⟨_, e⟩ | ⟨c3, -⟩
    · rw [hz, e]
    · omega
  · obtain ⟨n, en⟩ : ∃ n : Nat, a3 - 1 = (n : Int) := ⟨(a3 - 1).toNat, by omega⟩
    rw [en] at h4
    rcases K_inRow hk h4 with ⟨g1, g2⟩ | ⟨g1, _⟩
    · exact Or.inr ⟨by omega, by rw [hz, g2, show (B (t + 25) k - 1).toNat = n by omega]⟩
    · omega
theorem M_top {b k : Nat} {z : Int} {A T : St} (hb : A 0 12 = (b : Int)) (hK : MKy b A T) (hk : (k : Int) < T 1 2) (h0 : 0 ≤ T 25 k) (h : q_X12_topOf (k : Int) A z) : (T 25 k = 0 ∧ z = -1) ∨ (0 < T 25 k ∧ z = T (27 + k) (T 25 k - 1).toNat) := by
  have x := hK.1 k hk
  obtain ⟨_, _, z4, e4, h⟩ := (h.1 : tr_r_X12_topOf (k : Int) A z)
  rw [hb, show (4 * (b : Int) + (k : Int)).toNat = 4 * b + k by omega, x.2.1] at e4
  rcases h with ⟨c, _, _, _, _, z12, e12, z13, e13, hz⟩ | ⟨c, hz⟩
  · rw [hb, show (4 * (b : Int) + (k : Int)).toNat = 4 * b + k by omega, x.2.1] at e12
    rw [hb, show (40 * (b : Int) + 10 * (k : Int) + z12 - 1).toNat = 40 * b + 10 * k + (T 25 k - 1).toNat by omega, x.2.2 _ (by omega)] at e13
    exact Or.inr ⟨by omega, by rw [hz, e13]⟩
  · exact Or.inl ⟨by omega, hz⟩
/-- a key opens -/
theorem open_no {A u : St} {z : Int} (h : d_X12_open_2 z u (-1) A) : z = -1 ∧ sM A u := by
  obtain ⟨_, _, h⟩ := (h : tr_d_X12_open_2 z u (-1) A)
  rcases h with ⟨c, -⟩ | ⟨_, z23, A24, hr, hz, hu⟩
  · exact absurd rfl c
  · rw [hz, hu]
    exact ⟨hr.2.2.2, sM.fr hr.2.2.1 rfl rfl rfl rfl⟩
theorem opened_eq {t b p k : Nat} {B A u1 A12 : St} {z1 y11 : Int} (hI : IM A) (h : ACT b A (tw t B)) (hp : (p : Int) < B (t + 1) 3) (hk : (k : Int) < B (t + 1) 2) (h1 : q_X9_openWith t (p : Int) (k : Int) B z1 u1) (ho : q_X12_opened (p : Int) (k : Int) A y11 A12) : z1 = y11 ∧ AC b A12 (tw t u1) := by
  obtain ⟨l0, l1, l2, l3⟩ := h.lim hI
  have l1 : B (t + 1) 1 ≤ 10 := l1
  have l2 : B (t + 1) 2 ≤ 4 := l2
  have hv := h.2.2.2.2
  have no : ∀ A', sM A A' → sT (tw t B) (tw t u1) → z1 = -1 → y11 = -1 → A12 = A' → z1 = y11 ∧ AC b A12 (tw t u1) := fun A' g1 g2 g3 g4 g5 => ⟨g3.trans g4.symm, by rw [g5]; exact h.2.2.cg l2 g2 g1⟩
  obtain ⟨a1, ha1, h1⟩ := (h1.1 : tr_r_X9_openWith t (p : Int) (k : Int) B z1 u1)
  have kh := K_holds ha1
  rw [Int.toNat_natCast] at kh
  have x := h.2.2.1.1 k hk
  have x13 : A 13 (4 * b + k) = B (t + 24) k := x.1
  have x14 : A 14 (4 * b + k) = B (t + 25) k := x.2.1
  have kv := hv.2.2.2.1 k hk
  have v25 : 0 ≤ B (t + 25) k ∧ B (t + 25) k ≤ 6 := kv.1
  obtain ⟨w1, hw1, _, _, w7, e7, ho⟩ := (ho.1 : tr_r_X12_opened (p : Int) (k : Int) A y11 A12)
  rw [h.1, show (4 * (b : Int) + (k : Int)).toNat = 4 * b + k by omega, x13] at e7
  have mt : (B (t + 25) k = 0 ∧ w1 = -1) ∨ (0 < B (t + 25) k ∧ w1 = B (t + (27 + k)) (B (t + 25) k - 1).toNat) := M_top h.1 h.2.2.1 hk v25.1 hw1
  rcases ho with ⟨c4, hz2, hu2⟩ | ⟨c4, ho⟩
  · rcases h1 with ⟨c, -⟩ | ⟨c, hz, hu⟩
    · omega
    · exact no A sM.rf (by rw [hu]; exact sT.rf) hz hz2 hu2
  rcases h1 with ⟨c, a5, h5, h1⟩ | ⟨c, -⟩
  case inr => (clear ho; omega)
  have kt := K_keyTop (by omega) v25.1 h5
  rcases ho with ⟨c5, hz2, hu2⟩ | ⟨c5, w10, hw10, w13, hw13, ho⟩
  · rcases h1 with ⟨_, hz, hu⟩ | ⟨c6, -⟩
    · exact no A sM.rf (by rw [hu]; exact sT.rf) hz hz2 hu2
    · rcases mt with g | g <;> rcases kt with g2 | g2 <;> omega
  have n0 : 0 < B (t + 25) k := by rcases mt with g | g <;> omega
  have e5 : a5 = w1 := by rcases mt with g | g <;> rcases kt with g2 | g2 <;> omega
  have vr : 0 ≤ B (t + (27 + k)) (B (t + 25) k - 1).toNat ∧ B (t + (27 + k)) (B (t + 25) k - 1).toNat < B (t + 1) 1 := kv.2.1 _ (by show (((B (t + 25) k - 1).toNat : Nat) : Int) < B (t + 25) k; omega)
  rcases h1 with ⟨c6, -⟩ | ⟨_, a9, e9, a10, h10, h1⟩
  · rcases mt with g | g <;> omega
  obtain ⟨d, ed⟩ : ∃ d : Nat, w1 = (d : Int) := ⟨w1.toNat, by rcases mt with g | g <;> omega⟩
  have hd : (d : Int) < B (t + 1) 1 := by rcases mt with g | g <;> omega
  rw [Int.toNat_natCast] at e9
  have e9 : a9 = B (t + 23) p := e9
  have es : w10 = B (t + 23) p := M_spotOf h.1 h.2.2.2.1 hp hw10
  rw [e5, ed] at h10
  rw [ed] at hw13
  have k10 := K_isAt h10
  rw [Int.toNat_natCast] at k10
  have m13 : (w13 = 1 ↔ B (t + 8) d = w10 ∨ B (t + 9) d = w10) ∧ (w13 = 0 ∨ w13 = 1) := M_isAt h hd hw13
  rw [e9] at k10
  rw [es] at m13
  rcases h1 with ⟨c7, a14, e14, A15, e15, hz, hu⟩ | ⟨c7, hz, hu⟩
  · rcases ho with ⟨_, _, _, w20, e20, hz2, hu2⟩ | ⟨c8, -⟩
    · rw [Int.toNat_natCast] at e14 e15
      have e14 : a14 = B (t + 25) k := e14
      have e15 : A15 = stA B (t + 25) k (a14 - 1) := e15
      rw [h.1, show (4 * (b : Int) + (k : Int)).toNat = 4 * b + k by omega] at e20 hu2
      rw [x14] at e20
      refine ⟨by rw [hz, hz2, e5], ?_⟩
      rw [hu2, hu, e15, tw_st, e20, e14]
      exact AC_pop h.2.2 hk ⟨by omega, by show B (t + 25) k - 1 ≤ B (t + 25) k; omega⟩
    · omega
  · rcases ho with ⟨c8, -⟩ | ⟨_, hz2, hu2⟩
    · omega
    · exact no A sM.rf (by rw [hu]; exact sT.rf) hz hz2 hu2
theorem open_eq {t b : Nat} {B A u1 u2 : St} {x1 x2 z1 z2 : Int} (hT : isT t) (hI : IM A) (h : ACT b A (tw t B)) (qq1 : q_X9_openWith t x1 x2 B z1 u1) (qq2 : q_X12_open x1 x2 A z2 u2) : z1 = z2 ∧ AC b u2 (tw t u1) := by
  have l2 : B (t + 1) 2 ≤ 4 := (h.lim hI).2.2.1
  have q1 := qq1
  have no : sT (tw t B) (tw t u1) → z1 = -1 → d_X12_open_2 z2 u2 (-1) A → z1 = z2 ∧ AC b u2 (tw t u1) := fun g2 g3 g4 => ⟨g3.trans (open_no g4).1.symm, h.2.2.cg l2 g2 (open_no g4).2⟩
  obtain ⟨a1, ha1, h1⟩ := (qq1.1 : tr_r_X9_openWith t x1 x2 B z1 u1)
  have kh := K_holds ha1
  obtain ⟨y1, hy1, h2⟩ := (qq2.1 : tr_r_X12_open x1 x2 A z2 u2)
  have m3 : (y1 = 1 ↔ 0 ≤ x1 ∧ x1 < B (t + 1) 3) ∧ (y1 = 0 ∨ y1 = 1) := M_isPerson hI h hy1
  rcases h2 with ⟨c2, h2⟩ | ⟨c2, y7, hy7, h2⟩
  · rcases h1 with ⟨c, -⟩ | ⟨c, hz, hu⟩
    · omega
    · exact no (by rw [hu]; exact sT.rf) hz h2
  have m2 : (y7 = 1 ↔ 0 ≤ x2 ∧ x2 < B (t + 1) 2) ∧ (y7 = 0 ∨ y7 = 1) := M_isKey hI h hy7
  rcases h2 with ⟨c3, h2⟩ | ⟨c3, y11, A12, ho, h2⟩
  · rcases h1 with ⟨c, -⟩ | ⟨c, hz, hu⟩
    · omega
    · exact no (by rw [hu]; exact sT.rf) hz h2
  obtain ⟨p, rfl⟩ : ∃ p : Nat, x1 = (p : Int) := ⟨x1.toNat, by omega⟩
  obtain ⟨k, rfl⟩ : ∃ k : Nat, x2 = (k : Int) := ⟨x2.toNat, by (first | omega | (clear h1; omega) | (clear h2; omega) | (clear hg'; omega) | (clear h1 h2; omega) | (clear h1 hg'; omega))⟩
  obtain ⟨e, ac⟩ := opened_eq hI h (by (first | omega | (clear h1; omega) | (clear h2; omega) | (clear hg'; omega) | (clear h1 h2; omega) | (clear h1 hg'; omega))) (by (first | omega | (clear h1; omega) | (clear h2; omega) | (clear hg'; omega) | (clear h1 h2; omega) | (clear h1 hg'; omega))) q1 ho
  have s1 : tw t u1 1 2 ≤ 4 := by
    have r1 : u1 (t + 1) 2 = B (t + 1) 2 := by
      rcases hT with e0 | e0
      · rw [e0]; exact q1.2.2.1 52 2 rfl rfl
      · rw [e0]; exact q1.2.2.1 83 2 rfl rfl
    show u1 (t + 1) 2 ≤ 4
    rw [r1]
    exact l2
  obtain ⟨_, _, h2⟩ := (h2 : tr_d_X12_open_2 z2 u2 y11 A12)
  rcases h2 with ⟨_, hz3, hu3⟩ | ⟨c13, y23, A24, hr, hz3, hu3⟩
  · rw [hu3]
    exact ⟨e.trans hz3.symm, ac⟩
  · rw [hu3]
    exact ⟨by rw [e, c13, hz3, hr.2.2.2], ac.cg s1 sT.rf (sM.fr hr.2.2.1 rfl rfl rfl rfl)⟩
/-! Keys that close, change hands, lie down, break. -/
theorem K_placeInL {t k d : Nat} {z : Int} {B : St} (hk : k < 4) (h6 : B (t + 25) k ≤ 6) : ∀ (nn i : Nat), (∀ i' : Nat, i' < i → (i' : Int) < B (t + 25) k → ¬ B (t + (27 + k)) i' = (d : Int)) → d_X6_placeInRow_1 (t + 22) (k : Int) (d : Int) B z nn (i : Int) → (z = -1 ∧ ¬ inR (tw t B) k d) ∨ (¬ z = -1 ∧ inR (tw t B) k d) := by
  intro nn
  induction nn with
  | zero => intro i _ h; exact h.elim
  | succ nn ih =>
    intro i no h
    obtain ⟨_, h⟩ := (h : tr_d_X6_placeInRow_1 (t + 22) (k : Int) (d : Int) B z (fun z1 => d_X6_placeInRow_1 (t + 22) (k : Int) (d : Int) B z nn z1) (i : Int))
    have on : (∀ i' : Nat, i' < i + 1 → (i' : Int) < B (t + 25) k → ¬ B (t + (27 + k)) i' = (d : Int)) → d_X6_placeInRow_2 (fun z1 => d_X6_placeInRow_1 (t + 22) (k : Int) (d : Int) B z nn z1) (i : Int) z → (z = -1 ∧ ¬ inR (tw t B) k d) ∨ (¬ z = -1 ∧ inR (tw t B) k d) := by
      intro no2 h
      have h := (h : tr_d_X6_placeInRow_2 (fun z1 => d_X6_placeInRow_1 (t + 22) (k : Int) (d : Int) B z nn z1) (i : Int) z)
      exact ih (i + 1) no2 (by rw [show ((i + 1 : Nat) : Int) = (i : Int) + 1 by omega]; exact h)
    rcases h with ⟨c, hz⟩ | ⟨c, h⟩
    · refine Or.inl ⟨hz, fun ⟨i', h1, h2⟩ => ?_⟩
      have h1 : (i' : Int) < B (t + 25) k := h1
      exact no i' (by omega) h1 h2
    rcases h with ⟨c2, -⟩ | ⟨_, z10, h10, h⟩
    · omega
    rcases K_inRow hk h10 with ⟨g1, g2⟩ | ⟨g1, g2⟩
    · rcases h with ⟨c3, h⟩ | ⟨c3, hz⟩
      · refine on (fun i' a1 a2 => ?_) h
        by_cases e : i' = i
        · subst e
          rw [← g2]
          exact c3
        · exact no i' (by omega) a2
      · exact Or.inr ⟨by omega, i, g1, g2.symm.trans c3⟩
    · rcases h with ⟨_, h⟩ | ⟨c3, -⟩
      · exact on (fun i' a1 a2 => no i' (by omega) a2) h
      · omega
theorem K_placeIn {t k d : Nat} {z : Int} {B : St} (hk : k < 4) (h6 : B (t + 25) k ≤ 6) (h : q_X6_placeInRow (t + 22) (k : Int) (d : Int) B z) : (z = -1 ∧ ¬ inR (tw t B) k d) ∨ (¬ z = -1 ∧ inR (tw t B) k d) := by
  obtain ⟨nn, h⟩ := (h.1 : tr_r_X6_placeInRow (t + 22) (k : Int) (d : Int) B z)
  exact K_placeInL hk h6 nn 0 (fun i' a1 => absurd a1 (Nat.not_lt_zero i')) h
theorem shut_no {A u : St} {z : Int} (h : d_X12_shut_2 z u (-1) A) : z = -1 ∧ sM A u := by
  obtain ⟨_, _, h⟩ := (h : tr_d_X12_shut_2 z u (-1) A)
  rcases h with ⟨c, -⟩ | ⟨_, z23, A24, hr, hz, hu⟩
  · exact absurd rfl c
  · rw [hz, hu]
    exact ⟨hr.2.2.2, sM.fr hr.2.2.1 rfl rfl rfl rfl⟩
theorem closed_eqK {t b p k d : Nat} {B A u1 A16 : St} {z1 y15 : Int} (hI : IM A) (h : ACT b A (tw t B)) (hp : (p : Int) < B (t + 1) 3) (hk : (k : Int) < B (t + 1) 2) (hd : (d : Int) < B (t + 1) 1) (h1 : q_X9_shutWith t (p : Int) (k : Int) (d : Int) B z1 u1) (hc : q_X12_closed (p : Int) (k : Int) (d : Int) A y15 A16) : z1 = y15 ∧ AC b A16 (tw t u1) := by
  obtain ⟨l0, l1, l2, l3⟩ := h.lim hI
  have l1 : B (t + 1) 1 ≤ 10 := l1
  have l2 : B (t + 1) 2 ≤ 4 := l2
  have hv := h.2.2.2.2
  have no : ∀ A', sM A A' → sT (tw t B) (tw t u1) → z1 = -1 → y15 = -1 → A16 = A' → z1 = y15 ∧ AC b A16 (tw t u1) := fun A' g1 g2 g3 g4 g5 => ⟨g3.trans g4.symm, by rw [g5]; exact h.2.2.cg l2 g2 g1⟩
  obtain ⟨a1, ha1, h1⟩ := (h1.1 : tr_r_X9_shutWith t (p : Int) (k : Int) (d : Int) B z1 u1)
  have kh := K_holds ha1
  rw [Int.toNat_natCast] at kh
  have x := h.2.2.1.1 k hk
  have x13 : A 13 (4 * b + k) = B (t + 24) k := x.1
  have x14 : A 14 (4 * b + k) = B (t + 25) k := x.2.1
  have kv := hv.2.2.2.1 k hk
  have v25 : 0 ≤ B (t + 25) k ∧ B (t + 25) k ≤ 6 := kv.1
  have n4 : (4 * (b : Int) + (k : Int)).toNat = 4 * b + k := by omega
  obtain ⟨_, _, w4, e4, hc⟩ := (hc.1 : tr_r_X12_closed (p : Int) (k : Int) (d : Int) A y15 A16)
  rw [h.1, n4, x13] at e4
  rcases hc with ⟨c5, hz2, hu2⟩ | ⟨c5, w6, hw6, w9, hw9, hc⟩
  · rcases h1 with ⟨c, hz, hu⟩ | ⟨c, -⟩
    · exact no A sM.rf (by rw [hu]; exact sT.rf) hz hz2 hu2
    · omega
  rcases h1 with ⟨c, -⟩ | ⟨_, a5, e5, a6, ha6, h1⟩
  · (first | omega | (clear h1; omega) | (clear h2; omega) | (clear h; omega) | (clear hc; omega) | (clear h1 h2; omega) | (clear h1 h; omega) | (clear h1 hc; omega) | (clear h2 h; omega) | (clear h2 hc; omega) | (clear h hc; omega) | (clear h1 h2 h; omega) | (clear h1 h2 hc; omega) | (clear h1 h hc; omega) | (clear h2 h hc; omega))
  rw [Int.toNat_natCast] at e5
  have e5 : a5 = B (t + 23) p := e5
  have es : w6 = B (t + 23) p := M_spotOf h.1 h.2.2.2.1 hp hw6
  have k6 := K_isAt ha6
  rw [Int.toNat_natCast, e5] at k6
  have m9 : (w9 = 1 ↔ B (t + 8) d = w6 ∨ B (t + 9) d = w6) ∧ (w9 = 0 ∨ w9 = 1) := M_isAt h hd hw9
  rw [es] at m9
  rcases h1 with ⟨c6, hz, hu⟩ | ⟨c6, a10, A11, hpu, h1⟩
  · rcases hc with ⟨_, hz2, hu2⟩ | ⟨c7, -⟩
    · exact no A sM.rf (by rw [hu]; exact sT.rf) hz hz2 hu2
    · omega
  rcases hc with ⟨c7, -⟩ | ⟨_, w13, hw13, hc⟩
  · (first | omega | (clear h1; omega) | (clear h2; omega) | (clear h; omega) | (clear hc; omega) | (clear h1 h2; omega) | (clear h1 h; omega) | (clear h1 hc; omega) | (clear h2 h; omega) | (clear h2 hc; omega) | (clear h hc; omega) | (clear h1 h2 h; omega) | (clear h1 h2 hc; omega) | (clear h1 h hc; omega) | (clear h2 h hc; omega))
  obtain ⟨r1, r2⟩ := M_inRow h.1 hk h.2.2.1 hw13
  rcases (hpu.1 : tr_r_X6_push (t + 22) (k : Int) (d : Int) B a10 A11) with ⟨c8, -⟩ | ⟨_, hpu⟩
  · omega
  rcases hpu with ⟨c8, -⟩ | ⟨_, v3, hv3, hpu⟩
  · omega
  have kp := K_placeIn (by omega) v25.2 hv3
  rcases hc with ⟨c8, hz2, hu2⟩ | ⟨c8, _, _, w20, e20, hc⟩
  · rcases hpu with ⟨c9, -⟩ | ⟨_, hza, hua⟩
    · exfalso
      have := r1.mp (by omega)
      rcases kp with g | g
      · exact g.2 this
      · exact g.1 c9
    · rcases h1 with ⟨c9, -⟩ | ⟨_, hz, hu⟩
      · exact absurd hza c9
      · exact no A sM.rf (by rw [hu, hua]; exact sT.rf) hz hz2 hu2
  have nin : ¬ inR (tw t B) k d := fun g => by have := r1.mpr g; omega
  rcases hpu with ⟨c9, v7, e7, hpu⟩ | ⟨c9, -⟩
  case inr => rcases kp with g | g
              · exact absurd g.1 c9
              · exact absurd g.2 nin
  rw [Int.toNat_natCast] at e7
  have e7 : v7 = B (t + 25) k := e7
  rw [h.1, n4, x14] at e20
  rcases hpu with ⟨c10, A10, e10, A11', e11, hza, hua⟩ | ⟨c10, hza, hua⟩
  · rcases hc with ⟨_, _, _, _, _, w28, e28, A29, e29, _, _, w33, e33, A34, e34, _, _, w38, e38, hz2, hu2⟩ | ⟨c11, -⟩
    · rcases h1 with ⟨_, a15, e15, hz, hu⟩ | ⟨c11, -⟩
      · obtain ⟨n, en⟩ : ∃ n : Nat, B (t + 25) k = (n : Int) := ⟨(B (t + 25) k).toNat, by omega⟩
        rw [h.1, n4, x14, en] at e28
        rw [e28, h.1, show (40 * (b : Int) + 10 * (k : Int) + (n : Int)).toNat = 40 * b + 10 * k + n by omega] at e29
        have b29 : A29 0 12 = (b : Int) := by rw [e29]; exact h.1
        have r29 : A29 14 (4 * b + k) = (n : Int) := by
          rw [e29, ← en, ← x14]
          rfl
        rw [h.1, n4, r29] at e33
        rw [h.1, n4, e33, e29] at e34
        rw [h.1, n4, e34, stA_same, up_same] at e38
        rw [e7, en, Int.toNat_natCast, Int.toNat_natCast, show t + 22 + 5 + k = t + (27 + k) by omega] at e10
        rw [e7, en, Int.toNat_natCast] at e11
        have e11 : A11' = stA A10 (t + 25) k ((n : Int) + 1) := e11
        have f15 : a15 = (n : Int) + 1 := by
          rw [e15, hua, e11, Int.toNat_natCast]
          show stA A10 (t + 25) k ((n : Int) + 1) (t + 25) k = (n : Int) + 1
          rw [stA_same, up_same]
        refine ⟨by rw [hz, f15, hz2, e38], ?_⟩
        rw [hu2, e34, hu, hua, e11, e10, tw_st, tw_st]
        refine AC_push h.2.2 hk en (by omega) ⟨by omega, hd⟩ (fun i hi g => nin ⟨i, ?_, g⟩)
        show (i : Int) < B (t + 25) k
        omega
      · exact absurd hza (by omega)
    · omega
  · rcases hc with ⟨c11, -⟩ | ⟨_, hz2, hu2⟩
    · omega
    · rcases h1 with ⟨c12, -⟩ | ⟨_, hz, hu⟩
      · exact absurd hza c12
      · exact no A sM.rf (by rw [hu, hua]; exact sT.rf) hz hz2 hu2
theorem shut_eq {t b : Nat} {B A u1 u2 : St} {x1 x2 x3 z1 z2 : Int} (hT : isT t) (hI : IM A) (h : ACT b A (tw t B)) (qq1 : q_X9_shutWith t x1 x2 x3 B z1 u1) (qq2 : q_X12_shut x1 x2 x3 A z2 u2) : z1 = z2 ∧ AC b u2 (tw t u1) := by
  have l2 : B (t + 1) 2 ≤ 4 := (h.lim hI).2.2.1
  have q1 := qq1
  have no : sT (tw t B) (tw t u1) → z1 = -1 → d_X12_shut_2 z2 u2 (-1) A → z1 = z2 ∧ AC b u2 (tw t u1) := fun g2 g3 g4 => ⟨g3.trans (shut_no g4).1.symm, h.2.2.cg l2 g2 (shut_no g4).2⟩
  obtain ⟨a1, ha1, h1⟩ := (qq1.1 : tr_r_X9_shutWith t x1 x2 x3 B z1 u1)
  have kh := K_holds ha1
  obtain ⟨y1, hy1, h2⟩ := (qq2.1 : tr_r_X12_shut x1 x2 x3 A z2 u2)
  have m3 : (y1 = 1 ↔ 0 ≤ x1 ∧ x1 < B (t + 1) 3) ∧ (y1 = 0 ∨ y1 = 1) := M_isPerson hI h hy1
  rcases h2 with ⟨c2, h2⟩ | ⟨c2, y7, hy7, h2⟩
  · rcases h1 with ⟨c, hz, hu⟩ | ⟨c, -⟩
    · exact no (by rw [hu]; exact sT.rf) hz h2
    · omega
  have m2 : (y7 = 1 ↔ 0 ≤ x2 ∧ x2 < B (t + 1) 2) ∧ (y7 = 0 ∨ y7 = 1) := M_isKey hI h hy7
  rcases h2 with ⟨c3, h2⟩ | ⟨c3, y11, hy11, h2⟩
  · rcases h1 with ⟨c, hz, hu⟩ | ⟨c, -⟩
    · exact no (by rw [hu]; exact sT.rf) hz h2
    · omega
  have m1 : (y11 = 1 ↔ 0 ≤ x3 ∧ x3 < B (t + 1) 1) ∧ (y11 = 0 ∨ y11 = 1) := M_isDoor hI h hy11
  rcases h2 with ⟨c4, h2⟩ | ⟨c4, y15, A16, hc, h2⟩
  · rcases h1 with ⟨c, hz, hu⟩ | ⟨c, a5, e5, a6, ha6, h1⟩
    · exact no (by rw [hu]; exact sT.rf) hz h2
    · have k6 := K_isAt ha6
      rcases h1 with ⟨_, hz, hu⟩ | ⟨c5, -⟩
      · exact no (by rw [hu]; exact sT.rf) hz h2
      · omega
  obtain ⟨p, rfl⟩ : ∃ p : Nat, x1 = (p : Int) := ⟨x1.toNat, by omega⟩
  obtain ⟨k, rfl⟩ : ∃ k : Nat, x2 = (k : Int) := ⟨x2.toNat, by (first | omega | (clear h1; omega) | (clear h2; omega) | (clear h; omega) | (clear hc; omega) | (clear h1 h2; omega) | (clear h1 h; omega) | (clear h1 hc; omega) | (clear h2 h; omega) | (clear h2 hc; omega) | (clear h hc; omega) | (clear h1 h2 h; omega) | (clear h1 h2 hc; omega) | (clear h1 h hc; omega) | (clear h2 h hc; omega))⟩
  obtain ⟨d, rfl⟩ : ∃ d : Nat, x3 = (d : Int) := ⟨x3.toNat, by (first | omega | (clear h1; omega) | (clear h2; omega) | (clear h; omega) | (clear hc; omega) | (clear h1 h2; omega) | (clear h1 h; omega) | (clear h1 hc; omega) | (clear h2 h; omega) | (clear h2 hc; omega) | (clear h hc; omega) | (clear h1 h2 h; omega) | (clear h1 h2 hc; omega) | (clear h1 h hc; omega) | (clear h2 h hc; omega))⟩
  obtain ⟨e, ac⟩ := closed_eqK hI h (by omega) (by omega) (by omega) q1 hc
  have s1 : tw t u1 1 2 ≤ 4 := by
    have r1 : u1 (t + 1) 2 = B (t + 1) 2 := by
      rcases hT with e0 | e0
      · rw [e0]; exact q1.2.2.1 52 2 rfl rfl
      · rw [e0]; exact q1.2.2.1 83 2 rfl rfl
    show u1 (t + 1) 2 ≤ 4
    rw [r1]
    exact l2
  obtain ⟨_, _, h2⟩ := (h2 : tr_d_X12_shut_2 z2 u2 y15 A16)
  rcases h2 with ⟨_, hz3, hu3⟩ | ⟨c13, y23, A24, hr, hz3, hu3⟩
  · rw [hu3]
    exact ⟨e.trans hz3.symm, ac⟩
  · rw [hu3]
    exact ⟨by rw [e, c13, hz3, hr.2.2.2], ac.cg s1 sT.rf (sM.fr hr.2.2.1 rfl rfl rfl rfl)⟩
/-- a key is lent -/
theorem lend_no {x1 x2 x3 z : Int} {A u : St} (h : d_X12_lend_3 A z u) : z = 0 ∧ sM A u := by
  obtain ⟨z40, A41, hr, hz, hu⟩ := (h : tr_d_X12_lend_3 A z u)
  rw [hu]
  exact ⟨hz, sM.fr hr.2.2.1 rfl rfl rfl rfl⟩
theorem lend_eq {t b : Nat} {B A u1 u2 : St} {x1 x2 x3 z1 z2 : Int} (hI : IM A) (h : ACT b A (tw t B)) (qq1 : q_X9_lendTo t x1 x2 x3 B z1 u1) (qq2 : q_X12_lend x1 x2 x3 A z2 u2) : z1 = z2 ∧ AC b u2 (tw t u1) := by
  have l2 : B (t + 1) 2 ≤ 4 := (h.lim hI).2.2.1
  have no : sT (tw t B) (tw t u1) → z1 = 0 → d_X12_lend_3 A z2 u2 → z1 = z2 ∧ AC b u2 (tw t u1) := fun g2 g3 g4 => by
    obtain ⟨g5, g6⟩ := lend_no (x1 := x1) (x2 := x2) (x3 := x3) g4
    exact ⟨g3.trans g5.symm, h.2.2.cg l2 g2 g6⟩
  have no2 : sT (tw t B) (tw t u1) → z1 = 0 → d_X12_lend_1 x1 x2 x3 A z2 u2 → z1 = z2 ∧ AC b u2 (tw t u1) := fun g2 g3 g4 => by
    have g4 := (g4 : tr_d_X12_lend_1 x1 x2 x3 A z2 u2)
    obtain ⟨_, g4⟩ := (g4 : tr_d_X12_lend_2 x1 x2 x3 A z2 u2 0)
    rcases g4 with ⟨_, g4⟩ | ⟨c, -⟩
    · exact no g2 g3 g4
    · exact absurd rfl c
  obtain ⟨a1, ha1, h1⟩ := (qq1.1 : tr_r_X9_lendTo t x1 x2 x3 B z1 u1)
  have kh := K_holds ha1
  obtain ⟨y1, hy1, h2⟩ := (qq2.1 : tr_r_X12_lend x1 x2 x3 A z2 u2)
  have m3 : (y1 = 1 ↔ 0 ≤ x1 ∧ x1 < B (t + 1) 3) ∧ (y1 = 0 ∨ y1 = 1) := M_isPerson hI h hy1
  rcases h2 with ⟨c2, h2⟩ | ⟨c2, y7, hy7, h2⟩
  · rcases h1 with ⟨c, hz, hu⟩ | ⟨c, -⟩
    · exact no2 (by rw [hu]; exact sT.rf) hz h2
    · omega
  have m2 : (y7 = 1 ↔ 0 ≤ x2 ∧ x2 < B (t + 1) 2) ∧ (y7 = 0 ∨ y7 = 1) := M_isKey hI h hy7
  rcases h2 with ⟨c3, h2⟩ | ⟨c3, y11, hy11, h2⟩
  · rcases h1 with ⟨c, hz, hu⟩ | ⟨c, -⟩
    · exact no2 (by rw [hu]; exact sT.rf) hz h2
    · omega
  have m4 : (y11 = 1 ↔ 0 ≤ x3 ∧ x3 < B (t + 1) 3) ∧ (y11 = 0 ∨ y11 = 1) := M_isPerson hI h hy11
  rcases h2 with ⟨c4, h2⟩ | ⟨c4, h2⟩
  · rcases h1 with ⟨c, hz, hu⟩ | ⟨c, a5, ha5, h1⟩
    · exact no2 (by rw [hu]; exact sT.rf) hz h2
    · have k5 := K_there3 ha5
      rcases h1 with ⟨_, hz, hu⟩ | ⟨c5, -⟩
      · exact no2 (by rw [hu]; exact sT.rf) hz h2
      · omega
  rcases h2 with ⟨c5, h2⟩ | ⟨c5, h2⟩
  · rcases h1 with ⟨c, hz, hu⟩ | ⟨c, a5, ha5, h1⟩
    · exact no2 (by rw [hu]; exact sT.rf) hz h2
    · rcases h1 with ⟨_, hz, hu⟩ | ⟨_, h1⟩
      · exact no2 (by rw [hu]; exact sT.rf) hz h2
      · rcases h1 with ⟨c6, -⟩ | ⟨_, hz, hu⟩
        · exact absurd c5.symm c6
        · exact no2 (by rw [hu]; exact sT.rf) hz h2
  obtain ⟨p, rfl⟩ : ∃ p : Nat, x1 = (p : Int) := ⟨x1.toNat, by omega⟩
  obtain ⟨k, rfl⟩ : ∃ k : Nat, x2 = (k : Int) := ⟨x2.toNat, by (first | omega | (clear h1; omega) | (clear h2; omega) | (clear h; omega) | (clear hc; omega) | (clear h1 h2; omega) | (clear h1 h; omega) | (clear h1 hc; omega) | (clear h2 h; omega) | (clear h2 hc; omega) | (clear h hc; omega) | (clear h1 h2 h; omega) | (clear h1 h2 hc; omega) | (clear h1 h hc; omega) | (clear h2 h hc; omega))⟩
  obtain ⟨o, rfl⟩ : ∃ o : Nat, x3 = (o : Int) := ⟨x3.toNat, by (first | omega | (clear h1; omega) | (clear h2; omega) | (clear h; omega) | (clear hc; omega) | (clear h1 h2; omega) | (clear h1 h; omega) | (clear h1 hc; omega) | (clear h2 h; omega) | (clear h2 hc; omega) | (clear h hc; omega) | (clear h1 h2 h; omega) | (clear h1 h2 hc; omega) | (clear h1 h hc; omega) | (clear h2 h hc; omega))⟩
  have hp : (p : Int) < B (t + 1) 3 := by omega
  have ho : (o : Int) < B (t + 1) 3 := by omega
  have hk : (k : Int) < B (t + 1) 2 := by omega
  rw [Int.toNat_natCast] at kh
  have x13 : A 13 (4 * b + k) = B (t + 24) k := (h.2.2.1.1 k hk).1
  have n4 : (4 * (b : Int) + (k : Int)).toNat = 4 * b + k := by omega
  obtain ⟨_, h2⟩ := (h2 : tr_d_X12_lend_2 (p : Int) (k : Int) (o : Int) A z2 u2 1)
  rcases h2 with ⟨c6, -⟩ | ⟨_, _, _, w27, e27, h2⟩
  · exact absurd c6 (by decide)
  rw [h.1, n4, x13] at e27
  rcases h2 with ⟨c7, h2⟩ | ⟨c7, w29, hw29, w32, hw32, h2⟩
  · rcases h1 with ⟨c, hz, hu⟩ | ⟨c, -⟩
    · exact no (by rw [hu]; exact sT.rf) hz h2
    · omega
  have e29 : w29 = B (t + 23) p := M_spotOf h.1 h.2.2.2.1 hp hw29
  have e32 : w32 = B (t + 23) o := M_spotOf h.1 h.2.2.2.1 ho hw32
  rcases h1 with ⟨c, -⟩ | ⟨_, a5, ha5, h1⟩
  · omega
  have k5 := K_there3 ha5
  rcases h1 with ⟨c8, -⟩ | ⟨_, h1⟩
  · omega
  rcases h1 with ⟨_, a10, e10, a11, e11, h1⟩ | ⟨c8, -⟩
  case inr => exact absurd c8.symm c5
  rw [Int.toNat_natCast] at e10 e11
  have e10 : a10 = B (t + 23) p := e10
  have e11 : a11 = B (t + 23) o := e11
  rcases h1 with ⟨c8, A13, e13, hz, hu⟩ | ⟨c8, hz, hu⟩
  · rcases h2 with ⟨_, _, _, hz2, hu2⟩ | ⟨c9, -⟩
    · rw [Int.toNat_natCast] at e13
      have e13 : A13 = stA B (t + 24) k (o : Int) := e13
      rw [h.1, n4] at hu2
      refine ⟨hz.trans hz2.symm, ?_⟩
      rw [hu2, hu, e13, tw_st]
      exact AC_where h.2.2 (Or.inl ⟨by omega, ho⟩)
    · exact absurd (by rw [e29, e32, ← e10, ← e11]; exact c8) c9
  · rcases h2 with ⟨c9, -⟩ | ⟨_, h2⟩
    · exact absurd (by rw [e10, e11, ← e29, ← e32]; exact c9) c8
    · exact no (by rw [hu]; exact sT.rf) hz h2
/-- boxes that stand open -/
theorem K_isShut {t d : Nat} {z : Int} {B : St} (hR : RB (tw t B)) (h4 : B (t + 1) 2 ≤ 4) (h15 : 0 ≤ B t 15 ∧ B t 15 < 1024) (hd : d < 10) (h : q_X9_isShut t (d : Int) B z) : (z = 1 ↔ shT (tw t B) d) ∧ (z = 0 ∨ z = 1) := by
  obtain ⟨z1, h1, z4, e4, z5, e5, h⟩ := (h.1 : tr_r_X9_isShut t (d : Int) B z)
  obtain ⟨q1, q2⟩ := K_shutMask hR h4 h15 h1
  have bi := bit_iff (d := d) q1 hd
  rw [← e4, ← e5] at bi
  rcases h with ⟨c, hz⟩ | ⟨c, hz⟩
  · refine ⟨⟨fun e => absurd e (by omega), fun g => ?_⟩, Or.inl hz⟩
    have := (q2 d hd).mpr g
    rw [bi.mp c] at this
    exact absurd this Bool.false_ne_true
  · refine ⟨⟨fun _ => (q2 d hd).mp ?_, fun _ => hz⟩, Or.inr hz⟩
    cases hc : z1.toNat.testBit d with
    | true => rfl
    | false => exact absurd (bi.mpr hc) c
def opB (T : St) (x s : Int) : Prop := (0 ≤ x ∧ x < T 1 1) ∧ T 10 x.toNat = 0 ∧ T 8 x.toNat = s ∧ ¬ shT T x.toNat
theorem K_openBox {t b : Nat} {x s z : Int} {A B : St} (hI : IM A) (hA : ACT b A (tw t B)) (h : q_X9_isOpenBoxAt t x s B z) : (z = 1 ↔ opB (tw t B) x s) ∧ (z = 0 ∨ z = 1) := by
  obtain ⟨l0, l1, l2, l3⟩ := hA.lim hI
  have l1 : B (t + 1) 1 ≤ 10 := l1
  have l2 : B (t + 1) 2 ≤ 4 := l2
  have hv := hA.2.2.2.2
  have rb := hv.rb l1
  have h15 : 0 ≤ B t 15 ∧ B t 15 < 1024 := hA.st.2.2.1
  obtain ⟨z1, h1, h⟩ := (h.1 : tr_r_X9_isOpenBoxAt t x s B z)
  have k1 := K_isBox h1
  rcases h with ⟨c, hz⟩ | ⟨c, z5, h5, h⟩
  · refine ⟨⟨fun e => absurd e (by omega), fun ⟨g1, g2, _⟩ => ?_⟩, Or.inl hz⟩
    have g1 : 0 ≤ x ∧ x < B (t + 1) 1 := g1
    have g2 : B (t + 10) x.toNat = 0 := g2
    omega
  have b1 : 0 ≤ x ∧ x < B (t + 1) 1 ∧ B (t + 10) x.toNat = 0 := by (first | omega | (clear h1; omega) | (clear h2; omega) | (clear h; omega) | (clear hc; omega) | (clear h1 h2; omega) | (clear h1 h; omega) | (clear h1 hc; omega) | (clear h2 h; omega) | (clear h2 hc; omega) | (clear h hc; omega) | (clear h1 h2 h; omega) | (clear h1 h2 hc; omega) | (clear h1 h hc; omega) | (clear h2 h hc; omega))
  obtain ⟨d, rfl⟩ : ∃ d : Nat, x = (d : Int) := ⟨x.toNat, by omega⟩
  unfold opB
  rw [Int.toNat_natCast]
  rw [Int.toNat_natCast] at b1
  have hd : (d : Int) < B (t + 1) 1 := b1.2.1
  have dv := hv.2.1 d hd
  have dz : B (t + 8) d = B (t + 9) d := dv.2.2.2 b1.2.2
  have k5 := K_isAt h5
  rw [Int.toNat_natCast, ← dz] at k5
  rcases h with ⟨c2, hz⟩ | ⟨c2, z9, h9, h⟩
  · refine ⟨⟨fun e => absurd e (by omega), fun ⟨_, _, g3, _⟩ => ?_⟩, Or.inl hz⟩
    have g3 : B (t + 8) d = s := g3
    omega
  have k9 := K_isShut rb l2 h15 (by omega) h9
  have g8 : B (t + 8) d = s := by omega
  rcases h with ⟨c3, hz⟩ | ⟨c3, hz⟩
  · exact ⟨⟨fun e => absurd e (by omega), fun ⟨_, _, _, g4⟩ => absurd (k9.1.mp (by omega)) g4⟩, Or.inl hz⟩
  · exact ⟨⟨fun _ => ⟨⟨by omega, hd⟩, b1.2.2, g8, fun g => by have := k9.1.mpr g; omega⟩, fun _ => hz⟩, Or.inr hz⟩
theorem M_openBox {b p : Nat} {x z : Int} {A T : St} (hI : IM A) (hA : ACT b A T) (hp : (p : Int) < T 1 3) (h : q_X12_isOpenBox (p : Int) x A z) : (z = 1 ↔ opB T x (T 23 p)) ∧ (z = 0 ∨ z = 1) := by
  obtain ⟨z1, h1, h⟩ := (h.1 : tr_r_X12_isOpenBox (p : Int) x A z)
  have m1 := M_isDoor hI hA h1
  rcases h with ⟨c, hz⟩ | ⟨c, _, _, z8, e8, h⟩
  · refine ⟨⟨fun e => absurd e (by omega), fun ⟨g1, _⟩ => ?_⟩, Or.inl hz⟩
    omega
  obtain ⟨d, rfl⟩ : ∃ d : Nat, x = (d : Int) := ⟨x.toNat, by omega⟩
  have hd : (d : Int) < T 1 1 := by omega
  unfold opB
  rw [Int.toNat_natCast]
  have n10 : (10 * (b : Int) + (d : Int)).toNat = 10 * b + d := by omega
  obtain ⟨nb, dr, ls⟩ := hA.st
  have nbd := nb d hd
  rw [hA.1, n10] at e8
  rw [← e8] at nbd
  rcases h with ⟨c2, hz⟩ | ⟨c2, _, _, z13, e13, z14, h14, h⟩
  · exact ⟨⟨fun e => absurd e (by omega), fun ⟨_, g2, _⟩ => absurd g2 (nbd.mp c2)⟩, Or.inl hz⟩
  have g10 : T 10 d = 0 := by
    by_cases g : T 10 d = 0
    · exact g
    · exact absurd (nbd.mpr g) c2
  rw [hA.1, n10, (dr d hd).1] at e13
  have e14 := M_spotOf hA.1 hA.2.2.2.1 hp h14
  rcases h with ⟨c3, hz⟩ | ⟨c3, z18, h18, h⟩
  · exact ⟨⟨fun e => absurd e (by omega), fun ⟨_, _, g3, _⟩ => absurd (e13.trans (g3.trans e14.symm)) c3⟩, Or.inl hz⟩
  have g8 : T 8 d = T 23 p := e13.symm.trans (c3.trans e14)
  have m18 := M_isShut hA.1 hA.cnt.2.2.1 hA.2.2.1 hd ls h18
  rcases h with ⟨c4, hz⟩ | ⟨c4, hz⟩
  · exact ⟨⟨fun e => absurd e (by omega), fun ⟨_, _, _, g4⟩ => absurd (m18.1.mp (by omega)) g4⟩, Or.inl hz⟩
  · exact ⟨⟨fun _ => ⟨⟨by omega, hd⟩, g10, g8, fun g => by have := m18.1.mpr g; omega⟩, fun _ => hz⟩, Or.inr hz⟩
/-- a key is taken up -/
theorem take_eq {t b : Nat} {B A u1 u2 : St} {x1 x2 z1 z2 : Int} (hI : IM A) (h : ACT b A (tw t B)) (qq1 : q_X9_takeUp t x1 x2 B z1 u1) (qq2 : q_X12_take x1 x2 A z2 u2) : z1 = z2 ∧ AC b u2 (tw t u1) := by
  have l2 : B (t + 1) 2 ≤ 4 := (h.lim hI).2.2.1
  have l1 : B (t + 1) 1 ≤ 10 := (h.lim hI).2.1
  have l3 : B (t + 1) 3 ≤ 3 := (h.lim hI).2.2.2
  have l0 : B (t + 1) 0 ≤ 8 := (h.lim hI).1
  have hv := h.2.2.2.2
  have no4 : sT (tw t B) (tw t u1) → z1 = 0 → d_X12_take_4 A z2 u2 → z1 = z2 ∧ AC b u2 (tw t u1) := fun g2 g3 g4 => by
    obtain ⟨z43, A44, hr, hz, hu⟩ := (g4 : tr_d_X12_take_4 A z2 u2)
    refine ⟨g3.trans hz.symm, ?_⟩
    rw [hu]
    exact h.2.2.cg l2 g2 (sM.fr hr.2.2.1 rfl rfl rfl rfl)
  have no1 : sT (tw t B) (tw t u1) → z1 = 0 → d_X12_take_1 x1 x2 A z2 u2 → z1 = z2 ∧ AC b u2 (tw t u1) := fun g2 g3 g4 => by
    have g4 := (g4 : tr_d_X12_take_1 x1 x2 A z2 u2)
    obtain ⟨_, g4⟩ := (g4 : tr_d_X12_take_3 x1 x2 A z2 u2 0)
    rcases g4 with ⟨c, -⟩ | ⟨_, z37, A38, hr, hz, hu⟩
    · exact absurd rfl c
    · refine ⟨g3.trans hz.symm, ?_⟩
      rw [hu]
      exact h.2.2.cg l2 g2 (sM.fr hr.2.2.1 rfl rfl rfl rfl)
  obtain ⟨a1, ha1, h1⟩ := (qq1.1 : tr_r_X9_takeUp t x1 x2 B z1 u1)
  have k1 := K_there3 ha1
  obtain ⟨y1, hy1, h2⟩ := (qq2.1 : tr_r_X12_take x1 x2 A z2 u2)
  have m3 : (y1 = 1 ↔ 0 ≤ x1 ∧ x1 < B (t + 1) 3) ∧ (y1 = 0 ∨ y1 = 1) := M_isPerson hI h hy1
  rcases h2 with ⟨c2, h2⟩ | ⟨c2, y6, hy6, h2⟩
  · rcases h1 with ⟨c, hz, hu⟩ | ⟨c, -⟩
    · exact no4 (by rw [hu]; exact sT.rf) hz h2
    · omega
  rcases h1 with ⟨c, -⟩ | ⟨_, a5, ha5, h1⟩
  · (first | omega | (clear h1; omega) | (clear h2; omega) | (clear h; omega) | (clear hc; omega) | (clear h1 h2; omega) | (clear h1 h; omega) | (clear h1 hc; omega) | (clear h2 h; omega) | (clear h2 hc; omega) | (clear h hc; omega) | (clear h1 h2 h; omega) | (clear h1 h2 hc; omega) | (clear h1 h hc; omega) | (clear h2 h hc; omega))
  have k5 := K_there2 ha5
  have m2 : (y6 = 1 ↔ 0 ≤ x2 ∧ x2 < B (t + 1) 2) ∧ (y6 = 0 ∨ y6 = 1) := M_isKey hI h hy6
  rcases h2 with ⟨c3, _, _, w13, e13, w14, hw14, h2⟩ | ⟨c3, h2⟩
  case inr =>
    rcases h1 with ⟨c, -⟩ | ⟨_, hz, hu⟩
    · omega
    · exact no4 (by rw [hu]; exact sT.rf) hz h2
  rcases h1 with ⟨_, a9, e9, a10, e10, a11, e11, h1⟩ | ⟨c, -⟩
  case inr => (first | omega | (clear h1; omega) | (clear h2; omega) | (clear h; omega) | (clear hc; omega) | (clear h1 h2; omega) | (clear h1 h; omega) | (clear h1 hc; omega) | (clear h2 h; omega) | (clear h2 hc; omega) | (clear h hc; omega) | (clear h1 h2 h; omega) | (clear h1 h2 hc; omega) | (clear h1 h hc; omega) | (clear h2 h hc; omega))
  obtain ⟨p, rfl⟩ : ∃ p : Nat, x1 = (p : Int) := ⟨x1.toNat, by (first | omega | (clear h1; omega) | (clear h2; omega) | (clear h; omega) | (clear hc; omega) | (clear h1 h2; omega) | (clear h1 h; omega) | (clear h1 hc; omega) | (clear h2 h; omega) | (clear h2 hc; omega) | (clear h hc; omega) | (clear h1 h2 h; omega) | (clear h1 h2 hc; omega) | (clear h1 h hc; omega) | (clear h2 h hc; omega))⟩
  obtain ⟨k, rfl⟩ : ∃ k : Nat, x2 = (k : Int) := ⟨x2.toNat, by (first | omega | (clear h1; omega) | (clear h2; omega) | (clear h; omega) | (clear hc; omega) | (clear h1 h2; omega) | (clear h1 h; omega) | (clear h1 hc; omega) | (clear h2 h; omega) | (clear h2 hc; omega) | (clear h hc; omega) | (clear h1 h2 h; omega) | (clear h1 h2 hc; omega) | (clear h1 h hc; omega) | (clear h2 h hc; omega))⟩
  have hp : (p : Int) < B (t + 1) 3 := by (first | omega | (clear h1; omega) | (clear h2; omega) | (clear h; omega) | (clear hc; omega) | (clear h1 h2; omega) | (clear h1 h; omega) | (clear h1 hc; omega) | (clear h2 h; omega) | (clear h2 hc; omega) | (clear h hc; omega) | (clear h1 h2 h; omega) | (clear h1 h2 hc; omega) | (clear h1 h hc; omega) | (clear h2 h hc; omega))
  have hk : (k : Int) < B (t + 1) 2 := by (first | omega | (clear h1; omega) | (clear h2; omega) | (clear h; omega) | (clear hc; omega) | (clear h1 h2; omega) | (clear h1 h; omega) | (clear h1 hc; omega) | (clear h2 h; omega) | (clear h2 hc; omega) | (clear h hc; omega) | (clear h1 h2 h; omega) | (clear h1 h2 hc; omega) | (clear h1 h hc; omega) | (clear h2 h hc; omega))
  have n4 : (4 * (b : Int) + (k : Int)).toNat = 4 * b + k := by omega
  have x13 : A 13 (4 * b + k) = B (t + 24) k := (h.2.2.1.1 k hk).1
  rw [h.1, n4, x13] at e13
  have e14 : w14 = B (t + 23) p := M_spotOf h.1 h.2.2.2.1 hp hw14
  rw [Int.toNat_natCast] at e9 e10
  have e9 : a9 = B (t + 24) k := e9
  have e10 : a10 = B (t + 23) p := e10
  have bs : 0 ≤ B (t + 23) p ∧ B (t + 23) p < B (t + 1) 0 := hv.2.2.1 p hp
  have bw : WV (tw t B) (B (t + 24) k) := (hv.2.2.2.1 k hk).2.2.2
  have bw : 0 ≤ B (t + 24) k ∧ B (t + 24) k ≤ 40 := by
    rcases bw with ⟨g1, g2⟩ | (⟨g1, g2⟩ | ⟨g1, g2, _⟩) | g
    · have g2 : B (t + 24) k < B (t + 1) 3 := g2
      omega
    · have g2 : B (t + 24) k < 10 + B (t + 1) 0 := g2
      omega
    · have g2 : B (t + 24) k < 20 + B (t + 1) 1 := g2
      omega
    · omega
  rw [oWrap_id ⟨by omega, by omega⟩] at e11
  have yes : d_X9_takeUp_1 t (p : Int) (k : Int) B z1 u1 → d_X12_take_2 (p : Int) (k : Int) A z2 u2 → z1 = z2 ∧ AC b u2 (tw t u1) := by
    intro g1 g2
    obtain ⟨A20, e20, hz, hu⟩ := (g1 : tr_d_X9_takeUp_1 t (p : Int) (k : Int) B z1 u1)
    have g2 := (g2 : tr_d_X12_take_2 (p : Int) (k : Int) A z2 u2)
    obtain ⟨_, g2⟩ := (g2 : tr_d_X12_take_3 (p : Int) (k : Int) A z2 u2 1)
    rcases g2 with ⟨_, _, _, hz2, hu2⟩ | ⟨c, -⟩
    · rw [Int.toNat_natCast] at e20
      have e20 : A20 = stA B (t + 24) k (p : Int) := e20
      rw [h.1, n4] at hu2
      refine ⟨hz.trans hz2.symm, ?_⟩
      rw [hu2, hu, e20, tw_st]
      exact AC_where h.2.2 (Or.inl ⟨by omega, hp⟩)
    · exact absurd c (by decide)
  rcases h1 with ⟨c4, h1⟩ | ⟨c4, a14, e14', a15, ha15, h1⟩
  · rcases h2 with ⟨_, h2⟩ | ⟨c5, -⟩
    · exact yes h1 h2
    · omega
  rw [oWrap_id ⟨by omega, by omega⟩] at e14'
  rw [e10] at ha15
  have ko := K_openBox hI h ha15
  rcases h2 with ⟨c5, -⟩ | ⟨_, h2⟩
  · omega
  have far : (w13 < 20 ∨ 40 ≤ w13) → a15 = 0 := by
    intro g
    rcases ko.2 with e | e
    · exact e
    · exfalso
      have := (ko.1.mp e).1
      have : 0 ≤ a14 ∧ a14 < B (t + 1) 1 := this
      omega
  rcases h2 with ⟨c6, h2⟩ | ⟨c6, h2⟩
  · have e := far (Or.inl c6)
    rcases h1 with ⟨c7, -⟩ | ⟨_, hz, hu⟩
    · exact absurd e c7
    · exact no1 (by rw [hu]; exact sT.rf) hz h2
  rcases h2 with ⟨c7, h2⟩ | ⟨c7, w23, hw23, h2⟩
  · have e := far (Or.inr c7)
    rcases h1 with ⟨c8, -⟩ | ⟨_, hz, hu⟩
    · exact absurd e c8
    · exact no1 (by rw [hu]; exact sT.rf) hz h2
  have mo : (w23 = 1 ↔ opB (tw t B) (w13 - 20) (B (t + 23) p)) ∧ (w23 = 0 ∨ w23 = 1) := M_openBox hI h hp hw23
  rw [show w13 - 20 = a14 by omega] at mo
  rcases h2 with ⟨c8, h2⟩ | ⟨c8, h2⟩
  · rcases h1 with ⟨c9, -⟩ | ⟨_, hz, hu⟩
    · exfalso
      have := mo.1.mpr (ko.1.mp (by omega))
      omega
    · exact no1 (by rw [hu]; exact sT.rf) hz h2
  · rcases h1 with ⟨_, h1⟩ | ⟨c9, -⟩
    · exact yes h1 h2
    · exfalso
      have := ko.1.mpr (mo.1.mp (by omega))
      omega
/-- a key is laid down -/
theorem lay_eq {t b : Nat} {B A u1 u2 : St} {x1 x2 x3 z1 z2 : Int} (hx : R32 x3) (hI : IM A) (h : ACT b A (tw t B)) (qq1 : q_X9_layDown t x1 x2 x3 B z1 u1) (qq2 : q_X12_lay x1 x2 x3 A z2 u2) : z1 = z2 ∧ AC b u2 (tw t u1) := by
  have l2 : B (t + 1) 2 ≤ 4 := (h.lim hI).2.2.1
  have l1 : B (t + 1) 1 ≤ 10 := (h.lim hI).2.1
  have l0 : B (t + 1) 0 ≤ 8 := (h.lim hI).1
  have hv := h.2.2.2.2
  have no : sT (tw t B) (tw t u1) → z1 = 0 → d_X12_lay_2 x1 x2 x3 A z2 u2 → z1 = z2 ∧ AC b u2 (tw t u1) := fun g2 g3 g4 => by
    have g4 := (g4 : tr_d_X12_lay_2 x1 x2 x3 A z2 u2)
    obtain ⟨_, g4⟩ := (g4 : tr_d_X12_lay_3 x1 x2 x3 A z2 u2 0)
    rcases g4 with ⟨c, -⟩ | ⟨_, z38, A39, hr, hz, hu⟩
    · exact absurd rfl c
    · refine ⟨g3.trans hz.symm, ?_⟩
      rw [hu]
      exact h.2.2.cg l2 g2 (sM.fr hr.2.2.1 rfl rfl rfl rfl)
  obtain ⟨a1, ha1, h1⟩ := (qq1.1 : tr_r_X9_layDown t x1 x2 x3 B z1 u1)
  have kh := K_holds ha1
  obtain ⟨y1, hy1, h2⟩ := (qq2.1 : tr_r_X12_lay x1 x2 x3 A z2 u2)
  have m3 : (y1 = 1 ↔ 0 ≤ x1 ∧ x1 < B (t + 1) 3) ∧ (y1 = 0 ∨ y1 = 1) := M_isPerson hI h hy1
  rcases h2 with ⟨c2, h2⟩ | ⟨c2, y7, hy7, h2⟩
  · rcases h1 with ⟨c, -⟩ | ⟨c, hz, hu⟩
    · omega
    · exact no (by rw [hu]; exact sT.rf) hz h2
  have m2 : (y7 = 1 ↔ 0 ≤ x2 ∧ x2 < B (t + 1) 2) ∧ (y7 = 0 ∨ y7 = 1) := M_isKey hI h hy7
  rcases h2 with ⟨c3, h2⟩ | ⟨c3, _, _, w14, e14, h2⟩
  · rcases h1 with ⟨c, -⟩ | ⟨c, hz, hu⟩
    · omega
    · exact no (by rw [hu]; exact sT.rf) hz h2
  obtain ⟨p, rfl⟩ : ∃ p : Nat, x1 = (p : Int) := ⟨x1.toNat, by omega⟩
  obtain ⟨k, rfl⟩ : ∃ k : Nat, x2 = (k : Int) := ⟨x2.toNat, by (first | omega | (clear h1; omega) | (clear h2; omega) | (clear h; omega) | (clear hc; omega) | (clear h1 h2; omega) | (clear h1 h; omega) | (clear h1 hc; omega) | (clear h2 h; omega) | (clear h2 hc; omega) | (clear h hc; omega) | (clear h1 h2 h; omega) | (clear h1 h2 hc; omega) | (clear h1 h hc; omega) | (clear h2 h hc; omega))⟩
  have hp : (p : Int) < B (t + 1) 3 := by (first | omega | (clear h1; omega) | (clear h2; omega) | (clear h; omega) | (clear hc; omega) | (clear h1 h2; omega) | (clear h1 h; omega) | (clear h1 hc; omega) | (clear h2 h; omega) | (clear h2 hc; omega) | (clear h hc; omega) | (clear h1 h2 h; omega) | (clear h1 h2 hc; omega) | (clear h1 h hc; omega) | (clear h2 h hc; omega))
  have hk : (k : Int) < B (t + 1) 2 := by (first | omega | (clear h1; omega) | (clear h2; omega) | (clear h; omega) | (clear hc; omega) | (clear h1 h2; omega) | (clear h1 h; omega) | (clear h1 hc; omega) | (clear h2 h; omega) | (clear h2 hc; omega) | (clear h hc; omega) | (clear h1 h2 h; omega) | (clear h1 h2 hc; omega) | (clear h1 h hc; omega) | (clear h2 h hc; omega))
  have n4 : (4 * (b : Int) + (k : Int)).toNat = 4 * b + k := by omega
  have x13 : A 13 (4 * b + k) = B (t + 24) k := (h.2.2.1.1 k hk).1
  rw [h.1, n4, x13] at e14
  rw [Int.toNat_natCast] at kh
  rcases h2 with ⟨c4, h2⟩ | ⟨c4, h2⟩
  · rcases h1 with ⟨c, -⟩ | ⟨c, hz, hu⟩
    · omega
    · exact no (by rw [hu]; exact sT.rf) hz h2
  rcases h1 with ⟨_, a5, e5, h1⟩ | ⟨c, -⟩
  case inr => (first | omega | (clear h1; omega) | (clear h2; omega) | (clear h; omega) | (clear hc; omega) | (clear h1 h2; omega) | (clear h1 h; omega) | (clear h1 hc; omega) | (clear h2 h; omega) | (clear h2 hc; omega) | (clear h hc; omega) | (clear h1 h2 h; omega) | (clear h1 h2 hc; omega) | (clear h1 h hc; omega) | (clear h2 h hc; omega))
  rw [Int.toNat_natCast] at e5
  have e5 : a5 = B (t + 23) p := e5
  have bs : 0 ≤ B (t + 23) p ∧ B (t + 23) p < B (t + 1) 0 := hv.2.2.1 p hp
  have yes : (x3 = -1 ∨ opB (tw t B) x3 a5) → d_X9_layDown_1 t (k : Int) x3 a5 B z1 u1 → d_X12_lay_1 (p : Int) (k : Int) x3 A z2 u2 → z1 = z2 ∧ AC b u2 (tw t u1) := by
    intro ok g1 g2
    have g1 := (g1 : tr_d_X9_layDown_1 t (k : Int) x3 a5 B z1 u1)
    have g2 := (g2 : tr_d_X12_lay_1 (p : Int) (k : Int) x3 A z2 u2)
    obtain ⟨_, g2⟩ := (g2 : tr_d_X12_lay_3 (p : Int) (k : Int) x3 A z2 u2 1)
    rcases g2 with ⟨_, _, _, g2⟩ | ⟨c, -⟩
    case inr => exact absurd c (by decide)
    rcases g1 with ⟨c5, a14, ea, A15, eA, hz, hu⟩ | ⟨c5, a16, ea, A17, eA, hz, hu⟩
    · rcases g2 with ⟨_, hz2, hu2⟩ | ⟨c6, -⟩
      case inr => exact absurd c6 c5
      have ob := ok.resolve_left c5
      have o1 : 0 ≤ x3 ∧ x3 < B (t + 1) 1 := ob.1
      rw [oWrap_id ⟨by omega, by omega⟩] at ea
      rw [Int.toNat_natCast, ea] at eA
      have eA : A15 = stA B (t + 24) k (x3 + 20) := eA
      rw [h.1, n4] at hu2
      refine ⟨hz.trans hz2.symm, ?_⟩
      rw [hu2, hu, eA, tw_st]
      refine AC_where h.2.2 (Or.inr (Or.inl (Or.inr ⟨by omega, ?_, ?_⟩)))
      · show x3 + 20 < 20 + B (t + 1) 1
        omega
      · rw [show x3 + 20 - 20 = x3 by omega]
        exact ob.2.1
    · rcases g2 with ⟨c6, -⟩ | ⟨_, w35, hw35, hz2, hu2⟩
      · exact absurd c5 c6
      have e35 : w35 = B (t + 23) p := M_spotOf h.1 h.2.2.2.1 hp hw35
      rw [oWrap_id ⟨by omega, by omega⟩, e5] at ea
      rw [Int.toNat_natCast, ea] at eA
      have eA : A17 = stA B (t + 24) k (B (t + 23) p + 10) := eA
      rw [h.1, n4, e35] at hu2
      refine ⟨hz.trans hz2.symm, ?_⟩
      rw [hu2, hu, eA, tw_st]
      refine AC_where h.2.2 (Or.inr (Or.inl (Or.inl ⟨by omega, ?_⟩)))
      show B (t + 23) p + 10 < 10 + B (t + 1) 0
      omega
  rcases h2 with ⟨c5, h2⟩ | ⟨c5, w18, hw18, h2⟩
  · rcases h1 with ⟨_, h1⟩ | ⟨c6, -⟩
    · exact yes (Or.inl c5) h1 h2
    · exact absurd c5 c6
  rcases h1 with ⟨c6, -⟩ | ⟨_, a8, ha8, h1⟩
  · exact absurd c6 c5
  have ko := K_openBox hI h ha8
  have mo : (w18 = 1 ↔ opB (tw t B) x3 (B (t + 23) p)) ∧ (w18 = 0 ∨ w18 = 1) := M_openBox hI h hp hw18
  rw [← e5] at mo
  rcases h2 with ⟨c7, h2⟩ | ⟨c7, h2⟩
  · rcases h1 with ⟨c8, -⟩ | ⟨_, hz, hu⟩
    · exfalso
      have := mo.1.mpr (ko.1.mp (by omega))
      omega
    · exact no (by rw [hu]; exact sT.rf) hz h2
  · rcases h1 with ⟨_, h1⟩ | ⟨c8, -⟩
    · exact yes (Or.inr (mo.1.mp (by omega))) h1 h2
    · exfalso
      have := ko.1.mpr (mo.1.mp (by omega))
      omega
/-! What both sides keep between calls about persons, keys and bars. -/
def ACS (B A : St) : Prop := AC (A 0 12).toNat A (tw (51 + 31 * (B 0 9).toNat) B) ∧ MBc (A 0 12).toNat A (tw (51 + 31 * (B 0 9).toNat) B)
theorem tB {B : St} (hIK : IK B) : isT (51 + 31 * (B 0 9).toNat) := by
  have r9 : (0 : Int) ≤ B 0 9 ∧ B 0 9 ≤ 1 := hIK 0 9
  exact isT.b r9
theorem ACS.act {B A : St} (hIM : IM A) (hp : PSs B A) (ha : ACS B A) : ACT (A 0 12).toNat A (tw (51 + 31 * (B 0 9).toNat) B) := by
  have r12 : (0 : Int) ≤ A 0 12 ∧ A 0 12 ≤ 1 := hIM 0 12
  exact ⟨by omega, hp.2, ha.1⟩
theorem tw_rows {t : Nat} (hT : isT t) {P : List Nat} {F : List (Nat × Nat)} {B u : St} (h : fk P F B u) (L : List Nat) (hP : L.all (fun j => !P.contains (51 + j) && !P.contains (82 + j)) = true) (hF : F.all (fun x => decide (x.1 < 51)) = true) : ∀ j, L.contains j = true → tw t u j = tw t B j := by
  intro j hj
  have p : (!P.contains (51 + j) && !P.contains (82 + j)) = true := List.all_eq_true.mp hP j (List.contains_iff_mem.mp hj)
  simp only [Bool.and_eq_true, Bool.not_eq_true'] at p
  funext k
  refine h (t + j) k ?_ ?_
  · rcases hT with rfl | rfl
    · exact p.1
    · exact p.2
  · cases hc : fin2 F (t + j) k with
    | false => rfl
    | true =>
      have h1 := List.all_eq_true.mp hF _ (fin2_iff.mp hc)
      have h2 : t + j < 51 := of_decide_eq_true h1
      rcases hT with rfl | rfl <;> omega
def barT : List Nat := [1, 17, 18, 19, 20]
theorem MBc.fr {t b : Nat} (hT : isT t) {P : List Nat} {F : List (Nat × Nat)} {M' N' : List Nat} {B u A A2 : St} (h : MBc b A (tw t B)) (hf : fk P F B u) (hP : barT.all (fun j => !P.contains (51 + j) && !P.contains (82 + j)) = true) (hF : F.all (fun x => decide (x.1 < 51)) = true) (hg : fr M' N' A A2) (a : (M'.contains 31 || M'.contains 32 || M'.contains 33 || M'.contains 34) = false) : MBc b A2 (tw t u) := by
  have r := tw_rows hT hf barT hP hF
  simp only [Bool.or_eq_false_iff] at a
  obtain ⟨⟨⟨m1, m2⟩, m3⟩, m4⟩ := a
  intro k hk
  rw [r 1 rfl] at hk
  exact (h k hk).cg (hg.1 31 (by decide) m1) (hg.1 32 (by decide) m2) (hg.1 33 (by decide) m3) (hg.1 34 (by decide) m4) (r 17 rfl) (r 18 rfl) (by rw [r 19 rfl]) (r 20 rfl)
/-- a call that leaves all of it alone -/
theorem ACS.fr {B A B2 A2 : St} {P : List Nat} {F : List (Nat × Nat)} {M' N' : List Nat} (hIK : IK B) (hIM : IM A) (hp : PSs B A) (ha : ACS B A) (hf : fk P F B B2) (hP : ((actT ++ barT).all (fun j => !P.contains (51 + j) && !P.contains (82 + j)) && !P.contains 0) = true) (hF : F.all (fun x => decide (x.1 < 51) && !(Nat.beq x.1 0 && Nat.beq x.2 9)) = true) (hg : fr M' N' A A2) (hM : (M'.contains 13 || M'.contains 14 || M'.contains 15 || M'.contains 18 || M'.contains 31 || M'.contains 32 || M'.contains 33 || M'.contains 34) = false) (h12 : N'.contains 12 = false) : ACS B2 A2 := by
  have hT := tB hIK
  have l2 := ((ha.act hIM hp).lim hIM).2.2.1
  rw [Bool.and_eq_true, List.all_append, Bool.and_eq_true] at hP
  obtain ⟨⟨pa, pb⟩, p0⟩ := hP
  have p0 : P.contains 0 = false := by
    cases hc : P.contains 0 with
    | false => rfl
    | true => rw [hc] at p0; exact absurd p0 (by decide)
  have hF1 : F.all (fun x => decide (x.1 < 51)) = true := by
    refine List.all_eq_true.mpr (fun x hx => ?_)
    have := List.all_eq_true.mp hF x hx
    rw [Bool.and_eq_true] at this
    exact this.1
  have f9 : fin2 F 0 9 = false := by
    cases hc : fin2 F 0 9 with
    | false => rfl
    | true =>
      have := List.all_eq_true.mp hF _ (fin2_iff.mp hc)
      exact absurd this (by decide)
  have e9 : B2 0 9 = B 0 9 := hf 0 9 p0 f9
  simp only [Bool.or_eq_false_iff] at hM
  obtain ⟨⟨⟨⟨⟨⟨⟨m13, m14⟩, m15⟩, m18⟩, m31⟩, m32⟩, m33⟩, m34⟩ := hM
  unfold ACS
  rw [e9, hg.2 12 h12]
  refine ⟨ha.1.cg l2 (sT.fk hT hf pa hF1) (sM.fr hg m13 m14 m15 m18), MBc.fr hT ha.2 hf pb hF1 hg ?_⟩
  rw [m31, m32, m33, m34]
  rfl
/-- the end of a call that acts -/
theorem ACSfin {B A A4 A8 u2 : St} {P M' N' : List Nat} (hIK : IK B) (hIM : IM A) (hp : PSs B A) (ha : ACS B A) (ac : AC (A 0 12).toNat u2 (tw (51 + 31 * (B 0 9).toNat) A4)) (hf : fk P [] B A4) (hP : P.contains 0 = false) (hB : barT.all (fun j => !P.contains (51 + j) && !P.contains (82 + j)) = true) (n : fk [50] [] A4 A8) (hg : fr M' N' A u2) (hM : (M'.contains 31 || M'.contains 32 || M'.contains 33 || M'.contains 34) = false) (h12 : N'.contains 12 = false) : ACS A8 u2 := by
  have hT := tB hIK
  have f9 : A8 0 9 = B 0 9 := (n 0 9 rfl rfl).trans (hf 0 9 hP rfl)
  have l2 := ((ha.act hIM hp).lim hIM).2.2.1
  have l4 : tw (51 + 31 * (B 0 9).toNat) A4 1 2 ≤ 4 := by
    rw [tw_rows hT hf barT hB rfl 1 rfl]
    exact l2
  have mb := MBc.fr hT ha.2 hf hB rfl hg hM
  have mb2 := MBc.fr hT mb n rfl rfl (fr.rf : fr [] [] u2 u2) rfl
  unfold ACS
  rw [f9, hg.2 12 h12]
  exact ⟨ac.cg l4 (sT.fk hT n rfl rfl) sM.rf, mb2⟩
theorem act_ans {x z : Int} {A u : St} (h : q_X11_actAnswer x A z u) : z = x ∧ fk [50] [] A u := by
  refine ⟨?_, h.2.2.1⟩
  rcases (h.1 : tr_r_X11_actAnswer x A z u) with ⟨_, hz, _⟩ | ⟨c, z2, A3, hr, hz, _⟩
  · exact hz
  · rw [hz, hr.2.2.2, c]
theorem hand_ans {x z : Int} {A u : St} (h : q_X11_handingAnswer x A z u) : z = x ∧ fk [50] [] A u := by
  refine ⟨?_, h.2.2.1⟩
  rcases (h.1 : tr_r_X11_handingAnswer x A z u) with ⟨_, hz, _⟩ | ⟨_, z2, A3, _, hz, _⟩
  · exact hz
  · exact hz
theorem go_act {x1 x2 z1 z2 : Int} {B A u1 u2 : St} (hIK : IK B) (hIM : IM A) (hp : PSs B A) (ha : ACS B A) (h1 : r_X11_go x1 x2 B z1 u1) (h2 : q_X12_go x1 x2 A z2 u2) : z1 = z2 ∧ ACS u1 u2 := by
  obtain ⟨t2, ht2, z3, A4, hg, z7, A8, hn, hz, hu⟩ := (h1 : tr_r_X11_go x1 x2 B z1 u1)
  subst ht2
  obtain ⟨e, ac⟩ := go_eq (tB hIK) hIM (ha.act hIM hp) ha.2 hg h2
  obtain ⟨n1, n2⟩ := act_ans hn
  rw [hz, hu]
  exact ⟨n1.trans e, ACSfin hIK hIM hp ha ac hg.2.2.1 rfl rfl n2 h2.2.2.1 rfl rfl⟩
theorem open_act {x1 x2 z1 z2 : Int} {B A u1 u2 : St} (hIK : IK B) (hIM : IM A) (hp : PSs B A) (ha : ACS B A) (h1 : r_X11_open x1 x2 B z1 u1) (h2 : q_X12_open x1 x2 A z2 u2) : z1 = z2 ∧ ACS u1 u2 := by
  obtain ⟨t2, ht2, z3, A4, hg, z7, A8, hn, hz, hu⟩ := (h1 : tr_r_X11_open x1 x2 B z1 u1)
  subst ht2
  obtain ⟨e, ac⟩ := open_eq (tB hIK) hIM (ha.act hIM hp) hg h2
  obtain ⟨n1, n2⟩ := act_ans hn
  rw [hz, hu]
  exact ⟨n1.trans e, ACSfin hIK hIM hp ha ac hg.2.2.1 rfl rfl n2 h2.2.2.1 rfl rfl⟩
theorem shut_act {x1 x2 x3 z1 z2 : Int} {B A u1 u2 : St} (hIK : IK B) (hIM : IM A) (hp : PSs B A) (ha : ACS B A) (h1 : r_X11_shut x1 x2 x3 B z1 u1) (h2 : q_X12_shut x1 x2 x3 A z2 u2) : z1 = z2 ∧ ACS u1 u2 := by
  obtain ⟨t2, ht2, z3, A4, hg, z7, A8, hn, hz, hu⟩ := (h1 : tr_r_X11_shut x1 x2 x3 B z1 u1)
  subst ht2
  obtain ⟨e, ac⟩ := shut_eq (tB hIK) hIM (ha.act hIM hp) hg h2
  obtain ⟨n1, n2⟩ := act_ans hn
  rw [hz, hu]
  exact ⟨n1.trans e, ACSfin hIK hIM hp ha ac hg.2.2.1 rfl rfl n2 h2.2.2.1 rfl rfl⟩
theorem lend_act {x1 x2 x3 z1 z2 : Int} {B A u1 u2 : St} (hIK : IK B) (hIM : IM A) (hp : PSs B A) (ha : ACS B A) (h1 : r_X11_lend x1 x2 x3 B z1 u1) (h2 : q_X12_lend x1 x2 x3 A z2 u2) : z1 = z2 ∧ ACS u1 u2 := by
  obtain ⟨t2, ht2, z3, A4, hg, z7, A8, hn, hz, hu⟩ := (h1 : tr_r_X11_lend x1 x2 x3 B z1 u1)
  subst ht2
  obtain ⟨e, ac⟩ := lend_eq hIM (ha.act hIM hp) hg h2
  obtain ⟨n1, n2⟩ := hand_ans hn
  rw [hz, hu]
  exact ⟨n1.trans e, ACSfin hIK hIM hp ha ac hg.2.2.1 rfl rfl n2 h2.2.2.1 rfl rfl⟩
theorem take_act {x1 x2 z1 z2 : Int} {B A u1 u2 : St} (hIK : IK B) (hIM : IM A) (hp : PSs B A) (ha : ACS B A) (h1 : r_X11_take x1 x2 B z1 u1) (h2 : q_X12_take x1 x2 A z2 u2) : z1 = z2 ∧ ACS u1 u2 := by
  obtain ⟨t2, ht2, z3, A4, hg, z7, A8, hn, hz, hu⟩ := (h1 : tr_r_X11_take x1 x2 B z1 u1)
  subst ht2
  obtain ⟨e, ac⟩ := take_eq hIM (ha.act hIM hp) hg h2
  obtain ⟨n1, n2⟩ := hand_ans hn
  rw [hz, hu]
  exact ⟨n1.trans e, ACSfin hIK hIM hp ha ac hg.2.2.1 rfl rfl n2 h2.2.2.1 rfl rfl⟩
theorem lay_act {x1 x2 x3 z1 z2 : Int} {B A u1 u2 : St} (hx : R32 x3) (hIK : IK B) (hIM : IM A) (hp : PSs B A) (ha : ACS B A) (h1 : r_X11_lay x1 x2 x3 B z1 u1) (h2 : q_X12_lay x1 x2 x3 A z2 u2) : z1 = z2 ∧ ACS u1 u2 := by
  obtain ⟨t2, ht2, z3, A4, hg, z7, A8, hn, hz, hu⟩ := (h1 : tr_r_X11_lay x1 x2 x3 B z1 u1)
  subst ht2
  obtain ⟨e, ac⟩ := lay_eq hx hIM (ha.act hIM hp) hg h2
  obtain ⟨n1, n2⟩ := hand_ans hn
  rw [hz, hu]
  exact ⟨n1.trans e, ACSfin hIK hIM hp ha ac hg.2.2.1 rfl rfl n2 h2.2.2.1 rfl rfl⟩
theorem snap_act {x1 z1 z2 : Int} {B A u1 u2 : St} (hIK : IK B) (hIM : IM A) (hp : PSs B A) (ha : ACS B A) (h1 : r_X11_snap x1 B z1 u1) (h2 : q_X12_snap x1 A z2 u2) : z1 = z2 ∧ ACS u1 u2 := by
  have hA := ha.act hIM hp
  have hT := tB hIK
  have l2 := (hA.lim hIM).2.2.1
  have fr2 := h2.2.2.1
  obtain ⟨t2, ht2, z3, hi, h1⟩ := (h1 : tr_r_X11_snap x1 B z1 u1)
  subst ht2
  obtain ⟨y1, hy1, h2⟩ := (h2.1 : tr_r_X12_snap x1 A z2 u2)
  have ki := K_there2 hi
  have mi : (y1 = 1 ↔ 0 ≤ x1 ∧ x1 < B (51 + 31 * (B 0 9).toNat + 1) 2) ∧ (y1 = 0 ∨ y1 = 1) := M_isKey hIM hA hy1
  have no : ∀ {z7 : Int} {A8 : St} {y : Int} {v : St}, q_X11_refused 3 B z7 A8 → z1 = z7 → u1 = A8 → q_X12_refuses 3 A y v → z2 = y → u2 = v → z1 = z2 ∧ ACS u1 u2 := by
    intro z7 A8 y v g1 g2 g3 g4 g5 g6
    refine ⟨by rw [g2, g5, g1.2.2.2, g4.2.2.2], ?_⟩
    rw [g3, g6]
    refine ACSfin hIK hIM hp ha (A4 := B) (P := []) ?_ fk.rf rfl rfl g1.2.2.1 g4.2.2.1 rfl rfl
    exact ha.1.cg l2 sT.rf (sM.fr g4.2.2.1 rfl rfl rfl rfl)
  rcases h1 with ⟨c, z7, A8, hf, hz, hu⟩ | ⟨c, z11, e11, h1⟩
  · rcases h2 with ⟨_, z5, A6, hf2, hz2, hu2⟩ | ⟨c2, -⟩
    · exact no hf hz hu hf2 hz2 hu2
    · omega
  rcases h2 with ⟨c2, -⟩ | ⟨_, _, _, w12, e12, h2⟩
  · (first | omega | (clear h1; omega) | (clear h2; omega) | (clear h1 h2; omega))
  obtain ⟨k, rfl⟩ : ∃ k : Nat, x1 = (k : Int) := ⟨x1.toNat, by (first | omega | (clear h1; omega) | (clear h2; omega) | (clear h1 h2; omega))⟩
  have hk : (k : Int) < B (51 + 31 * (B 0 9).toNat + 1) 2 := by (first | omega | (clear h1; omega) | (clear h2; omega) | (clear h1 h2; omega))
  obtain ⟨b, hb⟩ : ∃ b : Nat, (A 0 12).toNat = b := ⟨_, rfl⟩
  rw [hb] at hA
  have n4 : (4 * (b : Int) + (k : Int)).toNat = 4 * b + k := by omega
  have x := hA.2.2.1.1 k hk
  have x13 : A 13 (4 * b + k) = B (51 + 31 * (B 0 9).toNat + 24) k := x.1
  have x14 : A 14 (4 * b + k) = B (51 + 31 * (B 0 9).toNat + 25) k := x.2.1
  rw [hA.1, n4, x13] at e12
  rw [Int.toNat_natCast] at e11
  have e11 : z11 = B (51 + 31 * (B 0 9).toNat + 24) k := e11
  rcases h1 with ⟨c3, A13, e13, z16, e16, hz, hu⟩ | ⟨c3, z17, A18, hf, hz, hu⟩
  · rcases h2 with ⟨_, _, _, A17, e17, _, _, w21, e21, hz2, hu2⟩ | ⟨c4, -⟩
    · rw [Int.toNat_natCast] at e13 e16
      have e13 : A13 = stA B (51 + 31 * (B 0 9).toNat + 24) k 40 := e13
      have e16 : z16 = A13 (51 + 31 * (B 0 9).toNat + 25) k := e16
      rw [hA.1, n4] at e17
      have r21 : w21 = B (51 + 31 * (B 0 9).toNat + 25) k := by
        rw [e21, hA.1, n4, e17, ← x14]
        rfl
      have r16 : z16 = B (51 + 31 * (B 0 9).toNat + 25) k := by
        rw [e16, e13, stA_ne _ _ (by omega)]
      refine ⟨by rw [hz, hz2, r16, r21], ?_⟩
      have ac := AC_where (q := k) hA.2.2 (v := 40) (Or.inr (Or.inr rfl))
      rw [← tw_st, ← e13, ← e17, ← hb] at ac
      rw [hu, hu2]
      have f13 : fk [75, 106] [] B A13 := by
        intro j i hj _
        rw [e13, stA_ne]
        intro ej
        subst ej
        rcases hT with e | e <;> (rw [e] at hj; exact absurd hj (by decide))
      exact ACSfin hIK hIM hp ha ac f13 rfl rfl fk.rf (by rw [← hu2]; exact fr2) rfl rfl
    · omega
  · rcases h2 with ⟨c4, -⟩ | ⟨_, z22, A23, hf2, hz2, hu2⟩
    · omega
    · exact no hf hz hu hf2 hz2 hu2
/-- another town, or none -/
theorem AC.ob {o b : Nat} {A u T : St} (h : AC o A T) (h4 : T 1 2 ≤ 4) (h3 : T 1 3 ≤ 3) (g : OB b A u) (ne : o ≠ b) : AC o u T := by
  have e : ∀ (j m k : Nat), j ≠ 0 → j ≤ 32 → bnk j = m → 0 < m → k < m → u j (m * o + k) = A j (m * o + k) := by
    intro j m k h0 h1 hm hp hk
    refine g j h0 h1 _ ?_
    rw [hm, Nat.mul_add_div hp, Nat.div_eq_of_lt hk]
    omega
  refine ⟨⟨fun k hk => ?_, h.1.2⟩, fun k hk => ?_, h.2.2⟩
  · have x := h.1.1 k hk
    have y := (h.2.2.2.2.2.1 k hk).1
    rw [e 13 4 k (by decide) (by decide) rfl (by decide) (by omega), e 14 4 k (by decide) (by decide) rfl (by decide) (by omega)]
    refine ⟨x.1, x.2.1, fun i hi => ?_⟩
    have z := e 15 40 (10 * k + i) (by decide) (by decide) rfl (by decide) (by omega)
    rw [← Nat.add_assoc] at z
    rw [z]
    exact x.2.2 i hi
  · rw [e 18 3 k (by decide) (by decide) rfl (by decide) (by omega)]
    exact h.2.1 k hk
theorem MBc.ob {o b : Nat} {A u T : St} (h : MBc o A T) (h6 : T 1 7 ≤ 6) (g : OB b A u) (gc : OC b A u) (ne : o ≠ b) : MBc o u T := by
  intro k hk
  obtain ⟨C, R, x1, x2, x3, x4, x5, x6, x7, x8, x9⟩ := h k hk
  have e : ∀ j, j ≠ 0 → j ≤ 32 → bnk j = 6 → u j (6 * o + k) = A j (6 * o + k) := by
    intro j h0 h1 hm
    refine g j h0 h1 _ ?_
    rw [hm, Nat.mul_add_div (by decide), Nat.div_eq_of_lt (by omega)]
    omega
  have e31 := e 31 (by decide) (by decide) rfl
  have e32 := e 32 (by decide) (by decide) rfl
  refine ⟨C, R, x1, x2, x3, x4, by rw [e31]; exact x5, by rw [e31, e32]; exact x6, by rw [e32]; exact x7, fun i hi => ?_, x9⟩
  have oc := gc (1600 * o + (A 31 (6 * o + k)).toNat + i) (by omega)
  rw [e31, oc.1, oc.2]
  exact x8 i hi
theorem town_ac {z1 z2 : Int} {B A u1 u2 : St} (hIK : IK B) (hIM : IM A) (he : B 1 1 = A 0 1) (hT : TB B A) (hO : OW B) (hp : PSs B A) (hac : ACS B A) (h1 : r_X11_town B z1 u1) (h2 : q_X12_town A z2 u2) : ACS u1 u2 := by
  have r01 : (0 : Int) ≤ A 0 1 ∧ A 0 1 ≤ 1600 := hIM 0 1
  have r12 : (0 : Int) ≤ A 0 12 ∧ A 0 12 ≤ 1 := hIM 0 12
  have r10 : (0 : Int) ≤ B 0 10 ∧ B 0 10 ≤ 1 := hIK 0 10
  have r9 : (0 : Int) ≤ B 0 9 ∧ B 0 9 ≤ 1 := hIK 0 9
  have s1 := hp.1
  obtain ⟨N, hN⟩ : ∃ N : Nat, A 0 1 = (N : Int) := ⟨(A 0 1).toNat, by omega⟩
  obtain ⟨b, hb⟩ : ∃ b : Nat, -(A 0 12) + 1 = (b : Int) := ⟨(-(A 0 12) + 1).toNat, by omega⟩
  obtain ⟨t2, ht2, z3, A4, hrd, A7, e7, h1⟩ := (h1 : tr_r_X11_town B z1 u1)
  have hta : isT t2 := by
    rcases (show B 0 10 = 0 ∨ B 0 10 = 1 by omega) with e | e
    · rw [e] at ht2; exact Or.inl ht2
    · rw [e] at ht2; exact Or.inr ht2
  have hE : EK (fun k => B 2 k % 256) N B := ⟨hIK, by rw [he, hN], by omega, fun k _ => rfl, hO⟩
  have cw := C_readTown hta hE hrd
  have mx := M_town (f := fun k => B 2 k % 256) (N := N) (b := b) (T := tw t2 B) hN (by omega) (fun k hk => (hT k (by omega)).symm) hb (by omega) h2
  have ob := O_town hb h2
  have oc := town_oc hb h2
  unfold CW at cw
  rcases mx with ⟨a, ha, hz, hm, h12⟩ | ⟨ha, hz⟩
  · obtain ⟨a', ha', hbc⟩ := M_townC (f := fun k => B 2 k % 256) (N := N) (b := b) (T := tw t2 B) (by rw [hz]; omega) hN (by omega) (fun k hk => (hT k (by omega)).symm) hb (by omega) h2
    have eaa : a' = a := Option.some.inj (ha'.symm.trans ha)
    rw [eaa] at hbc
    have vt := VT_town ha
    rw [ha] at cw
    obtain ⟨cz, _, ct⟩ := cw
    rcases h1 with ⟨_, t12, _, A15, e15, A16, e16, A17, e17, _, hu⟩ | ⟨c, -⟩
    · have w9 : u1 0 9 = B 0 10 := by rw [hu, e17, e16, e15]; rfl
      have et : tw t2 u1 = a.2 := by
        rw [← ct]
        funext j k
        show u1 (t2 + j) k = A4 (t2 + j) k
        have l51 : 51 ≤ t2 := by rcases hta with e | e <;> omega
        rw [hu, e17, stA_ne _ _ (by omega), e16, stA_ne _ _ (by omega), e15, stA_ne _ _ (by omega), e7, stA_ne _ _ (by omega)]
      unfold ACS
      rw [h12, Int.toNat_natCast, w9, ← ht2, et]
      obtain ⟨_, _, _, _, _, _, my, mp, _⟩ := hm
      exact ⟨⟨my, mp, vt⟩, hbc⟩
    · rw [cz] at c
      omega
  · rw [ha] at cw
    have cz : z3 = -1 := cw
    rcases h1 with ⟨c, -⟩ | ⟨_, z22, A23, hf, _, hu⟩
    · exact absurd cz c
    · have htt : TT t2 (51 + 31 * (B 0 9).toNat) := by
        unfold TT
        rcases (show B 0 10 = 0 ∨ B 0 10 = 1 by omega) with e | e
        · have e9 : B 0 9 = 1 := by omega
          rw [e] at ht2
          rw [e9]
          exact Or.inl ⟨ht2, rfl⟩
        · have e9 : B 0 9 = 0 := by omega
          rw [e] at ht2
          rw [e9]
          exact Or.inr ⟨ht2, rfl⟩
      have htb := tB hIK
      have ot := ot_r_X5_readTown htb htt OT.rf hrd.1
      have f9 : u1 0 9 = B 0 9 := by
        rw [hu, hf.2.2.1 0 9 rfl rfl, e7]
        exact hrd.2.2.1 0 9 rfl rfl
      have m12 : u2 0 12 = A 0 12 ∧ u2 0 75 = A 0 75 := M_townK (f := fun k => B 2 k % 256) hN (by omega) (fun k hk => (hT k (by omega)).symm) hb (by omega) hz h2
      have rows : ∀ j, j < 31 → tw (51 + 31 * (B 0 9).toNat) u1 j = tw (51 + 31 * (B 0 9).toNat) B j := by
        intro j j31
        funext k
        show u1 (51 + 31 * (B 0 9).toNat + j) k = B (51 + 31 * (B 0 9).toNat + j) k
        rw [hu, hf.2.2.1 _ k ?_ rfl, e7, stA_ne _ _ (by omega), ot j j31]
        cases hc : ([50] : List Nat).contains (51 + 31 * (B 0 9).toNat + j) with
        | false => rfl
        | true =>
          have := List.contains_iff_mem.mp hc
          simp at this
          omega
      have hA := hac.act hIM hp
      have l := hA.lim hIM
      have l7 : tw (51 + 31 * (B 0 9).toNat) B 1 7 ≤ 6 := by
        obtain ⟨_, ⟨_, mc, _⟩, _⟩ := hA
        have r29 : A 29 (A 0 12).toNat ≤ 6 := (hIM 29 _).2
        rw [mc.2.2] at r29
        exact r29
      have ac := hac.1.ob l.2.2.1 l.2.2.2 ob (by omega)
      have mb := hac.2.ob l7 ob oc (by omega)
      have st : sT (tw (51 + 31 * (B 0 9).toNat) B) (tw (51 + 31 * (B 0 9).toNat) u1) := by
        intro j hj
        refine rows j ?_
        have := List.contains_iff_mem.mp hj
        simp [actT] at this
        omega
      unfold ACS
      rw [m12.1, f9]
      refine ⟨ac.cg l.2.2.1 st sM.rf, fun k hk => ?_⟩
      rw [rows 1 (by decide)] at hk
      exact (mb k hk).cg rfl rfl rfl rfl (rows 17 (by decide)) (rows 18 (by decide)) (by rw [rows 19 (by decide)]) (rows 20 (by decide))
/-- a door -/
theorem K_rowsWithL {t d : Nat} {z : Int} {B : St} {p : Nat → Bool} (h4 : B (t + 1) 2 ≤ 4) (h6 : ∀ k, k < 4 → B (t + 25) k ≤ 6) (hp : ∀ k : Nat, (k : Int) < B (t + 1) 2 → (p k = true ↔ inR (tw t B) k d)) : ∀ (nn k : Nat) (m : Int), m = cd p k → (k : Int) ≤ B (t + 1) 2 → d_X9_rowsWith_1 t (d : Int) B z nn (k : Int) m → z = cd p (B (t + 1) 2).toNat := by
  intro nn
  induction nn with
  | zero => intro k m _ _ h; exact h.elim
  | succ nn ih =>
    intro k m hm hk h
    obtain ⟨_, _, z10, e10, h⟩ := (h : tr_d_X9_rowsWith_1 t (d : Int) B z (fun z1 z2 => d_X9_rowsWith_1 t (d : Int) B z nn z1 z2) (k : Int) m)
    have e10 : z10 = B (t + 1) 2 := e10
    have cb := cd_b (p := p) k
    rcases h with ⟨c, hz⟩ | ⟨c, z12, h12, h⟩
    · rw [hz, hm, show (B (t + 1) 2).toNat = k by omega]
    · have hk2 : (k : Int) < B (t + 1) 2 := by omega
      have kp := K_placeIn (by omega) (h6 k (by omega)) h12
      rcases h with ⟨c2, h⟩ | ⟨c2, z17, e17, h⟩
      · obtain ⟨_, h⟩ := (h : tr_d_X9_rowsWith_2 _ (k : Int) z m)
        refine ih (k + 1) m ?_ (by omega) (by rw [show ((k + 1 : Nat) : Int) = (k : Int) + 1 by omega]; exact h)
        have e : cd p (k + 1) = cd p k + (if p k = true then 1 else 0) := rfl
        rw [e, hm, if_neg, Int.add_zero]
        intro g
        have g := (hp k hk2).mp g
        rcases kp with x | x
        · exact x.2 g
        · exact x.1 c2
      · obtain ⟨_, h⟩ := (h : tr_d_X9_rowsWith_2 _ (k : Int) z z17)
        rw [oWrap_id ⟨by omega, by omega⟩] at e17
        refine ih (k + 1) z17 ?_ (by omega) (by rw [show ((k + 1 : Nat) : Int) = (k : Int) + 1 by omega]; exact h)
        have e : cd p (k + 1) = cd p k + (if p k = true then 1 else 0) := rfl
        rw [e17, e, hm, if_pos]
        refine (hp k hk2).mpr ?_
        rcases kp with x | x
        · exact absurd x.1 c2
        · exact x.2
/-- the reference's answer for a door, its rows counted -/
theorem M_doorL {b d : Nat} {x2 z : Int} {A T : St} {p : Nat → Bool} (hb : A 0 12 = (b : Int)) (h11 : A 11 b = T 1 2) (h4 : T 1 2 ≤ 4) (hK : MKy b A T) (hp : ∀ k : Nat, (k : Int) < T 1 2 → (p k = true ↔ inR T k d)) : ∀ (nn k : Nat) (m : Int), m = cd p k → (k : Int) ≤ T 1 2 → d_X12_door__1 (d : Int) x2 A z nn (k : Int) m → tr_d_X12_door__1 (d : Int) x2 A z (fun _ _ => False) (T 1 2) (cd p (T 1 2).toNat) := by
  intro nn
  induction nn with
  | zero => intro k m _ _ h; exact h.elim
  | succ nn ih =>
    intro k m hm hk h
    have cb := cd_b (p := p) k
    obtain ⟨f1, f2, z15, e15, h⟩ := (h : tr_d_X12_door__1 (d : Int) x2 A z (fun z5 z6 => d_X12_door__1 (d : Int) x2 A z nn z5 z6) (k : Int) m)
    have e15' := e15
    rw [hb, Int.toNat_natCast, h11] at e15
    rcases h with ⟨c, h⟩ | ⟨c, z48, h48, h⟩
    · have ek : T 1 2 = (k : Int) := by omega
      have en : (T 1 2).toNat = k := by omega
      rw [en, ← hm, ek]
      exact ⟨f1, f2, z15, e15', Or.inl ⟨c, h⟩⟩
    · have hk2 : (k : Int) < T 1 2 := by omega
      obtain ⟨r1, r2⟩ := M_inRow hb hk2 hK h48
      have on : ∀ w : Int, (w = if p k = true then 1 else 0) → d_X12_door__2 (fun z5 z6 => d_X12_door__1 (d : Int) x2 A z nn z5 z6) (k : Int) m z w → tr_d_X12_door__1 (d : Int) x2 A z (fun _ _ => False) (T 1 2) (cd p (T 1 2).toNat) := by
        intro w hw h
        obtain ⟨_, z57, e57, h⟩ := (h : tr_d_X12_door__2 (fun z5 z6 => d_X12_door__1 (d : Int) x2 A z nn z5 z6) (k : Int) m z w)
        have w01 : 0 ≤ w ∧ w ≤ 1 := by rw [hw]; split <;> omega
        rw [oWrap_id ⟨by omega, by omega⟩] at e57
        refine ih (k + 1) z57 ?_ (by omega) (by rw [show ((k + 1 : Nat) : Int) = (k : Int) + 1 by omega]; exact h)
        rw [e57, hm, hw]
        rfl
      rcases h with ⟨c2, h⟩ | ⟨c2, h⟩
      · refine on 0 ?_ h
        rw [if_neg]
        intro g
        have := r1.mpr ((hp k hk2).mp g)
        omega
      · refine on 1 ?_ h
        rw [if_pos]
        exact (hp k hk2).mpr (r1.mp (by omega))
theorem bit_01 {x : Int} {d : Nat} {P : Prop} (hx : 0 ≤ x ∧ x < 1024) (hd : d < 10) (h : x.toNat.testBit d = true ↔ P) : (P → oAnd (oShr x (d : Int)) 1 = 1) ∧ (¬ P → oAnd (oShr x (d : Int)) 1 = 0) := by
  have e := bit_tb ⟨x.toNat, by omega⟩ ⟨d, hd⟩
  simp only [show ((x.toNat : Nat) : Int) = x by omega] at e
  constructor
  · intro g
    rw [e, if_pos (h.mpr g)]
  · intro g
    rw [e, if_neg (fun c => g (h.mp c))]
theorem door_eq {x1 x2 z1 z2 : Int} {B A : St} (hIK : IK B) (hIM : IM A) (hp : PSs B A) (ha : ACS B A) (h1 : r_X11_door x1 x2 B z1) (h2 : r_X12_door_ x1 x2 A z2) : z1 = z2 := by
  classical
  have hA := ha.act hIM hp
  obtain ⟨b, hb⟩ : ∃ b : Nat, (A 0 12).toNat = b := ⟨_, rfl⟩
  rw [hb] at hA
  obtain ⟨t, ht, z3, hi, h1⟩ := (h1 : tr_r_X11_door x1 x2 B z1)
  rw [← ht] at hA
  obtain ⟨y1, hy1, h2⟩ := (h2 : tr_r_X12_door_ x1 x2 A z2)
  have l := hA.lim hIM
  have l1 : B (t + 1) 1 ≤ 10 := l.2.1
  have l2 : B (t + 1) 2 ≤ 4 := l.2.2.1
  have hv := hA.2.2.2.2
  have rb := hv.rb l1
  obtain ⟨nb, dr, ls⟩ := hA.st
  have h15 : 0 ≤ B t 15 ∧ B t 15 < 1024 := ls.1
  have k2 : 0 ≤ B (t + 1) 2 := hv.1.2.2.1
  have ki := K_there1 hi
  have mi : (y1 = 1 ↔ 0 ≤ x1 ∧ x1 < B (t + 1) 1) ∧ (y1 = 0 ∨ y1 = 1) := M_isDoor hIM hA hy1
  rcases h1 with ⟨c, h1⟩ | ⟨c, hz⟩
  case inr =>
    rcases h2 with ⟨c2, -⟩ | ⟨_, hz2⟩
    · omega
    · rw [hz, hz2]
  rcases h2 with ⟨_, nn, h2⟩ | ⟨c2, -⟩
  case inr => (first | omega | (clear h1; omega) | (clear h2; omega) | (clear h1 h2; omega))
  obtain ⟨d, rfl⟩ : ∃ d : Nat, x1 = (d : Int) := ⟨x1.toNat, by (first | omega | (clear h1; omega) | (clear h2; omega) | (clear h1 h2; omega))⟩
  have hd : (d : Int) < B (t + 1) 1 := by omega
  have hd10 : d < 10 := by omega
  have n10 : (10 * (b : Int) + (d : Int)).toNat = 10 * b + d := by omega
  have m := M_doorL (p := fun k => decide (inR (tw t B) k d)) hA.1 hA.cnt.2.2.1 l2 hA.2.2.1 (fun k _ => decide_eq_true_iff) nn 0 0 rfl k2 h2
  obtain ⟨_, _, z15, e15, m⟩ := m
  rw [hA.1, Int.toNat_natCast, hA.cnt.2.2.1] at e15
  rcases m with ⟨_, m⟩ | ⟨c15, -⟩
  case inr => omega
  have drd := dr d hd
  have nbd : A 8 (10 * b + d) = 0 ↔ B (t + 10) d ≠ 0 := nb d hd
  have lsd := ls.2.1 d hd
  rcases h1 with ⟨c3, hz⟩ | ⟨c3, w, ew, hz⟩ | ⟨c3, w, ew, hz⟩ | ⟨c3, w, hw, h1⟩ | ⟨c3, w, ew, hz⟩ | ⟨c3, w, hw, w2, ew2, w3, ew3, hz⟩ | ⟨c3, w, hw, hz⟩ | ⟨c3, w2, ew2, w3, ew3, hz⟩ | ⟨c3, w, hw, w2, ew2, w3, ew3, hz⟩
  · rcases m with ⟨_, hz2⟩ | ⟨g, _⟩ | ⟨g, _⟩ | ⟨g, _⟩ | ⟨g, _⟩ | ⟨g, _⟩ | ⟨g, _⟩ | ⟨g, _⟩ | ⟨g, _⟩
    · rw [hz, hz2]
    all_goals omega
  · rcases m with ⟨g, _⟩ | ⟨_, _, _, v, ev, hz2⟩ | ⟨g, _⟩ | ⟨g, _⟩ | ⟨g, _⟩ | ⟨g, _⟩ | ⟨g, _⟩ | ⟨g, _⟩ | ⟨g, _⟩
    · omega
    · rw [hA.1, n10, drd.1] at ev
      rw [Int.toNat_natCast] at ew
      rw [hz, hz2, ew, ev]
      rfl
    all_goals omega
  · rcases m with ⟨g, _⟩ | ⟨g, _⟩ | ⟨_, _, _, v, ev, hz2⟩ | ⟨g, _⟩ | ⟨g, _⟩ | ⟨g, _⟩ | ⟨g, _⟩ | ⟨g, _⟩ | ⟨g, _⟩
    · omega
    · omega
    · rw [hA.1, n10, drd.2.1] at ev
      rw [Int.toNat_natCast] at ew
      rw [hz, hz2, ew, ev]
      rfl
    all_goals omega
  · have kb := K_isBox hw
    rw [Int.toNat_natCast] at kb
    rcases m with ⟨g, _⟩ | ⟨g, _⟩ | ⟨g, _⟩ | ⟨_, _, _, v, ev, m⟩ | ⟨g, _⟩ | ⟨g, _⟩ | ⟨g, _⟩ | ⟨g, _⟩ | ⟨g, _⟩
    · omega
    · omega
    · omega
    · rw [hA.1, n10] at ev
      rw [← ev] at nbd
      rcases h1 with ⟨c4, hz⟩ | ⟨c4, hz⟩
      · rcases m with ⟨_, hz2⟩ | ⟨c5, -⟩
        · rw [hz, hz2]
        · exact absurd (nbd.mpr (fun g => by omega)) c5
      · rcases m with ⟨c5, -⟩ | ⟨_, hz2⟩
        · exact absurd (nbd.mp c5) (by omega)
        · rw [hz, hz2]
    all_goals omega
  · rcases m with ⟨g, _⟩ | ⟨g, _⟩ | ⟨g, _⟩ | ⟨g, _⟩ | ⟨_, _, _, v, ev, hz2⟩ | ⟨g, _⟩ | ⟨g, _⟩ | ⟨g, _⟩ | ⟨g, _⟩
    · omega
    · omega
    · omega
    · omega
    · rw [hA.1, n10, drd.2.2] at ev
      rw [Int.toNat_natCast] at ew
      rw [hz, hz2, ew, ev]
      rfl
    all_goals omega
  · obtain ⟨q1, q2⟩ := K_shutMask rb l2 h15 hw
    have bb := bit_01 q1 hd10 (q2 d hd10)
    rw [← ew2, ← ew3] at bb
    rcases m with ⟨g, _⟩ | ⟨g, _⟩ | ⟨g, _⟩ | ⟨g, _⟩ | ⟨g, _⟩ | ⟨_, v, hv2, m⟩ | ⟨g, _⟩ | ⟨g, _⟩ | ⟨g, _⟩
    · omega
    · omega
    · omega
    · omega
    · omega
    · have ms := M_isShut hA.1 hA.cnt.2.2.1 hA.2.2.1 hd ls hv2
      rcases m with ⟨c4, hz2⟩ | ⟨c4, hz2⟩
      · rw [hz, hz2, bb.2 (fun g => by have := ms.1.mpr g; omega)]
      · rw [hz, hz2, bb.1 (ms.1.mp (by omega))]
    all_goals omega
  · rcases m with ⟨g, _⟩ | ⟨g, _⟩ | ⟨g, _⟩ | ⟨g, _⟩ | ⟨g, _⟩ | ⟨g, _⟩ | ⟨_, hz2⟩ | ⟨g, _⟩ | ⟨g, _⟩
    · omega
    · omega
    · omega
    · omega
    · omega
    · omega
    · obtain ⟨n2, hw⟩ := (hw.1 : tr_r_X9_rowsWith t (d : Int) B w)
      have r := K_rowsWithL (p := fun k => decide (inR (tw t B) k d)) l2 (fun k hk => (rb k hk).1.2) (fun k _ => decide_eq_true_iff) n2 0 0 rfl k2 hw
      rw [hz, hz2, r]
      rfl
    all_goals omega
  · have bb := bit_01 (P := (B t 15).toNat.testBit d = true) h15 hd10 Iff.rfl
    rw [← ew2, ← ew3] at bb
    rcases m with ⟨g, _⟩ | ⟨g, _⟩ | ⟨g, _⟩ | ⟨g, _⟩ | ⟨g, _⟩ | ⟨g, _⟩ | ⟨g, _⟩ | ⟨_, _, _, v, ev, m⟩ | ⟨g, _⟩
    · omega
    · omega
    · omega
    · omega
    · omega
    · omega
    · omega
    · rw [hA.1, n10] at ev
      rw [← ev] at lsd
      have lsd : v = 0 ↔ (B t 15).toNat.testBit d = false := lsd
      rcases m with ⟨c4, hz2⟩ | ⟨c4, hz2⟩
      · rw [hz, hz2, bb.2 (fun g => by rw [lsd.mp c4] at g; exact absurd g Bool.false_ne_true)]
      · rw [hz, hz2, bb.1 ?_]
        cases hc : (B t 15).toNat.testBit d with
        | true => rfl
        | false => exact absurd (lsd.mpr hc) c4
    · omega
  · obtain ⟨q1, q2⟩ := K_deadMask rb l2 h15 hw
    have bb := bit_01 q1 hd10 (q2 d hd10)
    rw [← ew2, ← ew3] at bb
    rcases m with ⟨g, _⟩ | ⟨g, _⟩ | ⟨g, _⟩ | ⟨g, _⟩ | ⟨g, _⟩ | ⟨g, _⟩ | ⟨g, _⟩ | ⟨g, _⟩ | ⟨_, v, hv2, m⟩
    · omega
    · omega
    · omega
    · omega
    · omega
    · omega
    · omega
    · omega
    · have ms := M_isDead hA.1 hA.cnt.2.2.1 hA.2.2.1 hd ls hv2
      rcases m with ⟨c4, hz2⟩ | ⟨c4, hz2⟩
      · rw [hz, hz2, bb.2 (fun g => by have := ms.1.mpr g; omega)]
      · rw [hz, hz2, bb.1 (ms.1.mp (by omega))]
