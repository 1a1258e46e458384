/-! The reference's codes: what a turn writes. -/
def sc (s : Int) : Int := if s = 22 then -6 else if s = 21 then -7 else if s = 20 then -8 else if s = 17 then -9 else if s = 18 then -10 else if s = 19 then -11 else if s = 9 then -5 else if s < 5 then -s else -2 - s
def ENC (s v w : Int) : Prop := (s = 0 ∧ w = v ∧ 0 ≤ v ∧ v ≤ 9999) ∨ (¬ s = 0 ∧ w = sc s ∧ (1 ≤ s ∧ s ≤ 22) ∧ (s ≤ 4 ∨ 9 ≤ s))
def CSm (A v : St) : Prop := v 33 = A 33 ∧ v 34 = A 34 ∧ v 38 = A 38 ∧ v 39 = A 39 ∧ v 40 = A 40 ∧ v 0 46 = A 0 46 ∧ v 0 56 = A 0 56
theorem CSm.rf {A : St} : CSm A A := ⟨rfl, rfl, rfl, rfl, rfl, rfl, rfl⟩
theorem CSm.trans {A B C : St} (h : CSm A B) (g : CSm B C) : CSm A C := ⟨g.1.trans h.1, g.2.1.trans h.2.1, g.2.2.1.trans h.2.2.1, g.2.2.2.1.trans h.2.2.2.1, g.2.2.2.2.1.trans h.2.2.2.2.1, g.2.2.2.2.2.1.trans h.2.2.2.2.2.1, g.2.2.2.2.2.2.trans h.2.2.2.2.2.2⟩
theorem ahead_cs {A v : St} (h : q_X12_ahead A v) : CSm A v := ⟨h.2.2.1.1 33 (by decide) rfl, h.2.2.1.1 34 (by decide) rfl, h.2.2.1.1 38 (by decide) rfl, h.2.2.1.1 39 (by decide) rfl, h.2.2.1.1 40 (by decide) rfl, h.2.2.1.2 46 rfl, h.2.2.1.2 56 rfl⟩
/-- the codes W are written behind those that were there -/
def EW (b : Nat) (A A' : St) (W : List Int) : Prop := A' 0 46 = A 0 46 + (W.length : Int) ∧ (∀ k : Nat, (k : Int) < 1600 * (b : Int) + A 0 46 → A' 33 k = A 33 k ∧ A' 34 k = A 34 k) ∧ ∀ i, i < W.length → ENC (A' 33 (1600 * b + (A 0 46).toNat + i)) (A' 34 (1600 * b + (A 0 46).toNat + i)) (W.getD i 0)
theorem EW.rf {b : Nat} {A : St} : EW b A A [] := ⟨by show A 0 46 = A 0 46 + ((0 : Nat) : Int); omega, fun _ _ => ⟨rfl, rfl⟩, fun i hi => absurd hi (Nat.not_lt_zero i)⟩
theorem EW.cs {b : Nat} {A B C : St} {W : List Int} (h : EW b A B W) (g : CSm B C) : EW b A C W := by
  obtain ⟨g1, g2, _, _, _, g6, _⟩ := g
  unfold EW
  rw [g1, g2, g6]
  exact h
theorem EW.sc {b : Nat} {A B C : St} {W : List Int} (g : CSm A B) (h : EW b B C W) : EW b A C W := by
  obtain ⟨g1, g2, _, _, _, g6, _⟩ := g
  unfold EW at h ⊢
  rw [g1, g2, g6] at h
  exact h
theorem getD_app {V : List Int} {i : Nat} : ∀ W : List Int, (W ++ V).getD i 0 = if i < W.length then W.getD i 0 else V.getD (i - W.length) 0 := by
  intro W
  induction W generalizing i with
  | nil => rw [if_neg (show ¬ i < ([] : List Int).length from Nat.not_lt_zero i)]; rfl
  | cons w W ih =>
    cases i with
    | zero => rw [if_pos (show 0 < (w :: W).length from Nat.succ_pos _)]; rfl
    | succ i =>
      show (W ++ V).getD i 0 = if i + 1 < W.length + 1 then W.getD i 0 else V.getD (i + 1 - (W.length + 1)) 0
      rw [ih]
      by_cases c : i < W.length
      · rw [if_pos c, if_pos (by omega)]
      · rw [if_neg c, if_neg (by omega), show i + 1 - (W.length + 1) = i - W.length by omega]
theorem EW.trans {b : Nat} {A B C : St} {W V : List Int} (h0 : 0 ≤ A 0 46) (h : EW b A B W) (g : EW b B C V) : EW b A C (W ++ V) := by
  obtain ⟨h1, h2, h3⟩ := h
  obtain ⟨g1, g2, g3⟩ := g
  refine ⟨by rw [List.length_append]; omega, fun k hk => ?_, fun i hi => ?_⟩
  · have a := h2 k hk
    have c := g2 k (by omega)
    exact ⟨c.1.trans a.1, c.2.trans a.2⟩
  · rw [List.length_append] at hi
    rw [getD_app]
    by_cases c : i < W.length
    · rw [if_pos c]
      have e := g2 (1600 * b + (A 0 46).toNat + i) (by omega)
      rw [e.1, e.2]
      exact h3 i c
    · rw [if_neg c]
      have e := g3 (i - W.length) (by omega)
      rw [show 1600 * b + (B 0 46).toNat + (i - W.length) = 1600 * b + (A 0 46).toNat + i by omega] at e
      exact e
theorem EW.nn {b : Nat} {A B : St} {W : List Int} (h0 : 0 ≤ A 0 46) (h : EW b A B W) : 0 ≤ B 0 46 := by
  have := h.1
  omega
theorem add_ew {b : Nat} {A u : St} {s v w : Int} (hb : A 0 47 = (b : Int)) (h0 : 0 ≤ A 0 46) (he : ENC s v w) (h : q_X12_add s v A u) : EW b A u [w] ∧ u 38 = A 38 ∧ u 39 = A 39 ∧ u 40 = A 40 ∧ u 0 56 = A 0 56 ∧ u 0 47 = A 0 47 := by
  obtain ⟨A1, e1, e2⟩ := (h.1 : tr_r_X12_add s v A u)
  rw [hb, show (1600 * (b : Int) + A 0 46).toNat = 1600 * b + (A 0 46).toNat by omega] at e1
  rw [e2, e1]
  refine ⟨⟨rfl, fun k hk => ?_, fun i hi => ?_⟩, rfl, rfl, rfl, rfl, rfl⟩
  · show up (A 33) _ s k = A 33 k ∧ up (A 34) _ v k = A 34 k
    rw [up_ne _ _ (by omega), up_ne _ _ (by omega)]
    exact ⟨rfl, rfl⟩
  · have i0 : i = 0 := by
      have : i < 1 := hi
      omega
    subst i0
    show ENC (up (A 33) _ s (1600 * b + (A 0 46).toNat)) (up (A 34) _ v (1600 * b + (A 0 46).toNat)) w
    rw [up_same, up_same]
    exact he
/-- operations held back, the top one first, from m on -/
def PD (m : Nat) (g : Nat → Int) : List Int → Prop
  | [] => True
  | x :: P => g (m + P.length) = x ∧ PD m g P
theorem PD.cg {m : Nat} {g h : Nat → Int} : ∀ P : List Int, (∀ i, m ≤ i → i < m + P.length → h i = g i) → PD m g P → PD m h P := by
  intro P
  induction P with
  | nil => intro _ _; exact True.intro
  | cons x P ih =>
    intro e p
    exact ⟨(e _ (by omega) (by show m + P.length < m + (P.length + 1); omega)).trans p.1, ih (fun i h1 h2 => e i h1 (by show i < m + (P.length + 1); omega)) p.2⟩
theorem PD.snoc {m : Nat} {g : Nat → Int} {x : Int} : ∀ P : List Int, PD (m + 1) g P → g m = x → PD m g (P ++ [x]) := by
  intro P
  induction P with
  | nil => intro _ h; exact ⟨h, True.intro⟩
  | cons y P ih =>
    intro p h
    refine ⟨?_, ih p.2 h⟩
    show g (m + (P ++ [x]).length) = y
    rw [List.length_append, show m + (P.length + [x].length) = m + 1 + P.length by show m + (P.length + 1) = m + 1 + P.length; omega]
    exact p.1
def RG (lo : Int) (P : List Int) : Prop := ∀ x ∈ P, lo ≤ rk x ∧ 10 ≤ x ∧ x ≤ 22
theorem RG.mono {lo lo' : Int} {P : List Int} (h : RG lo P) (g : lo' ≤ lo) : RG lo' P := fun x hx => ⟨Int.le_trans g (h x hx).1, (h x hx).2⟩
theorem RG.app {lo : Int} {P Q : List Int} (h : RG lo P) (g : RG lo Q) : RG lo (P ++ Q) := fun x hx => (List.mem_append.mp hx).elim (h x) (g x)
theorem RG.one {lo x : Int} (h : lo ≤ rk x ∧ 10 ≤ x ∧ x ≤ 22) : RG lo [x] := fun y hy => by rw [List.mem_singleton.mp hy]; exact h
theorem enc_op {x : Int} (h : 10 ≤ x ∧ x ≤ 22) : ENC x 0 (sc x) := Or.inr ⟨by omega, rfl, ⟨by omega, h.2⟩, Or.inr (by omega)⟩
/-- what is held back from m on goes out, and no more -/
theorem joins_ew {b m D : Nat} {lo : Int} {A0 u : St} (hD : A0 0 53 = (D : Int)) (h1 : 1 ≤ D) : ∀ (nn : Nat) (P : List Int) (A : St), A 0 47 = (b : Int) → 0 ≤ A 0 46 → A 0 56 = ((m + P.length : Nat) : Int) → PD m (A 40) P → RG lo P → (A 39 (D - 1) = (m : Int) ∨ (A 39 (D - 1) < (m : Int) ∧ rk (A 40 (m - 1)) < lo)) → d_X12_joins_1 lo A0 u nn A → EW b A u (P.map sc) ∧ u 38 = A 38 ∧ u 39 = A 39 ∧ u 40 = A 40 ∧ u 0 56 = (m : Int) ∧ u 0 47 = A 0 47 := by
  intro nn
  induction nn with
  | zero => intro P A _ _ _ _ _ _ h; exact h.elim
  | succ nn ih =>
    intro P A hb h0 h56 hP hR hL h
    obtain ⟨_, z10, e10, h⟩ := (h : tr_d_X12_joins_1 lo A0 u (fun A2 => d_X12_joins_1 lo A0 u nn A2) A)
    rw [show (A0 0 53 - 1).toNat = D - 1 by omega] at e10
    cases P with
    | nil =>
      have h56 : A 0 56 = (m : Int) := h56
      rcases h with ⟨_, hu⟩ | ⟨c, z14, e14, z15, hr, h⟩
      · rw [hu]; exact ⟨EW.rf, rfl, rfl, rfl, h56, rfl⟩
      · rcases hL with g | ⟨g1, g2⟩
        · omega
        · rcases h with ⟨_, hu⟩ | ⟨c2, _⟩
          · rw [hu]; exact ⟨EW.rf, rfl, rfl, rfl, h56, rfl⟩
          · rw [hr.2.2.2, e14, show (A 0 56 - 1).toNat = m - 1 by omega] at c2
            exact absurd g2 c2
    | cons x P =>
      have h56 : A 0 56 = ((m + (P.length + 1) : Nat) : Int) := h56
      have hx := hR x List.mem_cons_self
      have px := hP.1
      rcases h with ⟨c, _⟩ | ⟨_, z14, e14, z15, hr, h⟩
      · rcases hL with g | ⟨g1, _⟩ <;> omega
      · have ei : (A 0 56 - 1).toNat = m + P.length := by omega
        rw [ei, px] at e14
        rcases h with ⟨c2, _⟩ | ⟨_, z21, e21, A22, e22, A23, ha, h⟩
        · rw [hr.2.2.2, e14] at c2
          omega
        · have e21 : z21 = x := by
            rw [e21, ei]
            exact px
          rw [e21] at ha
          have b22 : A22 0 47 = (b : Int) := by rw [e22]; exact hb
          have n22 : A22 0 46 = A 0 46 := by rw [e22]; rfl
          have ad := add_ew b22 (by rw [n22]; exact h0) (enc_op hx.2) ha
          obtain ⟨w1, w2, w3, w4, w5, w6⟩ := ad
          have r38 : A22 38 = A 38 := by rw [e22]; rfl
          have r39 : A22 39 = A 39 := by rw [e22]; rfl
          have r40 : A22 40 = A 40 := by rw [e22]; rfl
          have e56 : A22 0 56 = A 0 56 - 1 := by rw [e22]; rfl
          have w0 : EW b A A23 [sc x] := by
            have k33 : A22 33 = A 33 := by rw [e22]; rfl
            have k34 : A22 34 = A 34 := by rw [e22]; rfl
            unfold EW at w1 ⊢
            rw [n22, k33, k34] at w1
            exact w1
          have g := ih P A23 (by rw [w6]; exact b22) (w0.nn h0) (by rw [w5, e56]; omega) (by rw [w4, r40]; exact hP.2) (fun y hy => hR y (List.mem_cons_of_mem _ hy)) (by rw [w3, r39, w4, r40]; exact hL) h
          refine ⟨EW.trans h0 w0 g.1, g.2.1.trans (w2.trans r38), g.2.2.1.trans (w3.trans r39), g.2.2.2.1.trans (w4.trans r40), g.2.2.2.2.1, g.2.2.2.2.2.trans (w6.trans ?_)⟩
          rw [e22]; rfl
theorem q_joins_ew {b m D : Nat} {lo : Int} {P : List Int} {A u : St} (hD : A 0 53 = (D : Int)) (h1 : 1 ≤ D) (hb : A 0 47 = (b : Int)) (h0 : 0 ≤ A 0 46) (h56 : A 0 56 = ((m + P.length : Nat) : Int)) (hP : PD m (A 40) P) (hR : RG lo P) (hL : A 39 (D - 1) = (m : Int) ∨ (A 39 (D - 1) < (m : Int) ∧ rk (A 40 (m - 1)) < lo)) (h : q_X12_joins lo A u) : EW b A u (P.map sc) ∧ u 38 = A 38 ∧ u 39 = A 39 ∧ u 40 = A 40 ∧ u 0 56 = (m : Int) ∧ u 0 47 = A 0 47 := by
  obtain ⟨nn, h⟩ := (h.1 : tr_r_X12_joins lo A u)
  exact joins_ew hD h1 nn P A hb h0 h56 hP hR hL h
theorem q_holds_ew {b m : Nat} {x : Int} {A u : St} (h56 : A 0 56 = (m : Int)) (h : q_X12_holdsBack x A u) : EW b A u [] ∧ u 38 = A 38 ∧ u 39 = A 39 ∧ u 40 = up (A 40) m x ∧ u 0 56 = ((m + 1 : Nat) : Int) := by
  obtain ⟨A1, e1, e2⟩ := (h.1 : tr_r_X12_holdsBack x A u)
  rw [h56, Int.toNat_natCast] at e1
  rw [e2, e1]
  exact ⟨EW.rf, rfl, rfl, rfl, rfl⟩
/-- what stands below is of another kind -/
def LO (lo : Int) (m D : Nat) (A : St) : Prop := 0 ≤ A 0 46 ∧ A 0 56 = (m : Int) ∧ (A 39 (D - 1) = (m : Int) ∨ (1 ≤ m ∧ A 39 (D - 1) < (m : Int) ∧ rk (A 40 (m - 1)) < lo))
theorem LO.mono {lo lo' : Int} {m D : Nat} {A : St} (h : LO lo m D A) (g : lo ≤ lo') : LO lo' m D A := ⟨h.1, h.2.1, h.2.2.elim Or.inl (fun x => Or.inr ⟨x.1, x.2.1, by have := x.2.2; omega⟩)⟩
/-- codes onto the class's row -/
def apT (T : St) : List Int → St
  | [] => T
  | w :: W => apT (stA (stA T 20 (T 19 2).toNat w) 19 2 (T 19 2 + 1)) W
theorem apT_app {V : List Int} : ∀ (W : List Int) (T : St), apT T (W ++ V) = apT (apT T W) V := by
  intro W
  induction W with
  | nil => intro T; rfl
  | cons w W ih => intro T; exact ih _
theorem apT_sz : ∀ (W : List Int) (T : St), apT T W 19 2 = T 19 2 + (W.length : Int) := by
  intro W
  induction W with
  | nil => intro T; show T 19 2 = T 19 2 + ((0 : Nat) : Int); omega
  | cons w W ih =>
    intro T
    show apT _ W 19 2 = T 19 2 + ((W.length + 1 : Nat) : Int)
    rw [ih]
    show T 19 2 + 1 + (W.length : Int) = _
    omega
theorem apT_lo {k : Nat} : ∀ (W : List Int) (T : St), (k : Int) < T 19 2 → apT T W 20 k = T 20 k := by
  intro W
  induction W with
  | nil => intro T _; rfl
  | cons w W ih =>
    intro T h
    have g := ih (stA (stA T 20 (T 19 2).toNat w) 19 2 (T 19 2 + 1)) (by show (k : Int) < T 19 2 + 1; omega)
    refine g.trans ?_
    show up (T 20) (T 19 2).toNat w k = T 20 k
    exact up_ne _ _ (by omega)
theorem apT_at {i : Nat} : ∀ (W : List Int) (T : St), 0 ≤ T 19 2 → i < W.length → apT T W 20 ((T 19 2).toNat + i) = W.getD i 0 := by
  intro W
  induction W generalizing i with
  | nil => intro T _ h; exact absurd h (Nat.not_lt_zero i)
  | cons w W ih =>
    intro T h0 h
    cases i with
    | zero =>
      have g := apT_lo (k := (T 19 2).toNat) W (stA (stA T 20 (T 19 2).toNat w) 19 2 (T 19 2 + 1)) (by show ((T 19 2).toNat : Int) < T 19 2 + 1; omega)
      refine g.trans ?_
      show up (T 20) (T 19 2).toNat w (T 19 2).toNat = w
      exact up_same _ _ _
    | succ i =>
      have g := ih (i := i) (stA (stA T 20 (T 19 2).toNat w) 19 2 (T 19 2 + 1)) (by show 0 ≤ T 19 2 + 1; omega) (Nat.lt_of_succ_lt_succ h)
      have e : (stA (stA T 20 (T 19 2).toNat w) 19 2 (T 19 2 + 1) 19 2).toNat + i = (T 19 2).toNat + (i + 1) := by
        show (T 19 2 + 1).toNat + i = _
        omega
      rw [e] at g
      exact g
theorem sAd2_ap {T : St} {e : Nat} {x : Int} (h : T 19 2 < 1600) : sAd2 (some (T, e)) x = some (apT T [x], e) := by
  unfold sAd2
  show ((sAdC T x).bind fun t => some (t, e)) = _
  unfold sAdC
  rw [if_pos h]
  rfl
/-- both rows of codes grew by what is worth the same -/
def CX (b D m : Nat) (lo : Int) (k : Nat) (VB : Int → Prop) (A A' T T' : St) : Prop := ∃ R P C : List Int, EW b A A' R ∧ A' 0 56 = ((m + P.length : Nat) : Int) ∧ PD m (A' 40) P ∧ RG lo P ∧ (∀ i, i < m → A' 40 i = A 40 i) ∧ (∀ i, i < D → A' 39 i = A 39 i ∧ A' 38 i = A 38 i) ∧ T' = apT T C ∧ Sem VB k C (R ++ P.map sc)
theorem RG.nil {P : List Int} (h : RG 7 P) : P = [] := by
  cases P with
  | nil => rfl
  | cons x P =>
    have g := (h x List.mem_cons_self).1
    have := (rk_r x).2
    omega
theorem CX.mono {b D m k k' : Nat} {lo lo' : Int} {VB : Int → Prop} {A A' T T' : St} (h : CX b D m lo k VB A A' T T') (hl : lo' ≤ lo) (hk : k ≤ k') : CX b D m lo' k' VB A A' T T' := by
  obtain ⟨R, P, C, h1, h2, h3, h4, h5, h6, h7, h8⟩ := h
  exact ⟨R, P, C, h1, h2, h3, h4.mono hl, h5, h6, h7, h8.mono hk⟩
/-- an operation between two parts: what was held back goes out, the operation is held back -/
theorem CX_turn {b D m k k2 k' : Nat} {l x lo lo2 lo' : Int} {VA VB : Int → Prop} {A0 A B B1 v A' T0 T T2 : St} (hb : A 0 47 = (b : Int)) (hD : A 0 53 = (D : Int)) (h1 : 1 ≤ D) (hL : LO l m D A0) (hx : 10 ≤ x ∧ x ≤ 22) (h : CX b D m lo k VA A0 A T0 T) (hl : l ≤ lo) (hj : q_X12_joins l A B) (hh : q_X12_holdsBack x B B1) (hc : CSm B1 v) : (∀ lo3, rk x < lo3 → LO lo3 (m + 1) D v) ∧ (CX b D (m + 1) lo2 k2 VA v A' T T2 → lo' ≤ lo2 ∧ lo' ≤ rk x → k ≤ k' ∧ k2 + 1 ≤ k' → sc x < -6 → (∀ a c, VA a → VA c → VB (jn (sc x) a c) ∧ okV (sc x) a c) → CX b D m lo' k' VB A0 A' T0 (apT T2 [sc x])) := by
  obtain ⟨R, P, C, e1, e2, e3, e4, e5, e6, e7, e8⟩ := h
  obtain ⟨l0, l1, l2⟩ := hL
  have a39 := (e6 (D - 1) (by omega)).1
  have n46 := e1.nn l0
  have hLA : A 39 (D - 1) = (m : Int) ∨ (A 39 (D - 1) < (m : Int) ∧ rk (A 40 (m - 1)) < l) := by
    rcases l2 with g | ⟨g1, g2, g3⟩
    · exact Or.inl (a39.trans g)
    · exact Or.inr ⟨by omega, by rw [e5 (m - 1) (by omega)]; exact g3⟩
  obtain ⟨j1, j2, j3, j4, j5, _⟩ := q_joins_ew hD h1 hb n46 e2 e3 (e4.mono hl) hLA hj
  obtain ⟨w1, w2, w3, w4, w5⟩ := q_holds_ew (b := b) j5 hh
  have wv : EW b A v (P.map sc) := by
    have g := EW.trans n46 j1 (w1.cs hc)
    rw [List.append_nil] at g
    exact g
  obtain ⟨_, _, c38, c39, c40, c46, c56⟩ := hc
  have v39 : v 39 = A 39 := c39.trans (w3.trans j3)
  have v38 : v 38 = A 38 := c38.trans (w2.trans j2)
  have v40 : v 40 = up (A 40) m x := by rw [c40, w4, j4]
  have v56 : v 0 56 = ((m + 1 : Nat) : Int) := c56.trans w5
  have nv := wv.nn n46
  refine ⟨fun lo3 hr => ⟨nv, v56, Or.inr ⟨by omega, ?_, ?_⟩⟩, ?_⟩
  · rw [v39]
    rcases hLA with g | ⟨g, _⟩ <;> omega
  · rw [v40, show m + 1 - 1 = m by omega, up_same]
    exact hr
  · rintro ⟨R2, P2, C2, f1, f2, f3, f4, f5, f6, f7, f8⟩ hlo hk hw hv
    refine ⟨R ++ P.map sc ++ R2, P2 ++ [x], C ++ C2 ++ [sc x], ?_, ?_, ?_, ?_, fun i hi => ?_, fun i hi => ?_, ?_, ?_⟩
    · exact EW.trans l0 (EW.trans l0 e1 wv) f1
    · rw [f2, List.length_append]
      show ((m + 1 + P2.length : Nat) : Int) = ((m + (P2.length + 1) : Nat) : Int)
      omega
    · refine PD.snoc P2 f3 ?_
      rw [f5 m (by omega), v40, up_same]
    · exact (f4.mono hlo.1).app (RG.one ⟨hlo.2, hx⟩)
    · rw [f5 i (by omega), v40, up_ne _ _ (by omega)]
      exact e5 i hi
    · have g := f6 i hi
      rw [g.1, g.2, v39, v38]
      exact e6 i hi
    · rw [apT_app, apT_app, ← e7, f7]
    · have g := Sem_bin (VB := VB) (k := k') e8 f8 hw hk hv
      have e : R ++ P.map sc ++ R2 ++ (P2 ++ [x]).map sc = (R ++ P.map sc) ++ (R2 ++ P2.map sc) ++ [sc x] := by
        rw [List.map_append]
        simp only [List.append_assoc, List.map_cons, List.map_nil]
      rw [e]
      exact g
