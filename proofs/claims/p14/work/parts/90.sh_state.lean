/-! What both sides keep between calls about persons, keys and bars. -/
def ACS (B A : St) : Prop := AC (A 0 12).toNat A (tw (51 + 31 * (B 0 9).toNat) B) ∧ MBc (A 0 12).toNat A (tw (51 + 31 * (B 0 9).toNat) B)
theorem tB {B : St} (hIK : IK B) : isT (51 + 31 * (B 0 9).toNat) := by
  have r9 : (0 : Int) ≤ B 0 9 ∧ B 0 9 ≤ 1 := hIK 0 9
  exact isT.b r9
theorem ACS.act {B A : St} (hIM : IM A) (hp : PSs B A) (ha : ACS B A) : ACT (A 0 12).toNat A (tw (51 + 31 * (B 0 9).toNat) B) := by
  have r12 : (0 : Int) ≤ A 0 12 ∧ A 0 12 ≤ 1 := hIM 0 12
  exact ⟨by omega, hp.2, ha.1⟩
theorem tw_rows {t : Nat} (hT : isT t) {P : List Nat} {F : List (Nat × Nat)} {B u : St} (h : fk P F B u) (L : List Nat) (hP : L.all (fun j => !P.contains (51 + j) && !P.contains (82 + j)) = true) (hF : F.all (fun x => decide (x.1 < 51)) = true) : ∀ j, L.contains j = true → tw t u j = tw t B j := by
  intro j hj
  have p : (!P.contains (51 + j) && !P.contains (82 + j)) = true := List.all_eq_true.mp hP j (List.contains_iff_mem.mp hj)
  simp only [Bool.and_eq_true, Bool.not_eq_true'] at p
  funext k
  refine h (t + j) k ?_ ?_
  · rcases hT with rfl | rfl
    · exact p.1
    · exact p.2
  · cases hc : fin2 F (t + j) k with
    | false => rfl
    | true =>
      have h1 := List.all_eq_true.mp hF _ (fin2_iff.mp hc)
      have h2 : t + j < 51 := of_decide_eq_true h1
      rcases hT with rfl | rfl <;> omega
def barT : List Nat := [1, 17, 18, 19, 20]
theorem MBc.fr {t b : Nat} (hT : isT t) {P : List Nat} {F : List (Nat × Nat)} {M' N' : List Nat} {B u A A2 : St} (h : MBc b A (tw t B)) (hf : fk P F B u) (hP : barT.all (fun j => !P.contains (51 + j) && !P.contains (82 + j)) = true) (hF : F.all (fun x => decide (x.1 < 51)) = true) (hg : fr M' N' A A2) (a : (M'.contains 31 || M'.contains 32 || M'.contains 33 || M'.contains 34) = false) : MBc b A2 (tw t u) := by
  have r := tw_rows hT hf barT hP hF
  simp only [Bool.or_eq_false_iff] at a
  obtain ⟨⟨⟨m1, m2⟩, m3⟩, m4⟩ := a
  intro k hk
  rw [r 1 rfl] at hk
  exact (h k hk).cg (hg.1 31 (by decide) m1) (hg.1 32 (by decide) m2) (hg.1 33 (by decide) m3) (hg.1 34 (by decide) m4) (r 17 rfl) (r 18 rfl) (by rw [r 19 rfl]) (r 20 rfl)
/-- a call that leaves all of it alone -/
theorem ACS.fr {B A B2 A2 : St} {P : List Nat} {F : List (Nat × Nat)} {M' N' : List Nat} (hIK : IK B) (hIM : IM A) (hp : PSs B A) (ha : ACS B A) (hf : fk P F B B2) (hP : ((actT ++ barT).all (fun j => !P.contains (51 + j) && !P.contains (82 + j)) && !P.contains 0) = true) (hF : F.all (fun x => decide (x.1 < 51) && !(Nat.beq x.1 0 && Nat.beq x.2 9)) = true) (hg : fr M' N' A A2) (hM : (M'.contains 13 || M'.contains 14 || M'.contains 15 || M'.contains 18 || M'.contains 31 || M'.contains 32 || M'.contains 33 || M'.contains 34) = false) (h12 : N'.contains 12 = false) : ACS B2 A2 := by
  have hT := tB hIK
  have l2 := ((ha.act hIM hp).lim hIM).2.2.1
  rw [Bool.and_eq_true, List.all_append, Bool.and_eq_true] at hP
  obtain ⟨⟨pa, pb⟩, p0⟩ := hP
  have p0 : P.contains 0 = false := by
    cases hc : P.contains 0 with
    | false => rfl
    | true => rw [hc] at p0; exact absurd p0 (by decide)
  have hF1 : F.all (fun x => decide (x.1 < 51)) = true := by
    refine List.all_eq_true.mpr (fun x hx => ?_)
    have := List.all_eq_true.mp hF x hx
    rw [Bool.and_eq_true] at this
    exact this.1
  have f9 : fin2 F 0 9 = false := by
    cases hc : fin2 F 0 9 with
    | false => rfl
    | true =>
      have := List.all_eq_true.mp hF _ (fin2_iff.mp hc)
      exact absurd this (by decide)
  have e9 : B2 0 9 = B 0 9 := hf 0 9 p0 f9
  simp only [Bool.or_eq_false_iff] at hM
  obtain ⟨⟨⟨⟨⟨⟨⟨m13, m14⟩, m15⟩, m18⟩, m31⟩, m32⟩, m33⟩, m34⟩ := hM
  unfold ACS
  rw [e9, hg.2 12 h12]
  refine ⟨ha.1.cg l2 (sT.fk hT hf pa hF1) (sM.fr hg m13 m14 m15 m18), MBc.fr hT ha.2 hf pb hF1 hg ?_⟩
  rw [m31, m32, m33, m34]
  rfl
/-- the end of a call that acts -/
theorem ACSfin {B A A4 A8 u2 : St} {P M' N' : List Nat} (hIK : IK B) (hIM : IM A) (hp : PSs B A) (ha : ACS B A) (ac : AC (A 0 12).toNat u2 (tw (51 + 31 * (B 0 9).toNat) A4)) (hf : fk P [] B A4) (hP : P.contains 0 = false) (hB : barT.all (fun j => !P.contains (51 + j) && !P.contains (82 + j)) = true) (n : fk [50] [] A4 A8) (hg : fr M' N' A u2) (hM : (M'.contains 31 || M'.contains 32 || M'.contains 33 || M'.contains 34) = false) (h12 : N'.contains 12 = false) : ACS A8 u2 := by
  have hT := tB hIK
  have f9 : A8 0 9 = B 0 9 := (n 0 9 rfl rfl).trans (hf 0 9 hP rfl)
  have l2 := ((ha.act hIM hp).lim hIM).2.2.1
  have l4 : tw (51 + 31 * (B 0 9).toNat) A4 1 2 ≤ 4 := by
    rw [tw_rows hT hf barT hB rfl 1 rfl]
    exact l2
  have mb := MBc.fr hT ha.2 hf hB rfl hg hM
  have mb2 := MBc.fr hT mb n rfl rfl (fr.rf : fr [] [] u2 u2) rfl
  unfold ACS
  rw [f9, hg.2 12 h12]
  exact ⟨ac.cg l4 (sT.fk hT n rfl rfl) sM.rf, mb2⟩
theorem act_ans {x z : Int} {A u : St} (h : q_X11_actAnswer x A z u) : z = x ∧ fk [50] [] A u := by
  refine ⟨?_, h.2.2.1⟩
  rcases (h.1 : tr_r_X11_actAnswer x A z u) with ⟨_, hz, _⟩ | ⟨c, z2, A3, hr, hz, _⟩
  · exact hz
  · rw [hz, hr.2.2.2, c]
theorem hand_ans {x z : Int} {A u : St} (h : q_X11_handingAnswer x A z u) : z = x ∧ fk [50] [] A u := by
  refine ⟨?_, h.2.2.1⟩
  rcases (h.1 : tr_r_X11_handingAnswer x A z u) with ⟨_, hz, _⟩ | ⟨_, z2, A3, _, hz, _⟩
  · exact hz
  · exact hz
theorem go_act {x1 x2 z1 z2 : Int} {B A u1 u2 : St} (hIK : IK B) (hIM : IM A) (hp : PSs B A) (ha : ACS B A) (h1 : r_X11_go x1 x2 B z1 u1) (h2 : q_X12_go x1 x2 A z2 u2) : z1 = z2 ∧ ACS u1 u2 := by
  obtain ⟨t2, ht2, z3, A4, hg, z7, A8, hn, hz, hu⟩ := (h1 : tr_r_X11_go x1 x2 B z1 u1)
  subst ht2
  obtain ⟨e, ac⟩ := go_eq (tB hIK) hIM (ha.act hIM hp) ha.2 hg h2
  obtain ⟨n1, n2⟩ := act_ans hn
  rw [hz, hu]
  exact ⟨n1.trans e, ACSfin hIK hIM hp ha ac hg.2.2.1 rfl rfl n2 h2.2.2.1 rfl rfl⟩
theorem open_act {x1 x2 z1 z2 : Int} {B A u1 u2 : St} (hIK : IK B) (hIM : IM A) (hp : PSs B A) (ha : ACS B A) (h1 : r_X11_open x1 x2 B z1 u1) (h2 : q_X12_open x1 x2 A z2 u2) : z1 = z2 ∧ ACS u1 u2 := by
  obtain ⟨t2, ht2, z3, A4, hg, z7, A8, hn, hz, hu⟩ := (h1 : tr_r_X11_open x1 x2 B z1 u1)
  subst ht2
  obtain ⟨e, ac⟩ := open_eq (tB hIK) hIM (ha.act hIM hp) hg h2
  obtain ⟨n1, n2⟩ := act_ans hn
  rw [hz, hu]
  exact ⟨n1.trans e, ACSfin hIK hIM hp ha ac hg.2.2.1 rfl rfl n2 h2.2.2.1 rfl rfl⟩
theorem shut_act {x1 x2 x3 z1 z2 : Int} {B A u1 u2 : St} (hIK : IK B) (hIM : IM A) (hp : PSs B A) (ha : ACS B A) (h1 : r_X11_shut x1 x2 x3 B z1 u1) (h2 : q_X12_shut x1 x2 x3 A z2 u2) : z1 = z2 ∧ ACS u1 u2 := by
  obtain ⟨t2, ht2, z3, A4, hg, z7, A8, hn, hz, hu⟩ := (h1 : tr_r_X11_shut x1 x2 x3 B z1 u1)
  subst ht2
  obtain ⟨e, ac⟩ := shut_eq (tB hIK) hIM (ha.act hIM hp) hg h2
  obtain ⟨n1, n2⟩ := act_ans hn
  rw [hz, hu]
  exact ⟨n1.trans e, ACSfin hIK hIM hp ha ac hg.2.2.1 rfl rfl n2 h2.2.2.1 rfl rfl⟩
theorem lend_act {x1 x2 x3 z1 z2 : Int} {B A u1 u2 : St} (hIK : IK B) (hIM : IM A) (hp : PSs B A) (ha : ACS B A) (h1 : r_X11_lend x1 x2 x3 B z1 u1) (h2 : q_X12_lend x1 x2 x3 A z2 u2) : z1 = z2 ∧ ACS u1 u2 := by
  obtain ⟨t2, ht2, z3, A4, hg, z7, A8, hn, hz, hu⟩ := (h1 : tr_r_X11_lend x1 x2 x3 B z1 u1)
  subst ht2
  obtain ⟨e, ac⟩ := lend_eq hIM (ha.act hIM hp) hg h2
  obtain ⟨n1, n2⟩ := hand_ans hn
  rw [hz, hu]
  exact ⟨n1.trans e, ACSfin hIK hIM hp ha ac hg.2.2.1 rfl rfl n2 h2.2.2.1 rfl rfl⟩
theorem take_act {x1 x2 z1 z2 : Int} {B A u1 u2 : St} (hIK : IK B) (hIM : IM A) (hp : PSs B A) (ha : ACS B A) (h1 : r_X11_take x1 x2 B z1 u1) (h2 : q_X12_take x1 x2 A z2 u2) : z1 = z2 ∧ ACS u1 u2 := by
  obtain ⟨t2, ht2, z3, A4, hg, z7, A8, hn, hz, hu⟩ := (h1 : tr_r_X11_take x1 x2 B z1 u1)
  subst ht2
  obtain ⟨e, ac⟩ := take_eq hIM (ha.act hIM hp) hg h2
  obtain ⟨n1, n2⟩ := hand_ans hn
  rw [hz, hu]
  exact ⟨n1.trans e, ACSfin hIK hIM hp ha ac hg.2.2.1 rfl rfl n2 h2.2.2.1 rfl rfl⟩
theorem lay_act {x1 x2 x3 z1 z2 : Int} {B A u1 u2 : St} (hx : R32 x3) (hIK : IK B) (hIM : IM A) (hp : PSs B A) (ha : ACS B A) (h1 : r_X11_lay x1 x2 x3 B z1 u1) (h2 : q_X12_lay x1 x2 x3 A z2 u2) : z1 = z2 ∧ ACS u1 u2 := by
  obtain ⟨t2, ht2, z3, A4, hg, z7, A8, hn, hz, hu⟩ := (h1 : tr_r_X11_lay x1 x2 x3 B z1 u1)
  subst ht2
  obtain ⟨e, ac⟩ := lay_eq hx hIM (ha.act hIM hp) hg h2
  obtain ⟨n1, n2⟩ := hand_ans hn
  rw [hz, hu]
  exact ⟨n1.trans e, ACSfin hIK hIM hp ha ac hg.2.2.1 rfl rfl n2 h2.2.2.1 rfl rfl⟩
theorem snap_act {x1 z1 z2 : Int} {B A u1 u2 : St} (hIK : IK B) (hIM : IM A) (hp : PSs B A) (ha : ACS B A) (h1 : r_X11_snap x1 B z1 u1) (h2 : q_X12_snap x1 A z2 u2) : z1 = z2 ∧ ACS u1 u2 := by
  have hA := ha.act hIM hp
  have hT := tB hIK
  have l2 := (hA.lim hIM).2.2.1
  have fr2 := h2.2.2.1
  obtain ⟨t2, ht2, z3, hi, h1⟩ := (h1 : tr_r_X11_snap x1 B z1 u1)
  subst ht2
  obtain ⟨y1, hy1, h2⟩ := (h2.1 : tr_r_X12_snap x1 A z2 u2)
  have ki := K_there2 hi
  have mi : (y1 = 1 ↔ 0 ≤ x1 ∧ x1 < B (51 + 31 * (B 0 9).toNat + 1) 2) ∧ (y1 = 0 ∨ y1 = 1) := M_isKey hIM hA hy1
  have no : ∀ {z7 : Int} {A8 : St} {y : Int} {v : St}, q_X11_refused 3 B z7 A8 → z1 = z7 → u1 = A8 → q_X12_refuses 3 A y v → z2 = y → u2 = v → z1 = z2 ∧ ACS u1 u2 := by
    intro z7 A8 y v g1 g2 g3 g4 g5 g6
    refine ⟨by rw [g2, g5, g1.2.2.2, g4.2.2.2], ?_⟩
    rw [g3, g6]
    refine ACSfin hIK hIM hp ha (A4 := B) (P := []) ?_ fk.rf rfl rfl g1.2.2.1 g4.2.2.1 rfl rfl
    exact ha.1.cg l2 sT.rf (sM.fr g4.2.2.1 rfl rfl rfl rfl)
  rcases h1 with ⟨c, z7, A8, hf, hz, hu⟩ | ⟨c, z11, e11, h1⟩
  · rcases h2 with ⟨_, z5, A6, hf2, hz2, hu2⟩ | ⟨c2, -⟩
    · exact no hf hz hu hf2 hz2 hu2
    · omega
  rcases h2 with ⟨c2, -⟩ | ⟨_, _, _, w12, e12, h2⟩
  · (first | omega | (clear h1; omega) | (clear h2; omega) | (clear h1 h2; omega))
  obtain ⟨k, rfl⟩ : ∃ k : Nat, x1 = (k : Int) := ⟨x1.toNat, by (first | omega | (clear h1; omega) | (clear h2; omega) | (clear h1 h2; omega))⟩
  have hk : (k : Int) < B (51 + 31 * (B 0 9).toNat + 1) 2 := by (first | omega | (clear h1; omega) | (clear h2; omega) | (clear h1 h2; omega))
  obtain ⟨b, hb⟩ : ∃ b : Nat, (A 0 12).toNat = b := ⟨_, rfl⟩
  rw [hb] at hA
  have n4 : (4 * (b : Int) + (k : Int)).toNat = 4 * b + k := by omega
  have x := hA.2.2.1.1 k hk
  have x13 : A 13 (4 * b + k) = B (51 + 31 * (B 0 9).toNat + 24) k := x.1
  have x14 : A 14 (4 * b + k) = B (51 + 31 * (B 0 9).toNat + 25) k := x.2.1
  rw [hA.1, n4, x13] at e12
  rw [Int.toNat_natCast] at e11
  have e11 : z11 = B (51 + 31 * (B 0 9).toNat + 24) k := e11
  rcases h1 with ⟨c3, A13, e13, z16, e16, hz, hu⟩ | ⟨c3, z17, A18, hf, hz, hu⟩
  · rcases h2 with ⟨_, _, _, A17, e17, _, _, w21, e21, hz2, hu2⟩ | ⟨c4, -⟩
    · rw [Int.toNat_natCast] at e13 e16
      have e13 : A13 = stA B (51 + 31 * (B 0 9).toNat + 24) k 40 := e13
      have e16 : z16 = A13 (51 + 31 * (B 0 9).toNat + 25) k := e16
      rw [hA.1, n4] at e17
      have r21 : w21 = B (51 + 31 * (B 0 9).toNat + 25) k := by
        rw [e21, hA.1, n4, e17, ← x14]
        rfl
      have r16 : z16 = B (51 + 31 * (B 0 9).toNat + 25) k := by
        rw [e16, e13, stA_ne _ _ (by omega)]
      refine ⟨by rw [hz, hz2, r16, r21], ?_⟩
      have ac := AC_where (q := k) hA.2.2 (v := 40) (Or.inr (Or.inr rfl))
      rw [← tw_st, ← e13, ← e17, ← hb] at ac
      rw [hu, hu2]
      have f13 : fk [75, 106] [] B A13 := by
        intro j i hj _
        rw [e13, stA_ne]
        intro ej
        subst ej
        rcases hT with e | e <;> (rw [e] at hj; exact absurd hj (by decide))
      exact ACSfin hIK hIM hp ha ac f13 rfl rfl fk.rf (by rw [← hu2]; exact fr2) rfl rfl
    · omega
  · rcases h2 with ⟨c4, -⟩ | ⟨_, z22, A23, hf2, hz2, hu2⟩
    · omega
    · exact no hf hz hu hf2 hz2 hu2
/-- another town, or none -/
theorem AC.ob {o b : Nat} {A u T : St} (h : AC o A T) (h4 : T 1 2 ≤ 4) (h3 : T 1 3 ≤ 3) (g : OB b A u) (ne : o ≠ b) : AC o u T := by
  have e : ∀ (j m k : Nat), j ≠ 0 → j ≤ 32 → bnk j = m → 0 < m → k < m → u j (m * o + k) = A j (m * o + k) := by
    intro j m k h0 h1 hm hp hk
    refine g j h0 h1 _ ?_
    rw [hm, Nat.mul_add_div hp, Nat.div_eq_of_lt hk]
    omega
  refine ⟨⟨fun k hk => ?_, h.1.2⟩, fun k hk => ?_, h.2.2⟩
  · have x := h.1.1 k hk
    have y := (h.2.2.2.2.2.1 k hk).1
    rw [e 13 4 k (by decide) (by decide) rfl (by decide) (by omega), e 14 4 k (by decide) (by decide) rfl (by decide) (by omega)]
    refine ⟨x.1, x.2.1, fun i hi => ?_⟩
    have z := e 15 40 (10 * k + i) (by decide) (by decide) rfl (by decide) (by omega)
    rw [← Nat.add_assoc] at z
    rw [z]
    exact x.2.2 i hi
  · rw [e 18 3 k (by decide) (by decide) rfl (by decide) (by omega)]
    exact h.2.1 k hk
theorem MBc.ob {o b : Nat} {A u T : St} (h : MBc o A T) (h6 : T 1 7 ≤ 6) (g : OB b A u) (gc : OC b A u) (ne : o ≠ b) : MBc o u T := by
  intro k hk
  obtain ⟨C, R, x1, x2, x3, x4, x5, x6, x7, x8, x9⟩ := h k hk
  have e : ∀ j, j ≠ 0 → j ≤ 32 → bnk j = 6 → u j (6 * o + k) = A j (6 * o + k) := by
    intro j h0 h1 hm
    refine g j h0 h1 _ ?_
    rw [hm, Nat.mul_add_div (by decide), Nat.div_eq_of_lt (by omega)]
    omega
  have e31 := e 31 (by decide) (by decide) rfl
  have e32 := e 32 (by decide) (by decide) rfl
  refine ⟨C, R, x1, x2, x3, x4, by rw [e31]; exact x5, by rw [e31, e32]; exact x6, by rw [e32]; exact x7, fun i hi => ?_, x9⟩
  have oc := gc (1600 * o + (A 31 (6 * o + k)).toNat + i) (by omega)
  rw [e31, oc.1, oc.2]
  exact x8 i hi
theorem town_ac {z1 z2 : Int} {B A u1 u2 : St} (hIK : IK B) (hIM : IM A) (he : B 1 1 = A 0 1) (hT : TB B A) (hO : OW B) (hp : PSs B A) (hac : ACS B A) (h1 : r_X11_town B z1 u1) (h2 : q_X12_town A z2 u2) : ACS u1 u2 := by
  have r01 : (0 : Int) ≤ A 0 1 ∧ A 0 1 ≤ 1600 := hIM 0 1
  have r12 : (0 : Int) ≤ A 0 12 ∧ A 0 12 ≤ 1 := hIM 0 12
  have r10 : (0 : Int) ≤ B 0 10 ∧ B 0 10 ≤ 1 := hIK 0 10
  have r9 : (0 : Int) ≤ B 0 9 ∧ B 0 9 ≤ 1 := hIK 0 9
  have s1 := hp.1
  obtain ⟨N, hN⟩ : ∃ N : Nat, A 0 1 = (N : Int) := ⟨(A 0 1).toNat, by omega⟩
  obtain ⟨b, hb⟩ : ∃ b : Nat, -(A 0 12) + 1 = (b : Int) := ⟨(-(A 0 12) + 1).toNat, by omega⟩
  obtain ⟨t2, ht2, z3, A4, hrd, A7, e7, h1⟩ := (h1 : tr_r_X11_town B z1 u1)
  have hta : isT t2 := by
    rcases (show B 0 10 = 0 ∨ B 0 10 = 1 by omega) with e | e
    · rw [e] at ht2; exact Or.inl ht2
    · rw [e] at ht2; exact Or.inr ht2
  have hE : EK (fun k => B 2 k % 256) N B := ⟨hIK, by rw [he, hN], by omega, fun k _ => rfl, hO⟩
  have cw := C_readTown hta hE hrd
  have mx := M_town (f := fun k => B 2 k % 256) (N := N) (b := b) (T := tw t2 B) hN (by omega) (fun k hk => (hT k (by omega)).symm) hb (by omega) h2
  have ob := O_town hb h2
  have oc := town_oc hb h2
  unfold CW at cw
  rcases mx with ⟨a, ha, hz, hm, h12⟩ | ⟨ha, hz⟩
  · obtain ⟨a', ha', hbc⟩ := M_townC (f := fun k => B 2 k % 256) (N := N) (b := b) (T := tw t2 B) (by rw [hz]; omega) hN (by omega) (fun k hk => (hT k (by omega)).symm) hb (by omega) h2
    have eaa : a' = a := Option.some.inj (ha'.symm.trans ha)
    rw [eaa] at hbc
    have vt := VT_town ha
    rw [ha] at cw
    obtain ⟨cz, _, ct⟩ := cw
    rcases h1 with ⟨_, t12, _, A15, e15, A16, e16, A17, e17, _, hu⟩ | ⟨c, -⟩
    · have w9 : u1 0 9 = B 0 10 := by rw [hu, e17, e16, e15]; rfl
      have et : tw t2 u1 = a.2 := by
        rw [← ct]
        funext j k
        show u1 (t2 + j) k = A4 (t2 + j) k
        have l51 : 51 ≤ t2 := by rcases hta with e | e <;> omega
        rw [hu, e17, stA_ne _ _ (by omega), e16, stA_ne _ _ (by omega), e15, stA_ne _ _ (by omega), e7, stA_ne _ _ (by omega)]
      unfold ACS
      rw [h12, Int.toNat_natCast, w9, ← ht2, et]
      obtain ⟨_, _, _, _, _, _, my, mp, _⟩ := hm
      exact ⟨⟨my, mp, vt⟩, hbc⟩
    · rw [cz] at c
      omega
  · rw [ha] at cw
    have cz : z3 = -1 := cw
    rcases h1 with ⟨c, -⟩ | ⟨_, z22, A23, hf, _, hu⟩
    · exact absurd cz c
    · have htt : TT t2 (51 + 31 * (B 0 9).toNat) := by
        unfold TT
        rcases (show B 0 10 = 0 ∨ B 0 10 = 1 by omega) with e | e
        · have e9 : B 0 9 = 1 := by omega
          rw [e] at ht2
          rw [e9]
          exact Or.inl ⟨ht2, rfl⟩
        · have e9 : B 0 9 = 0 := by omega
          rw [e] at ht2
          rw [e9]
          exact Or.inr ⟨ht2, rfl⟩
      have htb := tB hIK
      have ot := ot_r_X5_readTown htb htt OT.rf hrd.1
      have f9 : u1 0 9 = B 0 9 := by
        rw [hu, hf.2.2.1 0 9 rfl rfl, e7]
        exact hrd.2.2.1 0 9 rfl rfl
      have m12 : u2 0 12 = A 0 12 ∧ u2 0 75 = A 0 75 := M_townK (f := fun k => B 2 k % 256) hN (by omega) (fun k hk => (hT k (by omega)).symm) hb (by omega) hz h2
      have rows : ∀ j, j < 31 → tw (51 + 31 * (B 0 9).toNat) u1 j = tw (51 + 31 * (B 0 9).toNat) B j := by
        intro j j31
        funext k
        show u1 (51 + 31 * (B 0 9).toNat + j) k = B (51 + 31 * (B 0 9).toNat + j) k
        rw [hu, hf.2.2.1 _ k ?_ rfl, e7, stA_ne _ _ (by omega), ot j j31]
        cases hc : ([50] : List Nat).contains (51 + 31 * (B 0 9).toNat + j) with
        | false => rfl
        | true =>
          have := List.contains_iff_mem.mp hc
          simp at this
          omega
      have hA := hac.act hIM hp
      have l := hA.lim hIM
      have l7 : tw (51 + 31 * (B 0 9).toNat) B 1 7 ≤ 6 := by
        obtain ⟨_, ⟨_, mc, _⟩, _⟩ := hA
        have r29 : A 29 (A 0 12).toNat ≤ 6 := (hIM 29 _).2
        rw [mc.2.2] at r29
        exact r29
      have ac := hac.1.ob l.2.2.1 l.2.2.2 ob (by omega)
      have mb := hac.2.ob l7 ob oc (by omega)
      have st : sT (tw (51 + 31 * (B 0 9).toNat) B) (tw (51 + 31 * (B 0 9).toNat) u1) := by
        intro j hj
        refine rows j ?_
        have := List.contains_iff_mem.mp hj
        simp [actT] at this
        omega
      unfold ACS
      rw [m12.1, f9]
      refine ⟨ac.cg l.2.2.1 st sM.rf, fun k hk => ?_⟩
      rw [rows 1 (by decide)] at hk
      exact (mb k hk).cg rfl rfl rfl rfl (rows 17 (by decide)) (rows 18 (by decide)) (by rw [rows 19 (by decide)]) (rows 20 (by decide))
