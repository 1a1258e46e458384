/-! What stands fast of both towns: the tables that acts leave alone. -/
def MRs (b : Nat) (A T : St) : Prop := NKA b A T ∧ MCn b A T ∧ TD T ∧ NB b A T ∧ MDr b A T ∧ MLs b A T ∧ MTn b A T ∧ MWn b A T ∧ MMu b A T ∧ MBa b A T
theorem MR.s {b : Nat} {A T : St} (h : MR b A T) : MRs b A T := by
  obtain ⟨h1, h2, h3, h4, h5, h6, _, _, h9, h10, h11, h12⟩ := h
  exact ⟨h1, h2, h3, h4, h5, h6, h9, h10, h11, h12⟩
theorem ct_cg {f g : Nat → Int} {s : Nat} {p : Int} : ∀ n, (∀ k, k < n → f (s + k) = g (s + k)) → ct f s p n = ct g s p n := by
  intro n
  induction n with
  | zero => intro _; rfl
  | succ n ih =>
    intro h
    show ct f s p n + (if f (s + n) = p then 1 else 0) = ct g s p n + (if g (s + n) = p then 1 else 0)
    rw [ih (fun k hk => h k (by omega)), h n (by omega)]
theorem MRs.ob {b o : Nat} {A u T : St} (hI : IM A) (h : MRs o A T) (g : OB b A u) (ne : o ≠ b) : MRs o u T := by
  have e : ∀ (j m k : Nat), j ≠ 0 → j ≤ 32 → bnk j = m → 0 < m → k < m → u j (m * o + k) = A j (m * o + k) := by
    intro j m k h0 h1 hm hp hk
    refine g j h0 h1 _ ?_
    rw [hm, Nat.mul_add_div hp, Nat.div_eq_of_lt hk]
    omega
  have c1 : ∀ j, j ≠ 0 → j ≤ 32 → bnk j = 1 → u j o = A j o := by
    intro j h0 h1 hm
    have := e j 1 0 h0 h1 hm (by decide) (by decide)
    rw [show 1 * o + 0 = o by omega] at this
    exact this
  have r0 : A 2 o ≤ 8 := (hI 2 o).2
  have r1 : A 4 o ≤ 10 := (hI 4 o).2
  have r2 : A 11 o ≤ 4 := (hI 11 o).2
  have r3 : A 16 o ≤ 3 := (hI 16 o).2
  have r4 : A 19 o ≤ 4 := (hI 19 o).2
  have r5 : A 22 o ≤ 6 := (hI 22 o).2
  have r6 : A 25 o ≤ 6 := (hI 25 o).2
  have r7 : A 29 o ≤ 6 := (hI 29 o).2
  obtain ⟨⟨k0, k1, k2, k3, k4⟩, hc, ht, hB, hd, hl, hh, hwn, hm, hb⟩ := h
  have t0 := k0.1
  have t1 := k1.1
  have t2 := k2.1
  have t3 := k3.1
  have t4 := k4.1
  have t5 := hc.1
  have t6 := hc.2.1
  have t7 := hc.2.2
  refine ⟨⟨⟨(c1 2 (by decide) (by decide) rfl).trans t0, ?_⟩, ⟨(c1 4 (by decide) (by decide) rfl).trans t1, ?_⟩, ⟨(c1 11 (by decide) (by decide) rfl).trans t2, ?_⟩, ⟨(c1 16 (by decide) (by decide) rfl).trans t3, ?_⟩, ⟨(c1 19 (by decide) (by decide) rfl).trans t4, ?_⟩⟩, ⟨(c1 22 (by decide) (by decide) rfl).trans t5, (c1 25 (by decide) (by decide) rfl).trans t6, (c1 29 (by decide) (by decide) rfl).trans t7⟩, ht, ?_, ?_, ⟨hl.1, ?_, hl.2.2⟩, ?_, ?_, ?_, ?_⟩
  · intro j hj; rw [e 3 8 j (by decide) (by decide) rfl (by decide) (by omega)]; exact k0.2 j hj
  · intro j hj; rw [e 5 10 j (by decide) (by decide) rfl (by decide) (by omega)]; exact k1.2 j hj
  · intro j hj; rw [e 12 4 j (by decide) (by decide) rfl (by decide) (by omega)]; exact k2.2 j hj
  · intro j hj; rw [e 17 3 j (by decide) (by decide) rfl (by decide) (by omega)]; exact k3.2 j hj
  · intro j hj; rw [e 20 4 j (by decide) (by decide) rfl (by decide) (by omega)]; exact k4.2 j hj
  · intro k hk; rw [e 8 10 k (by decide) (by decide) rfl (by decide) (by omega)]; exact hB k hk
  · intro k hk; rw [e 6 10 k (by decide) (by decide) rfl (by decide) (by omega), e 7 10 k (by decide) (by decide) rfl (by decide) (by omega), e 9 10 k (by decide) (by decide) rfl (by decide) (by omega)]; exact hd k hk
  · intro k hk; rw [e 10 10 k (by decide) (by decide) rfl (by decide) (by omega)]; exact hl.2.1 k hk
  · intro k hk; rw [e 21 4 k (by decide) (by decide) rfl (by decide) (by omega)]; exact hh k hk
  · intro p hp
    have w := hwn p hp
    refine ⟨w.1, ?_, fun t ht4 => ?_⟩
    · rw [ct_cg (g := A 23) _ (fun k hk => e 23 6 k (by decide) (by decide) rfl (by decide) (by omega))]
      exact w.2.1
    · rw [w.2.2 t ht4]
      constructor
      · rintro ⟨i, hi, g1, g2⟩
        exact ⟨i, hi, by rw [e 23 6 i (by decide) (by decide) rfl (by decide) (by omega)]; exact g1, by rw [e 24 6 i (by decide) (by decide) rfl (by decide) (by omega)]; exact g2⟩
      · rintro ⟨i, hi, g1, g2⟩
        rw [e 23 6 i (by decide) (by decide) rfl (by decide) (by omega)] at g1
        rw [e 24 6 i (by decide) (by decide) rfl (by decide) (by omega)] at g2
        exact ⟨i, hi, g1, g2⟩
  · intro k hk; rw [e 26 6 k (by decide) (by decide) rfl (by decide) (by omega), e 27 6 k (by decide) (by decide) rfl (by decide) (by omega), e 28 6 k (by decide) (by decide) rfl (by decide) (by omega)]; exact hm k hk
  · intro k hk; rw [e 30 6 k (by decide) (by decide) rfl (by decide) (by omega)]; exact hb k hk
def statT : List Nat := [1, 3, 4, 5, 6, 7, 8, 9, 10, 11, 12, 13, 14, 15, 16]
def statM : List Nat := [2, 3, 4, 5, 6, 7, 8, 9, 10, 11, 12, 16, 17, 19, 20, 21, 22, 23, 24, 25, 26, 27, 28, 29, 30]
theorem MRs.cg {b : Nat} {A A2 T T2 : St} (h : MRs b A T) (hA : ∀ j, statM.contains j = true → A2 j = A j) (hT : ∀ j, statT.contains j = true → T2 j = T j) (h15 : T2 0 15 = T 0 15) : MRs b A2 T2 := by
  have eA : A2 = fun j => bif statM.contains j then A j else A2 j := by
    funext j
    cases hc : statM.contains j with
    | false => rfl
    | true => exact hA j hc
  have eT : T2 = fun j => bif statT.contains j then T j else T2 j := by
    funext j
    cases hc : statT.contains j with
    | false => rfl
    | true => exact hT j hc
  obtain ⟨h1, h2, h3, h4, h5, h6, h9, h10, h11, h12⟩ := h
  have l : MLs b A2 T2 := by
    unfold MLs
    rw [h15]
    rw [eA, eT]
    exact h6
  have rest : NKA b A2 T2 ∧ MCn b A2 T2 ∧ TD T2 ∧ NB b A2 T2 ∧ MDr b A2 T2 ∧ MTn b A2 T2 ∧ MWn b A2 T2 ∧ MMu b A2 T2 ∧ MBa b A2 T2 := by
    rw [eA, eT]
    exact ⟨h1, h2, h3, h4, h5, h9, h10, h11, h12⟩
  obtain ⟨g1, g2, g3, g4, g5, g9, g10, g11, g12⟩ := rest
  exact ⟨g1, g2, g3, g4, g5, l, g9, g10, g11, g12⟩
/-- the present towns of both have the same tables -/
def PSs (B A : St) : Prop := (B 0 9 + B 0 10 = 1) ∧ MRs (A 0 12).toNat A (tw (51 + 31 * (B 0 9).toNat) B)
def okF (x : Nat × Nat) : Bool := !(Nat.beq x.1 0 && (Nat.beq x.2 9 || Nat.beq x.2 10)) && !((Nat.beq x.1 51 || Nat.beq x.1 82) && Nat.beq x.2 15) && statT.all (fun j => !Nat.beq x.1 (51 + j) && !Nat.beq x.1 (82 + j))
theorem PSs.fr {B A B2 A2 : St} {P : List Nat} {F : List (Nat × Nat)} {M' N' : List Nat} (hIK : IK B) (h : PSs B A) (hf : fk P F B B2) (hP : (P.contains 0 || P.contains 51 || P.contains 82 || statT.any (fun j => P.contains (51 + j) || P.contains (82 + j))) = false) (hF : F.all okF = true) (hg : fr M' N' A A2) (hM : statM.all (fun j => !M'.contains j) = true) (h12 : N'.contains 12 = false) : PSs B2 A2 := by
  have r9 : (0 : Int) ≤ B 0 9 ∧ B 0 9 ≤ 1 := hIK 0 9
  simp only [Bool.or_eq_false_iff] at hP
  obtain ⟨⟨⟨p0, p51⟩, p82⟩, pT⟩ := hP
  have nf : ∀ j k, okF (j, k) = false → fin2 F j k = false := by
    intro j k hk
    cases hc : fin2 F j k with
    | false => rfl
    | true =>
      have := List.all_eq_true.mp hF _ (fin2_iff.mp hc)
      rw [hk] at this
      exact absurd this (by decide)
  have e9 : B2 0 9 = B 0 9 := hf 0 9 p0 (nf 0 9 rfl)
  have e10 : B2 0 10 = B 0 10 := hf 0 10 p0 (nf 0 10 rfl)
  have rowT : ∀ j, statT.contains j = true → ∀ k, B2 (51 + j) k = B (51 + j) k ∧ B2 (82 + j) k = B (82 + j) k := by
    intro j hj k
    have hm := List.contains_iff_mem.mp hj
    have pj : (P.contains (51 + j) || P.contains (82 + j)) = false := by
      cases hc : (P.contains (51 + j) || P.contains (82 + j)) with
      | false => rfl
      | true =>
        have : statT.any (fun j => P.contains (51 + j) || P.contains (82 + j)) = true := List.any_eq_true.mpr ⟨j, hm, hc⟩
        rw [pT] at this
        exact absurd this (by decide)
    rw [Bool.or_eq_false_iff] at pj
    have no : ∀ x, (x = 51 + j ∨ x = 82 + j) → okF (x, k) = false := by
      intro x hx
      have : statT.all (fun j => !Nat.beq x (51 + j) && !Nat.beq x (82 + j)) = false := by
        cases hc : statT.all (fun j => !Nat.beq x (51 + j) && !Nat.beq x (82 + j)) with
        | false => rfl
        | true =>
          have := List.all_eq_true.mp hc j hm
          rcases hx with rfl | rfl
          · simp at this
          · simp at this
      show (_ && _ && statT.all (fun j => !Nat.beq x (51 + j) && !Nat.beq x (82 + j))) = false
      rw [this, Bool.and_false]
    exact ⟨hf _ _ pj.1 (nf _ _ (no _ (Or.inl rfl))), hf _ _ pj.2 (nf _ _ (no _ (Or.inr rfl)))⟩
  have hM : ∀ j, statM.contains j = true → M'.contains j = false := by
    intro j hj
    have := List.all_eq_true.mp hM j (List.contains_iff_mem.mp hj)
    simpa using this
  refine ⟨by rw [e9, e10]; exact h.1, ?_⟩
  rw [hg.2 12 h12, e9]
  refine MRs.cg h.2 (fun j hj => hg.1 j ?_ (hM j hj)) (fun j hj => ?_) ?_
  · intro e0
    subst e0
    exact absurd hj (by decide)
  · funext k
    have r := rowT j hj k
    rcases (show B 0 9 = 0 ∨ B 0 9 = 1 by omega) with e | e
    · rw [e]; exact r.1
    · rw [e]; exact r.2
  · rcases (show B 0 9 = 0 ∨ B 0 9 = 1 by omega) with e | e
    · rw [e]; exact hf 51 15 p51 (nf 51 15 rfl)
    · rw [e]; exact hf 82 15 p82 (nf 82 15 rfl)
theorem O_town2 {b : Nat} {A0 A B u : St} {z i : Int} (g : OB b A B) (hq : d_X12_town_2 i A0 B z u) : OB b A u := by
  rcases (hq : tr_d_X12_town_2 i A0 B z u) with ⟨_, A27, e, _, hu⟩ | ⟨_, A28, e, z29, A30, hr, _, hu⟩
  · rw [hu, e]; exact g.s0.s0.s0.s0
  · have g28 : OB b A A28 := by rw [e]; exact g.s0.s0
    rw [hu]
    refine g28.r32 hr.2.2.1 (fun j h0 h1 => ?_)
    have : ∀ k : Fin 33, ([41] : List Nat).contains k.val = false := by decide
    exact this ⟨j, by omega⟩
theorem O_townL {b : Nat} {A0 A u : St} {z : Int} : ∀ (nn : Nat) (i : Int) (B : St), OB b A B → B 0 47 = (b : Int) → d_X12_town_1 A0 z u nn i B → OB b A u := by
  intro nn
  induction nn with
  | zero => intro i B _ _ hq; exact hq.elim
  | succ nn ih =>
    intro i B g h47 hq
    obtain ⟨hI, _, hq⟩ := (hq : tr_d_X12_town_1 A0 z u (fun z5 A7 => d_X12_town_1 A0 z u nn z5 A7) i B)
    rcases hq with ⟨_, hq⟩ | ⟨_, hq⟩
    · exact O_town2 g hq
    · rcases hq with ⟨_, hq⟩ | ⟨_, A19, hst, z24, _, hq⟩
      · exact O_town2 g hq
      · exact ih _ A19 (g.trans (O_statement hI h47 hst)) ((hst.2.2.1.2 47 rfl).trans h47) hq
theorem O_town {b : Nat} {A u : St} {z : Int} (hb : -(A 0 12) + 1 = (b : Int)) (hq : q_X12_town A z u) : OB b A u := by
  obtain ⟨A1, e1, A2, ha, nn, hq⟩ := (hq.1 : tr_r_X12_town A z u)
  rw [hb, Int.toNat_natCast] at e1
  have b1 : ∀ j, bnk j = 1 → b / bnk j = b := fun j h => by rw [h]; exact Nat.div_one b
  have g1 : OB b A A1 := by
    rw [e1]
    exact (OB.st (OB.st (OB.st (OB.st (OB.st (OB.st (OB.st (OB.st OB.rf.s0.s0.s0.s0.s0.s0 (b1 2 rfl)) (b1 4 rfl)) (b1 11 rfl)) (b1 16 rfl)) (b1 19 rfl)) (b1 22 rfl)) (b1 25 rfl)) (b1 29 rfl)).s0
  have e47 : A1 0 47 = (b : Int) := by rw [e1]; rfl
  exact O_townL nn 0 A2 (g1.cl ha.2.2.1) ((ha.2.2.1.2 47 rfl).trans e47) hq
theorem town2_k {A0 B u : St} {z i : Int} (h : 1 ≤ B 0 8) (hq : d_X12_town_2 i A0 B z u) : u 0 12 = B 0 12 ∧ u 0 75 = B 0 75 := by
  rcases (hq : tr_d_X12_town_2 i A0 B z u) with ⟨c, _⟩ | ⟨_, A28, e, z29, A30, hr, _, hu⟩
  · omega
  · rw [hu, hr.2.2.1.2 12 rfl, hr.2.2.1.2 75 rfl, e]
    exact ⟨rfl, rfl⟩
theorem town1_k {A0 B u : St} {z i : Int} {nn : Nat} (h : 1 ≤ B 0 8) (hq : d_X12_town_1 A0 z u nn i B) : u 0 12 = B 0 12 ∧ u 0 75 = B 0 75 := by
  cases nn with
  | zero => exact hq.elim
  | succ nn =>
    obtain ⟨_, _, hq⟩ := (hq : tr_d_X12_town_1 A0 z u (fun z5 A7 => d_X12_town_1 A0 z u nn z5 A7) i B)
    rcases hq with ⟨_, hq⟩ | ⟨c, _⟩
    · exact town2_k h hq
    · omega
theorem M_townF {f : Nat → Int} {N b : Nat} {A0 u : St} {z : Int} (hz : z = -1) : ∀ (nn i : Nat) (A T : St) (p : Nat), MS f N b p A → MR b A T → T 19 2 ≤ (p : Int) → i ≤ p → (A 0 12 = A0 0 12 ∧ A 0 75 = A0 0 75) → d_X12_town_1 A0 z u nn (i : Int) A → u 0 12 = A0 0 12 ∧ u 0 75 = A0 0 75 := by
  intro nn
  induction nn with
  | zero => intro i A T p _ _ _ _ _ hq; exact hq.elim
  | succ nn ih =>
    intro i A T p h hR hT hip hk hq
    have N16 : N ≤ 1600 := h.1.2.1
    have hpN := h.le
    obtain ⟨hI, _, hq⟩ := (hq : tr_d_X12_town_1 A0 z u (fun z5 A7 => d_X12_town_1 A0 z u nn z5 A7) i A)
    rcases hq with ⟨c, _⟩ | ⟨_, hq⟩
    · exact absurd h.ns c
    · rcases hq with ⟨c0, hq⟩ | ⟨c0, A19, hst, z24, hz24, hq⟩
      · rcases (hq : tr_d_X12_town_2 (i : Int) A0 A z u) with ⟨_, A27, _, hz2, _⟩ | ⟨c, _⟩
        · omega
        · exact absurd (Int.le_of_eq h.ns) c
      · have e24 : z24 = ((i + 1 : Nat) : Int) := by
          rw [hz24]
          exact oWrap_id ⟨by omega, by omega⟩
        have hk2 : A19 0 12 = A0 0 12 ∧ A19 0 75 = A0 0 75 := ⟨(hst.2.2.1.2 12 rfl).trans hk.1, (hst.2.2.1.2 75 rfl).trans hk.2⟩
        rcases M_statement hI h hR hT hst with ⟨_, a, sa, mr, ms, cd, pa⟩ | ⟨f1, _⟩
        · rw [e24] at hq
          exact ih (i + 1) A19 a.1 a.2 ms mr cd (by omega) hk2 hq
        · have := town1_k f1 hq
          exact ⟨this.1.trans hk2.1, this.2.trans hk2.2⟩
theorem M_townK {f : Nat → Int} {N b : Nat} {A u : St} {z : Int} (hN : A 0 1 = (N : Int)) (h16 : N ≤ 1600) (hf : ∀ k, k < N → f k = A 1 k) (hb : -(A 0 12) + 1 = (b : Int)) (hb1 : b ≤ 1) (hz : z = -1) (hq : q_X12_town A z u) : u 0 12 = A 0 12 ∧ u 0 75 = A 0 75 := by
  obtain ⟨A1, e1, A2, ha, nn, hq⟩ := (hq.1 : tr_r_X12_town A z u)
  rw [hb, Int.toNat_natCast] at e1
  have hG : MG f N b 0 A1 := by
    rw [e1]
    exact ⟨⟨hN, h16, hf⟩, rfl, hb1, rfl, by omega, rfl⟩
  have g0 : A2 0 12 = A 0 12 ∧ A2 0 75 = A 0 75 := by
    rw [ha.2.2.1.2 12 rfl, ha.2.2.1.2 75 rfl, e1]
    exact ⟨rfl, rfl⟩
  obtain ⟨mo, q⟩ := hG.ahead ha
  rcases mo with ⟨_, f1⟩ | ⟨_, ms⟩
  · have := town1_k f1 hq
    exact ⟨this.1.trans g0.1, this.2.trans g0.2⟩
  · have mr : MR b A2 (sClear A) := by
      refine MR.rq (MR_0 ?_) q
      rw [e1]
      exact ⟨up_same _ _ _, up_same _ _ _, up_same _ _ _, up_same _ _ _, up_same _ _ _, up_same _ _ _, up_same _ _ _, up_same _ _ _⟩
    exact M_townF hz nn 0 A2 (sClear A) 0 ms mr (by decide : (0 : Int) ≤ 0) (Nat.le_refl 0) g0 hq
/-- the numbers of trials -/
def TRn (B A : St) : Prop := B 22 4 = A 0 75
theorem town_ps {z1 z2 : Int} {B A u1 u2 : St} (hIK : IK B) (hIM : IM A) (he : B 1 1 = A 0 1) (hT : TB B A) (hO : OW B) (hp : PSs B A) (hr : TRn B A) (h1 : r_X11_town B z1 u1) (h2 : q_X12_town A z2 u2) : PSs u1 u2 ∧ TRn u1 u2 := by
  have r01 : (0 : Int) ≤ A 0 1 ∧ A 0 1 ≤ 1600 := hIM 0 1
  have r12 : (0 : Int) ≤ A 0 12 ∧ A 0 12 ≤ 1 := hIM 0 12
  have r10 : (0 : Int) ≤ B 0 10 ∧ B 0 10 ≤ 1 := hIK 0 10
  have r9 : (0 : Int) ≤ B 0 9 ∧ B 0 9 ≤ 1 := hIK 0 9
  have s1 := hp.1
  obtain ⟨N, hN⟩ : ∃ N : Nat, A 0 1 = (N : Int) := ⟨(A 0 1).toNat, by omega⟩
  obtain ⟨b, hb⟩ : ∃ b : Nat, -(A 0 12) + 1 = (b : Int) := ⟨(-(A 0 12) + 1).toNat, by omega⟩
  obtain ⟨t2, ht2, z3, A4, hrd, A7, e7, h1⟩ := (h1 : tr_r_X11_town B z1 u1)
  have hta : isT t2 := by
    rcases (show B 0 10 = 0 ∨ B 0 10 = 1 by omega) with e | e
    · rw [e] at ht2; exact Or.inl ht2
    · rw [e] at ht2; exact Or.inr ht2
  have hE : EK (fun k => B 2 k % 256) N B := ⟨hIK, by rw [he, hN], by omega, fun k _ => rfl, hO⟩
  have cw := C_readTown hta hE hrd
  have mx := M_town (f := fun k => B 2 k % 256) (N := N) (b := b) (T := tw t2 B) hN (by omega) (fun k hk => (hT k (by omega)).symm) hb (by omega) h2
  have ob := O_town hb h2
  unfold CW at cw
  rcases mx with ⟨a, ha, hz, hm, h12⟩ | ⟨ha, hz⟩
  · rw [ha] at cw
    obtain ⟨cz, _, ct⟩ := cw
    rcases h1 with ⟨_, t12, _, A15, e15, A16, e16, A17, e17, _, hu⟩ | ⟨c, _⟩
    · refine ⟨⟨?_, ?_⟩, ?_⟩
      · rw [hu, e17, e16, e15]
        show B 0 10 + B 0 9 = 1
        omega
      · have w9 : u1 0 9 = B 0 10 := by rw [hu, e17, e16, e15]; rfl
        rw [h12, Int.toNat_natCast, w9, ← ht2]
        have et : tw t2 u1 = a.2 := by
          rw [← ct]
          funext j k
          show u1 (t2 + j) k = A4 (t2 + j) k
          have l51 : 51 ≤ t2 := by rcases hta with e | e <;> omega
          rw [hu, e17, stA_ne _ _ (by omega), e16, stA_ne _ _ (by omega), e15, stA_ne _ _ (by omega), e7, stA_ne _ _ (by omega)]
        rw [et]
        exact hm.s
      · have u22 : u1 22 4 = 0 := by rw [hu, e17]; rfl
        unfold TRn
        rw [u22]
        rcases (h2.1 : tr_r_X12_town A z2 u2) with ⟨_, _, _, _, nn, hq⟩
        have hnn : ∀ (nn : Nat) (i : Int) (C : St), 0 ≤ z2 → d_X12_town_1 A z2 u2 nn i C → (0 : Int) = u2 0 75 := by
          intro nn
          induction nn with
          | zero => intro i C _ hq; exact hq.elim
          | succ nn ih =>
            intro i C hz0 hq
            have t2' : d_X12_town_2 i A C z2 u2 → (0 : Int) = u2 0 75 := by
              intro hq
              rcases (hq : tr_d_X12_town_2 i A C z2 u2) with ⟨_, A27, e, _, hu⟩ | ⟨_, A28, _, z29, A30, hf, hz9, _⟩
              · rw [hu, e]; rfl
              · have := hf.2.2.2
                omega
            obtain ⟨_, _, hq⟩ := (hq : tr_d_X12_town_1 A z2 u2 (fun z5 A7 => d_X12_town_1 A z2 u2 nn z5 A7) i C)
            rcases hq with ⟨_, hq⟩ | ⟨_, hq⟩
            · exact t2' hq
            · rcases hq with ⟨_, hq⟩ | ⟨_, A19, _, z24, _, hq⟩
              · exact t2' hq
              · exact ih _ A19 hz0 hq
        exact hnn nn _ _ (by rw [hz]; omega) hq
    · rw [cz] at c
      omega
  · rw [ha] at cw
    have cz : z3 = -1 := cw
    rcases h1 with ⟨c, _⟩ | ⟨_, z22, A23, hf, _, hu⟩
    · exact absurd cz c
    · have htt : TT t2 (51 + 31 * (B 0 9).toNat) := by
        unfold TT
        rcases (show B 0 10 = 0 ∨ B 0 10 = 1 by omega) with e | e
        · have e9 : B 0 9 = 1 := by omega
          rw [e] at ht2
          rw [e9]
          exact Or.inl ⟨ht2, rfl⟩
        · have e9 : B 0 9 = 0 := by omega
          rw [e] at ht2
          rw [e9]
          exact Or.inr ⟨ht2, rfl⟩
      have htb : isT (51 + 31 * (B 0 9).toNat) := by
        rcases (show B 0 9 = 0 ∨ B 0 9 = 1 by omega) with e | e
        · rw [e]; exact Or.inl rfl
        · rw [e]; exact Or.inr rfl
      have ot := ot_r_X5_readTown htb htt OT.rf hrd.1
      have f9 : u1 0 9 = B 0 9 := by
        rw [hu, hf.2.2.1 0 9 rfl rfl, e7]
        exact hrd.2.2.1 0 9 rfl rfl
      have f10 : u1 0 10 = B 0 10 := by
        rw [hu, hf.2.2.1 0 10 rfl rfl, e7]
        exact hrd.2.2.1 0 10 rfl rfl
      have f22 : u1 22 4 = B 22 4 := by
        rw [hu, hf.2.2.1 22 4 rfl rfl, e7]
        exact hrd.2.2.1 22 4 rfl rfl
      have m12 : u2 0 12 = A 0 12 ∧ u2 0 75 = A 0 75 := M_townK (f := fun k => B 2 k % 256) hN (by omega) (fun k hk => (hT k (by omega)).symm) hb (by omega) hz h2
      refine ⟨⟨by rw [f9, f10]; exact s1, ?_⟩, ?_⟩
      · rw [m12.1, f9]
        have ms := MRs.ob hIM hp.2 ob (by omega)
        refine MRs.cg ms (fun j _ => rfl) (fun j hj => ?_) ?_
        · have j31 : j < 31 := by
            have := List.contains_iff_mem.mp hj
            simp [statT] at this
            omega
          funext k
          show u1 (51 + 31 * (B 0 9).toNat + j) k = B (51 + 31 * (B 0 9).toNat + j) k
          have l51 : 51 ≤ 51 + 31 * (B 0 9).toNat + j := by omega
          rw [hu, hf.2.2.1 _ k ?_ ?_, e7, stA_ne _ _ (by omega), ot j j31]
          · have : ([50] : List Nat).contains (51 + 31 * (B 0 9).toNat + j) = false := by
              cases hc : ([50] : List Nat).contains (51 + 31 * (B 0 9).toNat + j) with
              | false => rfl
              | true =>
                have := List.contains_iff_mem.mp hc
                simp at this
                omega
            exact this
          · rfl
        · show u1 (51 + 31 * (B 0 9).toNat + 0) 15 = B (51 + 31 * (B 0 9).toNat + 0) 15
          have o0 := ot 0 (by decide)
          rw [hu, hf.2.2.1 _ 15 ?_ rfl, e7, stA_ne _ _ (by omega), o0]
          cases hc : ([50] : List Nat).contains (51 + 31 * (B 0 9).toNat + 0) with
          | false => rfl
          | true =>
            have := List.contains_iff_mem.mp hc
            simp at this
            omega
      · unfold TRn
        rw [f22, m12.2]
        exact hr
theorem unsay_eq {z1 z2 : Int} {B A u1 u2 : St} (hr : TRn B A) (h1 : r_X11_unsay B z1 u1) (h2 : r_X12_unsay A z2 u2) : z1 = z2 ∧ TRn u1 u2 := by
  have hr : B 22 4 = A 0 75 := hr
  rcases (h1 : tr_r_X11_unsay B z1 u1) with ⟨c, A3, e3, hz, hu⟩ | ⟨c, z5, A6, hf, hz, hu⟩
  · rcases (h2 : tr_r_X12_unsay A z2 u2) with ⟨_, hz2, hu2⟩ | ⟨c2, _⟩
    · refine ⟨by rw [hz, hz2, hr], ?_⟩
      unfold TRn
      rw [hu, e3, hu2]
      show B 22 4 - 1 = A 0 75 - 1
      rw [hr]
    · exact absurd (hr.trans c2) c
  · rcases (h2 : tr_r_X12_unsay A z2 u2) with ⟨c2, _⟩ | ⟨_, z6, A7, hf2, hz2, hu2⟩
    · exact absurd (hr.symm.trans c) c2
    · refine ⟨by rw [hz, hz2, hf.2.2.2, hf2.2.2.2], ?_⟩
      unfold TRn
      rw [hu, hu2, hf.2.2.1 22 4 rfl rfl, hf2.2.2.1.2 75 rfl]
      exact hr
theorem trial_tr {x1 x2 z1 z2 : Int} {B A u1 u2 : St} (hIK : IK B) (hIM : IM A) (hp : PSs B A) (hr : TRn B A) (h1 : r_X11_trial x1 x2 B z1 u1) (h2 : r_X12_trial x1 x2 A z2 u2) : TRn u1 u2 := by
  have hr : B 22 4 = A 0 75 := hr
  have r75 : (0 : Int) ≤ A 0 75 ∧ A 0 75 ≤ 20 := hIM 0 75
  obtain ⟨t2, ht2, z3, hi, h1⟩ := (h1 : tr_r_X11_trial x1 x2 B z1 u1)
  obtain ⟨z4, hd, h2⟩ := (h2 : tr_r_X12_trial x1 x2 A z2 u2)
  have cnt : A 4 (A 0 12).toNat = B (t2 + 1) 1 := by
    rw [ht2]
    exact hp.2.1.2.1.1
  have r4 : A 4 (A 0 12).toNat ≤ 10 := (hIM 4 _).2
  have dI := hd.2.2
  have d01 := hd.2.1
  have kI : (z3 = 0 ∧ ¬ (0 ≤ x1 ∧ x1 < B (t2 + 1) 1)) ∨ (z3 = 1 ∧ 0 ≤ x1 ∧ x1 < B (t2 + 1) 1) := by
    rcases (hi.1 : tr_r_X9_isThere_1_1 t2 x1 B z3) with ⟨c, hz⟩ | ⟨c, z5, hz5, h⟩
    · exact Or.inl ⟨hz, fun g => by omega⟩
    · have hz5 : z5 = B (t2 + 1) 1 := hz5
      rcases h with ⟨c2, hz⟩ | ⟨c2, hz⟩
      · exact Or.inl ⟨hz, fun g => by omega⟩
      · exact Or.inr ⟨hz, by omega, by omega⟩
  have same : z3 = 0 ↔ z4 = 0 := by
    rw [cnt] at dI r4
    constructor
    · intro e
      rcases kI with ⟨_, g⟩ | ⟨g, _⟩
      · by_cases e4 : z4 = 1
        · have := dI.mp e4
          exact absurd ⟨this.1, this.2.1⟩ g
        · omega
      · omega
    · intro e
      rcases kI with ⟨g, _⟩ | ⟨_, g⟩
      · exact g
      · have := dI.mpr ⟨g.1, g.2, r4⟩
        omega
  unfold TRn
  rcases h1 with ⟨c, z7, A8, hf, _, hu⟩ | ⟨c, z11, A12, had, h1⟩
  · rcases h2 with ⟨_, z5, A6, hf2, _, hu2⟩ | ⟨c2, _⟩
    · rw [hu, hu2, hf.2.2.1 22 4 rfl rfl, hf2.2.2.1.2 75 rfl]
      exact hr
    · exact absurd (same.mp c) c2
  · rcases h2 with ⟨c2, _⟩ | ⟨_, h2⟩
    · exact absurd (same.mpr c2) c
    · rcases (had.1 : tr_r_X1_add x1 x2 B z11 A12) with ⟨c3, A4, _, A6, _, A8, e8, hz, e12⟩ | ⟨c3, hz, e12⟩
      · rcases h1 with ⟨_, A17, hs, _, hu⟩ | ⟨c4, _⟩
        · rcases h2 with ⟨_, A10, e10, z11b, A12b, hfi, _, hu2⟩ | ⟨c5, _⟩
          · rw [hu, hu2, hs.2.2.1 22 4 rfl rfl, hfi.2.2.1.2 75 rfl, e12, e8, e10]
            show B 22 4 + 1 = A 0 75 + 1
            rw [hr]
          · omega
        · rw [hz] at c4
          exact absurd c4 (by decide)
      · rcases h1 with ⟨c4, _⟩ | ⟨_, z21, A22, hf, _, hu⟩
        · exact absurd hz c4
        · rcases h2 with ⟨c5, _⟩ | ⟨_, z15, A16, hf2, _, hu2⟩
          · omega
          · rw [hu, hu2, hf.2.2.1 22 4 rfl rfl, hf2.2.2.1.2 75 rfl, e12]
            exact hr
