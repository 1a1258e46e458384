/-! The codes of the reference's other bank are left alone. -/
def OC (b : Nat) (A u : St) : Prop := ∀ i, ¬ i / 1600 = b → u 33 i = A 33 i ∧ u 34 i = A 34 i
def C34 (A u : St) : Prop := u 33 = A 33 ∧ u 34 = A 34
theorem C34.rf {A : St} : C34 A A := ⟨rfl, rfl⟩
theorem C34.trans {A B C : St} (h : C34 A B) (g : C34 B C) : C34 A C := ⟨g.1.trans h.1, g.2.trans h.2⟩
theorem C34.fr {M' N' : List Nat} {A B : St} (h : fr M' N' A B) (hM : (M'.contains 33 || M'.contains 34) = false) : C34 A B := by
  rw [Bool.or_eq_false_iff] at hM
  exact ⟨h.1 33 (by decide) hM.1, h.1 34 (by decide) hM.2⟩
theorem C34.st {A B : St} {j i : Nat} {v : Int} (h : C34 A B) (h1 : 33 ≠ j) (h2 : 34 ≠ j) : C34 A (stA B j i v) := ⟨(stA_ne _ _ h1).trans h.1, (stA_ne _ _ h2).trans h.2⟩
theorem OC.rf {b : Nat} {A : St} : OC b A A := fun _ _ => ⟨rfl, rfl⟩
theorem OC.c {b : Nat} {A u : St} (h : C34 A u) : OC b A u := fun i _ => by rw [h.1, h.2]; exact ⟨rfl, rfl⟩
theorem OC.trans {b : Nat} {A B C : St} (h : OC b A B) (g : OC b B C) : OC b A C := fun i hi => ⟨(g i hi).1.trans (h i hi).1, (g i hi).2.trans (h i hi).2⟩
theorem add_oc {b : Nat} {s v : Int} {A u : St} (hb : A 0 47 = (b : Int)) (h0 : 0 ≤ A 0 46) (h : q_X12_add s v A u) : OC b A u := by
  have l : u 0 46 ≤ 1600 := (h.2.1 0 46).2
  obtain ⟨A1, e1, e2⟩ := (h.1 : tr_r_X12_add s v A u)
  rw [hb, show (1600 * (b : Int) + A 0 46).toNat = 1600 * b + (A 0 46).toNat by omega] at e1
  have u46 : u 0 46 = A 0 46 + 1 := by rw [e2, e1]; rfl
  intro i hi
  have ne : i ≠ 1600 * b + (A 0 46).toNat := by
    intro e
    apply hi
    rw [e]
    omega
  rw [e2, e1]
  exact ⟨up_ne _ _ ne, up_ne _ _ ne⟩
/-- the bank that is read, and that codes are counted -/
def BK (b : Nat) (A : St) : Prop := A 0 47 = (b : Int) ∧ 0 ≤ A 0 46
theorem BK.fr {b : Nat} {M' N' : List Nat} {A B : St} (h : BK b A) (hI : IM B) (g : fr M' N' A B) (hN : N'.contains 47 = false) : BK b B := ⟨(g.2 47 hN).trans h.1, (hI 0 46).1⟩
theorem BK.st {b : Nat} {A : St} {j i : Nat} {v : Int} (h : BK b A) (hj : 0 ≠ j ∨ (46 ≠ i ∧ 47 ≠ i)) : BK b (stA A j i v) := by
  unfold BK
  rcases hj with hj | ⟨h1, h2⟩
  · rw [stA_ne _ _ hj]; exact h
  · by_cases e : j = 0
    · subst e
      rw [stA_same, up_ne _ _ h1, up_ne _ _ h2]; exact h
    · rw [stA_ne _ _ (Ne.symm e)]; exact h
theorem joins_oc {b : Nat} {lo : Int} {A0 u : St} : ∀ (nn : Nat) (A : St), BK b A → d_X12_joins_1 lo A0 u nn A → OC b A u := by
  intro nn
  induction nn with
  | zero => intro A _ h; exact h.elim
  | succ nn ih =>
    intro A hb h
    obtain ⟨_, z10, _, h⟩ := (h : tr_d_X12_joins_1 lo A0 u (fun A2 => d_X12_joins_1 lo A0 u nn A2) A)
    rcases h with ⟨_, hu⟩ | ⟨_, z14, _, z15, _, h⟩
    · rw [hu]; exact OC.rf
    · rcases h with ⟨_, hu⟩ | ⟨_, z21, _, A22, e22, A23, ha, h⟩
      · rw [hu]; exact OC.rf
      · have b22 : BK b A22 := by rw [e22]; exact hb.st (Or.inr ⟨by decide, by decide⟩)
        have o1 : OC b A A22 := by rw [e22]; exact OC.c (C34.rf.st (by decide) (by decide))
        exact (o1.trans (add_oc b22.1 b22.2 ha)).trans (ih A23 (b22.fr ha.2.1 ha.2.2.1 rfl) h)
theorem q_joins_oc {b : Nat} {lo : Int} {A u : St} (hb : BK b A) (h : q_X12_joins lo A u) : OC b A u := by
  obtain ⟨nn, h⟩ := (h.1 : tr_r_X12_joins lo A u)
  exact joins_oc nn A hb h
theorem operand_oc {b : Nat} {A u : St} {z : Int} (hb : BK b A) (hq : q_X12_operand A z u) : OC b A u := by
  have d7 : ∀ (x : Int) (B : St), BK b B → d_X12_operand_7 x A z u B → OC b B u := by
    intro x B hB h
    obtain ⟨_, h⟩ := (h : tr_d_X12_operand_7 x A z u B)
    rcases h with ⟨_, A166, had, A170, ha, _, hu⟩ | ⟨_, _, hu⟩
    · rw [hu]
      exact (add_oc hB.1 hB.2 had).trans (OC.c (C34.fr ha.2.2.1 rfl))
    · rw [hu]; exact OC.rf
  have d6 : ∀ (x : Int) (B : St), BK b B → d_X12_operand_6 A B z u x → OC b B u := by
    intro x B hB h
    obtain ⟨_, h⟩ := (h : tr_d_X12_operand_6 A B z u x)
    rcases h with ⟨_, h⟩ | ⟨_, A158, hbl, h⟩
    · exact d7 x B hB h
    · exact (OC.c (C34.fr hbl.2.2.1 rfl)).trans (d7 x A158 (hB.fr hbl.2.1 hbl.2.2.1 rfl) h)
  have d10 : ∀ (x : Int) (B : St), d_X12_operand_10 x z u B → OC b B u := by
    intro x B h
    obtain ⟨_, A227, ho, h⟩ := (h : tr_d_X12_operand_10 x z u B)
    rcases h with ⟨_, _, hu⟩ | ⟨_, A231, e, _, hu⟩
    · rw [hu]; exact OC.c (C34.fr ho.2.2.1 rfl)
    · rw [hu, e]; exact OC.c ((C34.fr ho.2.2.1 rfl).st (by decide) (by decide))
  have d8 : ∀ B : St, d_X12_operand_8 B z u → OC b B u := by
    intro B h
    have d9 : ∀ x : Int, d_X12_operand_9 B z u x → OC b B u := by
      intro x h
      obtain ⟨_, A204, ha, z215, _, h⟩ := (h : tr_d_X12_operand_9 B z u x)
      have c1 : OC b B A204 := OC.c (C34.fr ha.2.2.1 rfl)
      rcases h with ⟨_, h⟩ | ⟨_, A220, hbl, h⟩
      · exact c1.trans (d10 x A204 h)
      · exact (c1.trans (OC.c (C34.fr hbl.2.2.1 rfl))).trans (d10 x A220 h)
    obtain ⟨z195, _, h⟩ := (h : tr_d_X12_operand_8 B z u)
    rcases h with ⟨_, h⟩ | ⟨_, h⟩
    · exact d9 _ h
    · exact d9 _ h
  have d5 : ∀ B : St, BK b B → d_X12_operand_5 A B z u → OC b B u := by
    intro B hB h
    obtain ⟨z120, _, h⟩ := (h : tr_d_X12_operand_5 A B z u)
    rcases h with ⟨_, z124, _, h⟩ | ⟨_, A253, ho, _, hu⟩
    · rcases h with ⟨_, h⟩ | ⟨_, z129, _, h⟩
      · exact d8 B h
      · rcases h with ⟨_, h⟩ | ⟨_, h⟩
        · rcases h with ⟨_, z135, _, h⟩ | ⟨_, h⟩
          · rcases h with ⟨_, z139, _, h⟩ | ⟨_, h⟩
            · rcases h with ⟨_, z143, _, h⟩ | ⟨_, h⟩
              · rcases h with ⟨_, z147, _, h⟩ | ⟨_, h⟩
                · rcases h with ⟨_, h⟩ | ⟨_, h⟩
                  · exact d6 _ B hB h
                  · exact d6 _ B hB h
                · exact d6 _ B hB h
              · exact d6 _ B hB h
            · exact d6 _ B hB h
          · exact d6 _ B hB h
        · exact d8 B h
    · rw [hu]; exact OC.c (C34.fr ho.2.2.1 rfl)
  have d3 : ∀ y : Int, d_X12_operand_3 y A z u → OC b A u := by
    intro y h
    obtain ⟨A49, e, h⟩ := (h : tr_d_X12_operand_3 y A z u)
    have b49 : BK b A49 := by rw [e]; exact hb.st (Or.inl (by decide))
    have c49 : OC b A A49 := by rw [e]; exact OC.c (C34.rf.st (by decide) (by decide))
    have d4 : d_X12_operand_4 y A A49 z u → OC b A49 u := by
      intro h
      rcases (h : tr_d_X12_operand_4 y A A49 z u) with ⟨_, h⟩ | ⟨_, z76, _, h⟩
      · exact d5 A49 b49 h
      · rcases h with ⟨_, h⟩ | ⟨_, A80, had, A84, e84, A85, ha, _, hu⟩
        · exact d5 A49 b49 h
        · rw [hu]
          have c84 : C34 A80 A84 := by rw [e84]; exact C34.rf.st (by decide) (by decide)
          exact (add_oc b49.1 b49.2 had).trans (OC.c (c84.trans (C34.fr ha.2.2.1 rfl)))
    rcases h with ⟨_, h⟩ | ⟨_, z59, _, h⟩
    · exact c49.trans (d4 h)
    · rcases h with ⟨_, h⟩ | ⟨_, A63, ho, _, hu⟩
      · exact c49.trans (d4 h)
      · rw [hu]; exact c49.trans (OC.c (C34.fr ho.2.2.1 rfl))
  have d2 : ∀ y : Int, d_X12_operand_2 A z u y → OC b A u := by
    intro y h
    obtain ⟨_, h⟩ := (h : tr_d_X12_operand_2 A z u y)
    rcases h with ⟨_, h⟩ | ⟨_, z18, _, h⟩
    · exact d3 y h
    · rcases h with ⟨_, h⟩ | ⟨_, A22, hh, A25, ha, _, hu⟩
      · exact d3 y h
      · rw [hu]; exact OC.c ((C34.fr hh.2.2.1 rfl).trans (C34.fr ha.2.2.1 rfl))
  obtain ⟨z1, _, z2, _, h⟩ := (hq.1 : tr_r_X12_operand A z u)
  rcases h with ⟨_, h⟩ | ⟨_, z8, _, h⟩
  · exact d2 0 h
  · rcases h with ⟨_, h⟩ | ⟨_, h⟩
    · exact d2 0 h
    · exact d2 1 h
theorem goesOn_oc {b : Nat} {A u : St} {z : Int} (hb : BK b A) (hq : q_X12_goesOn A z u) : OC b A u := by
  have jh : ∀ {B B1 B2 A' : St} {l x : Int}, q_X12_joins l A B → q_X12_holdsBack x B B1 → C34 B1 B2 → q_X12_ahead B2 A' → (∃ A49 : St, A49 = stA A' 0 57 0 ∧ (z = 1 ∧ u = A49)) → OC b A u := by
    intro B B1 B2 A' l x hj hh hc ha h
    obtain ⟨A49, e, _, hu⟩ := h
    rw [hu, e]
    exact (q_joins_oc hb hj).trans (OC.c ((((C34.fr hh.2.2.1 rfl).trans hc).trans (C34.fr ha.2.2.1 rfl)).st (by decide) (by decide)))
  have d1 : ∀ z1 z2 : Int, d_X12_goesOn_1 A z u z1 z2 → OC b A u := by
    intro z1 z2 h
    obtain ⟨z30, _, h⟩ := (h : tr_d_X12_goesOn_1 A z u z1 z2)
    rcases h with ⟨_, A34, hj, z39, _, A43, hh, A46, ha, h⟩ | ⟨_, z78, _, h⟩
    · exact jh hj hh C34.rf ha h
    · rcases h with ⟨_, A82, hj, z87, _, z91, _, z95, _, h⟩ | ⟨_, A208, hj, z213, _, z217, _, A221, hh, A224, ha, h⟩
      · rcases h with ⟨_, z99, _, h⟩ | ⟨_, A173, hh, A176, ha, h⟩
        · rcases h with ⟨_, A103, hh, A106, ha, h⟩ | ⟨_, A138, hh, A141, ha, h⟩
          · exact jh hj hh C34.rf ha h
          · exact jh hj hh C34.rf ha h
        · exact jh hj hh C34.rf ha h
      · exact jh hj hh C34.rf ha h
  have d10 : ∀ (k : Int) (B : St), BK b B → OC b A B → d_X12_goesOn_10 A z u k B → OC b A u := by
    intro k B hB o h
    obtain ⟨_, h⟩ := (h : tr_d_X12_goesOn_10 A z u k B)
    rcases h with ⟨_, A579, hj, A584, e, h⟩ | ⟨_, _, hu⟩
    · have o2 : OC b A A584 := by
        rw [e]
        exact (o.trans (q_joins_oc hB hj)).trans (OC.c ((C34.rf.st (by decide) (by decide)).st (by decide) (by decide)))
      have b2 : BK b A584 := by
        rw [e]
        exact ((hB.fr hj.2.1 hj.2.2.1 rfl).st (Or.inr ⟨by decide, by decide⟩)).st (Or.inr ⟨by decide, by decide⟩)
      rcases h with ⟨_, h⟩ | ⟨_, z657, _, A658, had, A663, ha, _, hu⟩
      · rcases h with ⟨_, A587, ha, _, hu⟩ | ⟨_, A616, e6, A617, ha, _, hu⟩
        · rw [hu]; exact o2.trans (OC.c (C34.fr ha.2.2.1 rfl))
        · rw [hu]
          have c6 : C34 A584 A616 := by rw [e6]; exact C34.rf.st (by decide) (by decide)
          exact o2.trans (OC.c (c6.trans (C34.fr ha.2.2.1 rfl)))
      · rw [hu]
        exact (o2.trans (add_oc b2.1 b2.2 had)).trans (OC.c (C34.fr ha.2.2.1 rfl))
    · rw [hu]; exact o
  have d11 : ∀ B : St, BK b B → OC b A B → d_X12_goesOn_11 A z u B → OC b A u := by
    intro B hB o h
    obtain ⟨_, h⟩ := (h : tr_d_X12_goesOn_11 A z u B)
    rcases h with ⟨_, A716, hj, A721, e, A722, ha, A725, e5, _, hu⟩ | ⟨_, _, hu⟩
    · rw [hu, e5]
      have c1 : C34 A716 A721 := by rw [e]; exact C34.rf.st (by decide) (by decide)
      exact (o.trans (q_joins_oc hB hj)).trans (OC.c ((c1.trans (C34.fr ha.2.2.1 rfl)).st (by decide) (by decide)))
    · rw [hu]; exact o
  have d8 : ∀ (k : Int) (B : St), BK b B → OC b A B → d_X12_goesOn_8 A z u k B → OC b A u := by
    intro k B hB o h
    have d9 : ∀ x : Int, d_X12_goesOn_9 k A B z u x → OC b A u := by
      intro x h
      obtain ⟨_, z567, _, h⟩ := (h : tr_d_X12_goesOn_9 k A B z u x)
      rcases h with ⟨_, h⟩ | ⟨_, A572, hbl, h⟩
      · exact d10 k B hB o h
      · exact d10 k A572 (hB.fr hbl.2.1 hbl.2.2.1 rfl) (o.trans (OC.c (C34.fr hbl.2.2.1 rfl))) h
    obtain ⟨_, h⟩ := (h : tr_d_X12_goesOn_8 A z u k B)
    rcases h with ⟨_, h⟩ | ⟨_, h⟩
    · rcases h with ⟨_, h⟩ | ⟨_, z703, _, h⟩
      · rcases h with ⟨_, h⟩ | ⟨_, h⟩
        · exact d9 _ h
        · exact d9 _ h
      · rcases h with ⟨_, h⟩ | ⟨_, A708, hbl, h⟩
        · exact d11 B hB o h
        · exact d11 A708 (hB.fr hbl.2.1 hbl.2.2.1 rfl) (o.trans (OC.c (C34.fr hbl.2.2.1 rfl))) h
    · rcases h with ⟨_, _, hu⟩ | ⟨_, A754, hj, _, hu⟩
      · rw [hu]; exact o
      · rw [hu]; exact o.trans (q_joins_oc hB hj)
  have d7 : ∀ k z2 : Int, d_X12_goesOn_7 A z u k z2 → OC b A u := by
    intro k z2 h
    rcases (h : tr_d_X12_goesOn_7 A z u k z2) with ⟨_, h⟩ | ⟨_, z552, _, h⟩
    · exact d8 k A hb OC.rf h
    · rcases h with ⟨_, h⟩ | ⟨_, A554, hbl, h⟩
      · exact d8 k A hb OC.rf h
      · exact d8 k A554 (hb.fr hbl.2.1 hbl.2.2.1 rfl) (OC.c (C34.fr hbl.2.2.1 rfl)) h
  have d6 : ∀ (k z2 : Int) (B : St), BK b B → OC b A B → d_X12_goesOn_6 A z u k z2 B → OC b A u := by
    intro k z2 B hB o h
    obtain ⟨_, h⟩ := (h : tr_d_X12_goesOn_6 A z u k z2 B)
    have fin : ∀ {C B1 B2 A' : St} {l x : Int}, q_X12_joins l B C → q_X12_holdsBack x C B1 → C34 B1 B2 → q_X12_ahead B2 A' → (∃ A49 : St, A49 = stA A' 0 57 0 ∧ (z = 1 ∧ u = A49)) → OC b A u := by
      intro C B1 B2 A' l x hj hh hc ha h
      obtain ⟨A49, e, _, hu⟩ := h
      rw [hu, e]
      exact (o.trans (q_joins_oc hB hj)).trans (OC.c ((((C34.fr hh.2.2.1 rfl).trans hc).trans (C34.fr ha.2.2.1 rfl)).st (by decide) (by decide)))
    rcases h with ⟨_, z445, _, h⟩ | ⟨_, _, hu⟩
    · rcases h with ⟨_, A449, hj, A455, hh, A458, e, A459, ha, h⟩ | ⟨_, A499, hj, A505, hh, A508, e, A509, ha, h⟩
      · exact fin hj hh (by rw [e]; exact (C34.rf.st (by decide) (by decide)).st (by decide) (by decide)) ha h
      · exact fin hj hh (by rw [e]; exact (C34.rf.st (by decide) (by decide)).st (by decide) (by decide)) ha h
    · rw [hu]; exact o
  have d5 : ∀ k z2 : Int, d_X12_goesOn_5 A z u k z2 → OC b A u := by
    intro k z2 h
    obtain ⟨z436, _, h⟩ := (h : tr_d_X12_goesOn_5 A z u k z2)
    rcases h with ⟨_, h⟩ | ⟨_, A439, hbl, h⟩
    · exact d6 k z2 A hb OC.rf h
    · exact d6 k z2 A439 (hb.fr hbl.2.1 hbl.2.2.1 rfl) (OC.c (C34.fr hbl.2.2.1 rfl)) h
  have d4 : ∀ k z2 : Int, d_X12_goesOn_4 A z u k z2 → OC b A u := by
    intro k z2 h
    rcases (h : tr_d_X12_goesOn_4 A z u k z2) with ⟨_, h⟩ | ⟨_, z426, _, h⟩
    · exact d7 k z2 h
    · rcases h with ⟨_, h⟩ | ⟨_, z431, _, h⟩
      · exact d5 k z2 h
      · rcases h with ⟨_, h⟩ | ⟨_, h⟩
        · exact d7 k z2 h
        · exact d5 k z2 h
  have d3 : ∀ k z2 : Int, d_X12_goesOn_3 A z u k z2 → OC b A u := by
    intro k z2 h
    obtain ⟨A275, hj, z280, _, h⟩ := (h : tr_d_X12_goesOn_3 A z u k z2)
    rcases h with ⟨_, z284, _, h⟩ | ⟨_, A378, hh, A381, e, A382, ha, h⟩
    · rcases h with ⟨_, A288, hh, A291, e, A292, ha, h⟩ | ⟨_, A333, hh, A336, e, A337, ha, h⟩
      · exact jh hj hh (by rw [e]; exact C34.rf.st (by decide) (by decide)) ha h
      · exact jh hj hh (by rw [e]; exact C34.rf.st (by decide) (by decide)) ha h
    · exact jh hj hh (by rw [e]; exact C34.rf.st (by decide) (by decide)) ha h
  have d2 : ∀ k z2 : Int, d_X12_goesOn_2 A z u k z2 → OC b A u := by
    intro k z2 h
    rcases (h : tr_d_X12_goesOn_2 A z u k z2) with ⟨_, h⟩ | ⟨_, z259, _, h⟩
    · exact d4 k z2 h
    · rcases h with ⟨_, h⟩ | ⟨_, z261, _, h⟩
      · exact d4 k z2 h
      · rcases h with ⟨_, h⟩ | ⟨_, z266, _, h⟩
        · exact d3 k z2 h
        · rcases h with ⟨_, h⟩ | ⟨_, z270, _, h⟩
          · exact d3 k z2 h
          · rcases h with ⟨_, h⟩ | ⟨_, h⟩
            · exact d4 k z2 h
            · exact d3 k z2 h
  obtain ⟨z1, _, z2, _, z5, _, h⟩ := (hq.1 : tr_r_X12_goesOn A z u)
  rcases h with ⟨_, h⟩ | ⟨_, z8, _, h⟩
  · exact d2 _ _ h
  · rcases h with ⟨_, h⟩ | ⟨_, z13, _, h⟩
    · exact d1 _ _ h
    · rcases h with ⟨_, h⟩ | ⟨_, z17, _, h⟩
      · exact d1 _ _ h
      · rcases h with ⟨_, h⟩ | ⟨_, z21, _, h⟩
        · exact d1 _ _ h
        · rcases h with ⟨_, h⟩ | ⟨_, z25, _, h⟩
          · exact d1 _ _ h
          · rcases h with ⟨_, h⟩ | ⟨_, h⟩
            · exact d2 _ _ h
            · exact d1 _ _ h
theorem reads_oc {b : Nat} {A u : St} (hb : BK b A) (hq : q_X12_reads 1 A u) : OC b A u := by
  have loop : ∀ (nn : Nat) (x : Int) (B : St), BK b B → d_X12_reads_2 u nn x B → OC b B u := by
    intro nn
    induction nn with
    | zero => intro x B _ h; exact h.elim
    | succ nn ih =>
      intro x B hB h
      obtain ⟨_, _, h⟩ := (h : tr_d_X12_reads_2 u (fun z12 A14 => d_X12_reads_2 u nn z12 A14) x B)
      rcases h with ⟨_, hu⟩ | ⟨_, h⟩
      · rw [hu]; exact OC.rf
      · rcases h with ⟨_, z24, A25, hg, h⟩ | ⟨_, z31, A32, ho, A36, e, h⟩
        · have o1 := goesOn_oc hB hg
          have b1 := hB.fr hg.2.1 hg.2.2.1 rfl
          rcases h with ⟨_, h⟩ | ⟨_, h⟩
          · exact o1.trans (ih _ A25 b1 h)
          · rcases h with ⟨_, h⟩ | ⟨_, h⟩
            · exact o1.trans (ih _ A25 b1 h)
            · exact o1.trans (ih _ A25 b1 h)
        · have o1 : OC b B A36 := by
            rw [e]
            exact (operand_oc hB ho).trans (OC.c (C34.rf.st (by decide) (by decide)))
          have b1 : BK b A36 := by
            rw [e]
            exact (hB.fr ho.2.1 ho.2.2.1 rfl).st (Or.inr ⟨by decide, by decide⟩)
          rcases h with ⟨_, h⟩ | ⟨_, h⟩
          · exact o1.trans (ih _ A36 b1 h)
          · exact o1.trans (ih _ A36 b1 h)
  rcases (hq.1 : tr_r_X12_reads 1 A u) with ⟨_, A2, e2, h2⟩ | ⟨_, hu⟩
  · rcases h2 with ⟨c, _⟩ | ⟨_, h2⟩
    · exact absurd c (by decide)
    · obtain ⟨_, A9, hpu, nn, h2⟩ := (h2 : tr_d_X12_reads_1 A2 u 1)
      have b2 : BK b A2 := by
        rw [e2]
        exact (((hb.st (Or.inr ⟨by decide, by decide⟩)).st (Or.inr ⟨by decide, by decide⟩)).st (Or.inr ⟨by decide, by decide⟩)).st (Or.inr ⟨by decide, by decide⟩)
      have o2 : OC b A A2 := by
        rw [e2]
        exact OC.c ((((C34.rf.st (by decide) (by decide)).st (by decide) (by decide)).st (by decide) (by decide)).st (by decide) (by decide))
      exact (o2.trans (OC.c (C34.fr hpu.2.2.1 rfl))).trans (loop nn 1 A9 (b2.fr hpu.2.1 hpu.2.2.1 rfl) h2)
  · rw [hu]; exact OC.rf
theorem barring_oc {b : Nat} {A u : St} (hb : BK b A) (hq : q_X12_barring A u) : OC b A u := by
  have d5 : ∀ (x : Int) (B : St), d_X12_barring_5 x A u B → OC b B u := by
    intro x B h
    obtain ⟨_, A80, e, h⟩ := (h : tr_d_X12_barring_5 x A u B)
    have o : C34 B A80 := by rw [e]; exact C34.rf.st (by decide) (by decide)
    rcases h with ⟨_, hu⟩ | ⟨_, z97, _, A98, e8, hu⟩
    · rw [hu]; exact OC.c o
    · rw [hu, e8]; exact OC.c (o.st (by decide) (by decide))
  have d4 : ∀ (x : Int) (B : St), BK b B → d_X12_barring_4 x A u B → OC b B u := by
    intro x B hB h
    obtain ⟨_, z41, A42, hk, A46, e46, A47, hwd, A51, e51, h⟩ := (h : tr_d_X12_barring_4 x A u B)
    have o : C34 B A51 := by
      rw [e51]
      have c46 : C34 A42 A46 := by rw [e46]; exact C34.rf.st (by decide) (by decide)
      exact (((C34.fr hk.2.2.1 rfl).trans c46).trans (C34.fr hwd.2.2.1 rfl)).st (by decide) (by decide)
    have b51 : BK b A51 := by
      rw [e51]
      have b46 : BK b A46 := by rw [e46]; exact (hB.fr hk.2.1 hk.2.2.1 rfl).st (Or.inl (by decide))
      exact (b46.fr hwd.2.1 hwd.2.2.1 rfl).st (Or.inl (by decide))
    rcases h with ⟨_, h⟩ | ⟨_, A71, hre, h⟩
    · exact (OC.c o).trans (d5 x A51 h)
    · exact ((OC.c o).trans (reads_oc b51 hre)).trans (d5 x A71 h)
  have d3 : ∀ (x y : Int) (B : St), BK b B → d_X12_barring_3 x A B u y → OC b B u := by
    intro x y B hB h
    obtain ⟨_, h⟩ := (h : tr_d_X12_barring_3 x A B u y)
    rcases h with ⟨_, h⟩ | ⟨_, z33, _, h⟩
    · exact d4 x B hB h
    · rcases h with ⟨_, h⟩ | ⟨_, A35, hbl, h⟩
      · exact d4 x B hB h
      · exact (OC.c (C34.fr hbl.2.2.1 rfl)).trans (d4 x A35 (hB.fr hbl.2.1 hbl.2.2.1 rfl) h)
  have d1 : ∀ x : Int, d_X12_barring_1 A u x → OC b A u := by
    intro x h
    obtain ⟨_, z9, A10, hc, h⟩ := (h : tr_d_X12_barring_1 A u x)
    have o := OC.c (b := b) (C34.fr hc.2.2.1 rfl)
    have b10 := hb.fr hc.2.1 hc.2.2.1 rfl
    rcases h with ⟨_, z15, _, h⟩ | ⟨_, hu⟩
    · rcases h with ⟨_, h⟩ | ⟨_, h⟩
      · exact o.trans (d3 _ _ A10 b10 (h : tr_d_X12_barring_2 z15 A A10 u))
      · rcases h with ⟨_, h⟩ | ⟨_, z20, _, h⟩
        · exact o.trans (d3 _ _ A10 b10 (h : tr_d_X12_barring_2 z15 A A10 u))
        · rcases h with ⟨_, h⟩ | ⟨_, z24, _, h⟩
          · exact o.trans (d3 _ _ A10 b10 (h : tr_d_X12_barring_2 z15 A A10 u))
          · exact o.trans (d3 _ _ A10 b10 h)
    · rw [hu]; exact o
  obtain ⟨z1, _, h⟩ := (hq.1 : tr_r_X12_barring A u)
  rcases h with ⟨_, h⟩ | ⟨_, h⟩
  · exact d1 0 h
  · exact d1 1 h
theorem statement_oc {b : Nat} {A u : St} (hb : BK b A) (hq : q_X12_statement A u) : OC b A u := by
  have d1 : ∀ B : St, d_X12_statement_1 u B → OC b B u := by
    intro B h
    obtain ⟨_, h⟩ := (h : tr_d_X12_statement_1 u B)
    rcases h with ⟨_, e⟩ | ⟨_, A62, hm, e⟩
    · rw [e]; exact OC.rf
    · rw [e]; exact OC.c (C34.fr hm.2.2.1 rfl)
  have oth : ∀ B : St, q_X12_others A B → OC b A B := by
    intro B hq
    obtain ⟨z0, _, h⟩ := (hq.1 : tr_r_X12_others A B)
    rcases h with ⟨_, z1, _, h⟩ | ⟨_, C, hs, e⟩
    · rcases h with ⟨_, z2, _, h⟩ | ⟨_, C, hs, e⟩
      · rcases h with ⟨_, z3, _, h⟩ | ⟨_, C, hs, e⟩
        · rcases h with ⟨_, z4, _, h⟩ | ⟨_, C, hs, e⟩
          · rcases h with ⟨_, z5, _, h⟩ | ⟨_, C, hs, e⟩
            · rcases h with ⟨_, C, hs, e⟩ | ⟨_, C, hs, e⟩
              · rw [e]; exact OC.c (C34.fr hs.2.2.1 rfl)
              · rw [e]; exact barring_oc hb hs
            · rw [e]; exact OC.c (C34.fr hs.2.2.1 rfl)
          · rw [e]; exact OC.c (C34.fr hs.2.2.1 rfl)
        · rw [e]; exact OC.c (C34.fr hs.2.2.1 rfl)
      · rw [e]; exact OC.c (C34.fr hs.2.2.1 rfl)
    · rw [e]; exact OC.c (C34.fr hs.2.2.1 rfl)
  obtain ⟨z0, _, h⟩ := (hq.1 : tr_r_X12_statement A u)
  rcases h with ⟨_, z1, _, h⟩ | ⟨_, C, hs, h⟩
  · rcases h with ⟨_, z2, _, h⟩ | ⟨_, C, hs, h⟩
    · rcases h with ⟨_, z3, _, h⟩ | ⟨_, C, hs, h⟩
      · rcases h with ⟨_, z4, _, h⟩ | ⟨_, C, hs, h⟩
        · rcases h with ⟨_, z5, _, h⟩ | ⟨_, C, hs, h⟩
          · rcases h with ⟨_, C, hs, h⟩ | ⟨_, C, hs, h⟩
            · exact (oth C hs).trans (d1 C h)
            · exact (OC.c (C34.fr hs.2.2.1 rfl)).trans (d1 C h)
          · exact (OC.c (C34.fr hs.2.2.1 rfl)).trans (d1 C h)
        · exact (OC.c (C34.fr hs.2.2.1 rfl)).trans (d1 C h)
      · exact (OC.c (C34.fr hs.2.2.1 rfl)).trans (d1 C h)
    · exact (OC.c (C34.fr hs.2.2.1 rfl)).trans (d1 C h)
  · exact (OC.c (C34.fr hs.2.2.1 rfl)).trans (d1 C h)
theorem town_oc {b : Nat} {A u : St} {z : Int} (hb : -(A 0 12) + 1 = (b : Int)) (hq : q_X12_town A z u) : OC b A u := by
  have t2 : ∀ (i : Int) (B : St), d_X12_town_2 i A B z u → OC b B u := by
    intro i B h
    rcases (h : tr_d_X12_town_2 i A B z u) with ⟨_, A27, e, _, hu⟩ | ⟨_, A28, e, z29, A30, hr, _, hu⟩
    · rw [hu, e]
      exact OC.c ((((C34.rf.st (by decide) (by decide)).st (by decide) (by decide)).st (by decide) (by decide)).st (by decide) (by decide))
    · rw [hu]
      have c28 : C34 B A28 := by rw [e]; exact (C34.rf.st (by decide) (by decide)).st (by decide) (by decide)
      exact OC.c (c28.trans (C34.fr hr.2.2.1 rfl))
  have loop : ∀ (nn : Nat) (i : Int) (B : St), BK b B → d_X12_town_1 A z u nn i B → OC b B u := by
    intro nn
    induction nn with
    | zero => intro i B _ h; exact h.elim
    | succ nn ih =>
      intro i B hB h
      obtain ⟨_, _, h⟩ := (h : tr_d_X12_town_1 A z u (fun z5 A7 => d_X12_town_1 A z u nn z5 A7) i B)
      rcases h with ⟨_, h⟩ | ⟨_, h⟩
      · exact t2 i B h
      · rcases h with ⟨_, h⟩ | ⟨_, A19, hst, z24, _, h⟩
        · exact t2 i B h
        · exact (statement_oc hB hst).trans (ih _ A19 (hB.fr hst.2.1 hst.2.2.1 rfl) h)
  obtain ⟨A1, e1, A2, ha, nn, hq⟩ := (hq.1 : tr_r_X12_town A z u)
  have f33 : A1 33 = A 33 := by rw [e1]; rfl
  have f34 : A1 34 = A 34 := by rw [e1]; rfl
  have b1 : BK b A1 := by
    rw [e1]
    exact ⟨hb, (Int.le_refl 0 : (0 : Int) ≤ 0)⟩
  exact ((OC.c (⟨f33, f34⟩ : C34 A A1)).trans (OC.c (C34.fr ha.2.2.1 rfl))).trans (loop nn 0 A2 (b1.fr ha.2.1 ha.2.2.1 rfl) hq)
