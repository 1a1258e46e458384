/-! The class's other town is left alone by the reader. -/
def OT (tb : Nat) (A S : St) : Prop := ∀ j, j < 31 → S (tb + j) = A (tb + j)
theorem OT.rf {tb : Nat} {A : St} : OT tb A A := fun _ _ => rfl
theorem OT.trans {tb : Nat} {A B C : St} (h : OT tb A B) (g : OT tb B C) : OT tb A C := fun j hj => (g j hj).trans (h j hj)
theorem OT.st {tb r i : Nat} {v : Int} {A S : St} (h : OT tb A S) (hr : ¬ (tb ≤ r ∧ r < tb + 31)) : OT tb A (stA S r i v) := by
  intro j hj
  rw [stA_ne _ _ (by omega)]
  exact h j hj
theorem OT.fk {tb : Nat} {P : List Nat} {F : List (Nat × Nat)} {A u : St} (htb : isT tb) (h : fk P F A u) (hP : P.all (fun x => decide (x < 51)) = true) (hF : F.all (fun x => decide (x.1 < 51)) = true) : OT tb A u := by
  intro j hj
  funext k
  have l : 51 ≤ tb + j := by rcases htb with rfl | rfl <;> omega
  refine h (tb + j) k ?_ ?_
  · cases hc : P.contains (tb + j) with
    | false => rfl
    | true =>
      have := of_decide_eq_true (List.all_eq_true.mp hP _ (List.contains_iff_mem.mp hc))
      omega
  · cases hc : fin2 F (tb + j) k with
    | false => rfl
    | true =>
      have : tb + j < 51 := of_decide_eq_true (List.all_eq_true.mp hF _ (fin2_iff.mp hc))
      omega
def TT (ta tb : Nat) : Prop := (ta = 51 ∧ tb = 82) ∨ (ta = 82 ∧ tb = 51)
def TE (ta tb : Nat) : Prop := (ta = 70 ∧ tb = 82) ∨ (ta = 101 ∧ tb = 51)
def TS (ta tb : Nat) : Prop := (ta = 73 ∧ tb = 82) ∨ (ta = 104 ∧ tb = 51)
theorem ot_r_X5_readPair {tb : Nat} {SS : St → Int → St → Prop} {b : Nat} {ta : Nat} {A : St} {z : Int} {u : St} {A0 : St} (htb : isT tb) (ht : TE ta tb) (hSS : ∀ (A : St) (z : Int) (u : St), q_SS_sum SS A z u → OT tb A u) (gA : OT tb A0 A) (h : r_X5_readPair SS b ta A z u) : OT tb A0 u := by
  have ht := ht
  unfold TE at ht
  have h : tr_r_X5_readPair SS b ta A z u := h
  obtain ⟨z1, A2, q35, h⟩ := h
  have g36 : OT tb A0 A2 := gA.trans (OT.fk htb q35.2.2.1 rfl rfl)
  rcases h with h | h
  · obtain ⟨c37, c38, h⟩ := h
    rw [h]
    exact g36
  · obtain ⟨c39, h⟩ := h
    obtain ⟨z10, A11, q40, h⟩ := h
    have g41 : OT tb A0 A11 := g36.trans (OT.fk htb q40.2.2.1 rfl rfl)
    rcases h with h | h
    · obtain ⟨c42, c43, h⟩ := h
      rw [h]
      exact g41
    · obtain ⟨c44, h⟩ := h
      obtain ⟨z16, A17, q45, h⟩ := h
      have g46 : OT tb A0 A17 := g41.trans (hSS _ _ _ q45)
      rcases h with h | h
      · obtain ⟨c47, c48, h⟩ := h
        rw [h]
        exact g46
      · obtain ⟨c49, h⟩ := h
        obtain ⟨z22, A23, q50, h⟩ := h
        have g51 : OT tb A0 A23 := g46.trans (OT.fk htb q50.2.2.1 rfl rfl)
        rcases h with h | h
        · obtain ⟨c52, c53, h⟩ := h
          rw [h]
          exact g51
        · obtain ⟨c54, h⟩ := h
          obtain ⟨z29, A30, q55, h⟩ := h
          have g56 : OT tb A0 A30 := g51.trans (hSS _ _ _ q55)
          rcases h with h | h
          · obtain ⟨c57, c58, h⟩ := h
            rw [h]
            exact g56
          · obtain ⟨c59, h⟩ := h
            obtain ⟨z35, A36, q60, h⟩ := h
            have g61 : OT tb A0 A36 := g56.trans (OT.fk htb q60.2.2.1 rfl rfl)
            rcases h with h | h
            · obtain ⟨c62, c63, h⟩ := h
              rw [h]
              exact g61
            · obtain ⟨c64, h⟩ := h
              obtain ⟨z42, A43, q65, h⟩ := h
              have g66 : OT tb A0 A43 := g61.trans (OT.fk htb q65.2.2.1 rfl rfl)
              obtain ⟨c67, h⟩ := h
              rw [h]
              exact g66
theorem ot_r_X8_add {tb : Nat} {ta : Nat} {x1 : Int} {A : St} {z : Int} {u : St} {A0 : St} (htb : isT tb) (ht : TE ta tb) (gA : OT tb A0 A) (h : r_X8_add ta x1 A z u) : OT tb A0 u := by
  have ht := ht
  unfold TE at ht
  have h : tr_r_X8_add ta x1 A z u := h
  rcases h with h | h
  · obtain ⟨c73, h⟩ := h
    obtain ⟨A4, q74, h⟩ := h
    have g75 : OT tb A0 A4 := by rw [q74]; exact (OT.st gA (by clear h; omega))
    obtain ⟨A6, q76, h⟩ := h
    have g77 : OT tb A0 A6 := by rw [q76]; exact (OT.st g75 (by clear h; omega))
    obtain ⟨c78, h⟩ := h
    rw [h]
    exact g77
  · obtain ⟨c79, c80, h⟩ := h
    rw [h]
    exact gA
theorem ot_r_X5_readPart {tb : Nat} {SS : St → Int → St → Prop} {b : Nat} {ta : Nat} {A : St} {z : Int} {u : St} {A0 : St} (htb : isT tb) (ht : TE ta tb) (hSS : ∀ (A : St) (z : Int) (u : St), q_SS_sum SS A z u → OT tb A u) (gA : OT tb A0 A) (h : r_X5_readPart SS b ta A z u) : OT tb A0 u := by
  have ht := ht
  unfold TE at ht
  have h : tr_r_X5_readPart SS b ta A z u := h
  obtain ⟨A1, q5, h⟩ := h
  have g6 : OT tb A0 A1 := gA.trans (OT.fk htb q5.2.2.1 rfl rfl)
  rcases h with h | h
  · obtain ⟨c7, h⟩ := h
    obtain ⟨z6, A7, q8, h⟩ := h
    have g9 : OT tb A0 A7 := g6.trans (OT.fk htb q8.2.2.1 rfl rfl)
    rcases h with h | h
    · obtain ⟨c10, h⟩ := h
      obtain ⟨z11, A12, q11, h⟩ := h
      have g12 : OT tb A0 A12 := g9.trans (OT.fk htb q11.2.2.1 rfl rfl)
      rcases h with h | h
      · obtain ⟨c13, h⟩ := h
        obtain ⟨z16, A17, q14, h⟩ := h
        have g15 : OT tb A0 A17 := g12.trans (OT.fk htb q14.2.2.1 rfl rfl)
        rcases h with h | h
        · obtain ⟨c16, h⟩ := h
          obtain ⟨z21, A22, q17, h⟩ := h
          have g18 : OT tb A0 A22 := g15.trans (OT.fk htb q17.2.2.1 rfl rfl)
          rcases h with h | h
          · obtain ⟨c19, h⟩ := h
            obtain ⟨z26, A27, q20, h⟩ := h
            have g21 : OT tb A0 A27 := g18.trans (OT.fk htb q20.2.2.1 rfl rfl)
            rcases h with h | h
            · obtain ⟨c22, h⟩ := h
              obtain ⟨z31, A32, q23, h⟩ := h
              have g24 : OT tb A0 A32 := g21.trans (OT.fk htb q23.2.2.1 rfl rfl)
              rcases h with h | h
              · obtain ⟨c25, h⟩ := h
                obtain ⟨z36, A37, q26, h⟩ := h
                have g27 : OT tb A0 A37 := g24.trans (OT.fk htb q26.2.2.1 rfl rfl)
                rcases h with h | h
                · obtain ⟨c28, h⟩ := h
                  obtain ⟨z41, A42, q29, h⟩ := h
                  have g30 : OT tb A0 A42 := g27.trans (OT.fk htb q29.2.2.1 rfl rfl)
                  obtain ⟨c31, h⟩ := h
                  rw [h]
                  exact g30
                · obtain ⟨c32, h⟩ := h
                  obtain ⟨z64, A65, q33, h⟩ := h
                  have g34 : OT tb A0 A65 := ot_r_X5_readPair htb ht hSS g27 q33.1
                  rcases h with h | h
                  · obtain ⟨c68, c69, h⟩ := h
                    rw [h]
                    exact g34
                  · obtain ⟨c70, h⟩ := h
                    obtain ⟨z70, A71, q71, h⟩ := h
                    have g72 : OT tb A0 A71 := ot_r_X8_add htb ht g34 q71.1
                    rcases h with h | h
                    · obtain ⟨c81, c82, h⟩ := h
                      rw [h]
                      exact g72
                    · obtain ⟨c83, c84, h⟩ := h
                      rw [h]
                      exact g72
              · obtain ⟨c85, h⟩ := h
                obtain ⟨z85, A86, q86, h⟩ := h
                have g87 : OT tb A0 A86 := ot_r_X5_readPair htb ht hSS g24 q86.1
                rcases h with h | h
                · obtain ⟨c88, c89, h⟩ := h
                  rw [h]
                  exact g87
                · obtain ⟨c90, h⟩ := h
                  obtain ⟨z91, A92, q91, h⟩ := h
                  have g92 : OT tb A0 A92 := ot_r_X8_add htb ht g87 q91.1
                  rcases h with h | h
                  · obtain ⟨c93, c94, h⟩ := h
                    rw [h]
                    exact g92
                  · obtain ⟨c95, c96, h⟩ := h
                    rw [h]
                    exact g92
            · obtain ⟨c97, h⟩ := h
              obtain ⟨z98, A99, q98, h⟩ := h
              have g99 : OT tb A0 A99 := ot_r_X8_add htb ht g21 q98.1
              obtain ⟨c100, h⟩ := h
              rw [h]
              exact g99
          · obtain ⟨c101, h⟩ := h
            obtain ⟨z110, A111, q102, h⟩ := h
            have g103 : OT tb A0 A111 := ot_r_X8_add htb ht g18 q102.1
            obtain ⟨c104, h⟩ := h
            rw [h]
            exact g103
        · obtain ⟨c105, h⟩ := h
          obtain ⟨z121, A122, q106, h⟩ := h
          have g107 : OT tb A0 A122 := ot_r_X8_add htb ht g15 q106.1
          obtain ⟨c108, h⟩ := h
          rw [h]
          exact g107
      · obtain ⟨c109, h⟩ := h
        obtain ⟨z131, A132, q110, h⟩ := h
        have g111 : OT tb A0 A132 := ot_r_X8_add htb ht g12 q110.1
        obtain ⟨c112, h⟩ := h
        rw [h]
        exact g111
    · obtain ⟨c113, h⟩ := h
      obtain ⟨z143, A144, q114, h⟩ := h
      have g115 : OT tb A0 A144 := g9.trans (OT.fk htb q114.2.2.1 rfl rfl)
      rcases h with h | h
      · obtain ⟨c116, c117, h⟩ := h
        rw [h]
        exact g115
      · obtain ⟨c118, h⟩ := h
        obtain ⟨z149, A150, q119, h⟩ := h
        have g120 : OT tb A0 A150 := g115.trans (hSS _ _ _ q119)
        rcases h with h | h
        · obtain ⟨c121, c122, h⟩ := h
          rw [h]
          exact g120
        · obtain ⟨c123, h⟩ := h
          obtain ⟨z155, A156, q124, h⟩ := h
          have g125 : OT tb A0 A156 := g120.trans (OT.fk htb q124.2.2.1 rfl rfl)
          rcases h with h | h
          · obtain ⟨c126, c127, h⟩ := h
            rw [h]
            exact g125
          · obtain ⟨c128, h⟩ := h
            obtain ⟨z162, A163, q129, h⟩ := h
            have g130 : OT tb A0 A163 := g125.trans (OT.fk htb q129.2.2.1 rfl rfl)
            obtain ⟨c131, h⟩ := h
            rw [h]
            exact g130
  · obtain ⟨c132, h⟩ := h
    obtain ⟨A168, q133, h⟩ := h
    have g134 : OT tb A0 A168 := g6.trans (OT.fk htb q133.2.2.1 rfl rfl)
    obtain ⟨z173, A174, q135, h⟩ := h
    have g136 : OT tb A0 A174 := ot_r_X8_add htb ht g134 q135.1
    obtain ⟨c137, h⟩ := h
    rw [h]
    exact g136
theorem ot_d_X5_readProduct_2 {tb : Nat} {K1 : Int → St → Prop} {SS : St → Int → St → Prop} {b : Nat} {ta : Nat} {z8 : Int} {z : Int} {u : St} {z38 : Int} {A40 : St} {A0 : St} (htb : isT tb) (ht : TE ta tb) (hSS : ∀ (A : St) (z : Int) (u : St), q_SS_sum SS A z u → OT tb A u) (hK : ∀ (k0 : Int) (k1 : St), OT tb A0 k1 → K1 k0 k1 → OT tb A0 u) (gA40 : OT tb A0 A40) (h : d_X5_readProduct_2 K1 SS b ta z8 z u z38 A40) : OT tb A0 u := by
  have ht := ht
  unfold TE at ht
  have h : tr_d_X5_readProduct_2 K1 SS b ta z8 z u z38 A40 := h
  obtain ⟨c153, c154, h⟩ := h
  obtain ⟨z45, A46, q155, h⟩ := h
  have g156 : OT tb A0 A46 := ot_r_X5_readPart htb ht hSS gA40 q155.1
  rcases h with h | h
  · obtain ⟨c157, c158, h⟩ := h
    rw [h]
    exact g156
  · obtain ⟨c159, h⟩ := h
    obtain ⟨z51, A52, q160, h⟩ := h
    have g161 : OT tb A0 A52 := ot_r_X8_add htb ht g156 q160.1
    rcases h with h | h
    · obtain ⟨c162, h⟩ := h
      exact hK _ _ g161 h
    · obtain ⟨c163, c164, h⟩ := h
      rw [h]
      exact g161
theorem ot_d_X5_readProduct_1 {tb : Nat} {SS : St → Int → St → Prop} {b : Nat} {ta : Nat} {z : Int} {u : St} {A0 : St} (htb : isT tb) (ht : TE ta tb) (hSS : ∀ (A : St) (z : Int) (u : St), q_SS_sum SS A z u → OT tb A u)  : ∀ (nn : Nat) (z8 : Int) (A10 : St), OT tb A0 A10 → d_X5_readProduct_1 SS b ta z u nn z8 A10 → OT tb A0 u := by
  have ht := ht
  unfold TE at ht
  intro nn
  induction nn with
  | zero => intro _ _ _ h; exact h.elim
  | succ nn hK =>
    intro z8 A10 gA10 h
    have h : tr_d_X5_readProduct_1 SS b ta z u (fun z8 A10 => d_X5_readProduct_1 SS b ta z u nn z8 A10) z8 A10 := h
    obtain ⟨c139, c140, h⟩ := h
    rcases h with h | h
    · obtain ⟨c141, c142, h⟩ := h
      rw [h]
      exact gA10
    · obtain ⟨c143, h⟩ := h
      obtain ⟨z19, A20, q144, h⟩ := h
      have g145 : OT tb A0 A20 := gA10.trans (OT.fk htb q144.2.2.1 rfl rfl)
      rcases h with h | h
      · obtain ⟨c146, h⟩ := h
        obtain ⟨z25, A26, q147, h⟩ := h
        have g148 : OT tb A0 A26 := g145.trans (OT.fk htb q147.2.2.1 rfl rfl)
        rcases h with h | h
        · obtain ⟨c149, h⟩ := h
          obtain ⟨z30, A31, q150, h⟩ := h
          have g151 : OT tb A0 A31 := g148.trans (OT.fk htb q150.2.2.1 rfl rfl)
          rcases h with h | h
          · obtain ⟨c152, h⟩ := h
            exact ot_d_X5_readProduct_2 htb ht hSS hK g151 h
          · obtain ⟨c165, c166, h⟩ := h
            rw [h]
            exact g151
        · obtain ⟨c167, h⟩ := h
          exact ot_d_X5_readProduct_2 htb ht hSS hK g148 h
      · obtain ⟨c168, h⟩ := h
        exact ot_d_X5_readProduct_2 htb ht hSS hK g145 h
theorem ot_r_X5_readProduct {tb : Nat} {SS : St → Int → St → Prop} {b : Nat} {ta : Nat} {A : St} {z : Int} {u : St} {A0 : St} (htb : isT tb) (ht : TE ta tb) (hSS : ∀ (A : St) (z : Int) (u : St), q_SS_sum SS A z u → OT tb A u) (gA : OT tb A0 A) (h : r_X5_readProduct SS b ta A z u) : OT tb A0 u := by
  have ht := ht
  unfold TE at ht
  have h : tr_r_X5_readProduct SS b ta A z u := h
  obtain ⟨z2, A3, q3, h⟩ := h
  have g4 : OT tb A0 A3 := ot_r_X5_readPart htb ht hSS gA q3.1
  rcases h with h | h
  · obtain ⟨c138, h⟩ := h
    obtain ⟨nn9, h⟩ := h
    exact ot_d_X5_readProduct_1 htb ht hSS  _ _ _ g4 h
  · obtain ⟨c169, c170, h⟩ := h
    rw [h]
    exact g4
theorem ot_d_X5_readSum_2 {tb : Nat} {K1 : Int → St → Prop} {SS : St → Int → St → Prop} {b : Nat} {ta : Nat} {z8 : Int} {z : Int} {u : St} {z32 : Int} {A34 : St} {A0 : St} (htb : isT tb) (ht : TE ta tb) (hSS : ∀ (A : St) (z : Int) (u : St), q_SS_sum SS A z u → OT tb A u) (hK : ∀ (k0 : Int) (k1 : St), OT tb A0 k1 → K1 k0 k1 → OT tb A0 u) (gA34 : OT tb A0 A34) (h : d_X5_readSum_2 K1 SS b ta z8 z u z32 A34) : OT tb A0 u := by
  have ht := ht
  unfold TE at ht
  have h : tr_d_X5_readSum_2 K1 SS b ta z8 z u z32 A34 := h
  obtain ⟨c183, c184, h⟩ := h
  obtain ⟨z39, A40, q185, h⟩ := h
  have g186 : OT tb A0 A40 := ot_r_X5_readProduct htb ht hSS gA34 q185.1
  rcases h with h | h
  · obtain ⟨c187, c188, h⟩ := h
    rw [h]
    exact g186
  · obtain ⟨c189, h⟩ := h
    obtain ⟨z45, A46, q190, h⟩ := h
    have g191 : OT tb A0 A46 := ot_r_X8_add htb ht g186 q190.1
    rcases h with h | h
    · obtain ⟨c192, h⟩ := h
      exact hK _ _ g191 h
    · obtain ⟨c193, c194, h⟩ := h
      rw [h]
      exact g191
theorem ot_d_X5_readSum_1 {tb : Nat} {SS : St → Int → St → Prop} {b : Nat} {ta : Nat} {z : Int} {u : St} {A0 : St} (htb : isT tb) (ht : TE ta tb) (hSS : ∀ (A : St) (z : Int) (u : St), q_SS_sum SS A z u → OT tb A u)  : ∀ (nn : Nat) (z8 : Int) (A10 : St), OT tb A0 A10 → d_X5_readSum_1 SS b ta z u nn z8 A10 → OT tb A0 u := by
  have ht := ht
  unfold TE at ht
  intro nn
  induction nn with
  | zero => intro _ _ _ h; exact h.elim
  | succ nn hK =>
    intro z8 A10 gA10 h
    have h : tr_d_X5_readSum_1 SS b ta z u (fun z8 A10 => d_X5_readSum_1 SS b ta z u nn z8 A10) z8 A10 := h
    obtain ⟨c172, c173, h⟩ := h
    rcases h with h | h
    · obtain ⟨c174, c175, h⟩ := h
      rw [h]
      exact gA10
    · obtain ⟨c176, h⟩ := h
      obtain ⟨z19, A20, q177, h⟩ := h
      have g178 : OT tb A0 A20 := gA10.trans (OT.fk htb q177.2.2.1 rfl rfl)
      rcases h with h | h
      · obtain ⟨c179, h⟩ := h
        obtain ⟨z25, A26, q180, h⟩ := h
        have g181 : OT tb A0 A26 := g178.trans (OT.fk htb q180.2.2.1 rfl rfl)
        rcases h with h | h
        · obtain ⟨c182, h⟩ := h
          exact ot_d_X5_readSum_2 htb ht hSS hK g181 h
        · obtain ⟨c195, c196, h⟩ := h
          rw [h]
          exact g181
      · obtain ⟨c197, h⟩ := h
        exact ot_d_X5_readSum_2 htb ht hSS hK g178 h
theorem ot_r_X5_readSum {tb : Nat} {SS : St → Int → St → Prop} {b : Nat} {ta : Nat} {A : St} {z : Int} {u : St} {A0 : St} (htb : isT tb) (ht : TE ta tb) (hSS : ∀ (A : St) (z : Int) (u : St), q_SS_sum SS A z u → OT tb A u) (gA : OT tb A0 A) (h : r_X5_readSum SS b ta A z u) : OT tb A0 u := by
  have ht := ht
  unfold TE at ht
  have h : tr_r_X5_readSum SS b ta A z u := h
  obtain ⟨z2, A3, q1, h⟩ := h
  have g2 : OT tb A0 A3 := ot_r_X5_readProduct htb ht hSS gA q1.1
  rcases h with h | h
  · obtain ⟨c171, h⟩ := h
    obtain ⟨nn9, h⟩ := h
    exact ot_d_X5_readSum_1 htb ht hSS  _ _ _ g2 h
  · obtain ⟨c198, c199, h⟩ := h
    rw [h]
    exact g2
theorem ot_rq_sum {tb ta : Nat} (htb : isT tb) (ht : TE ta tb) : ∀ (n : Nat) (A : St) (z : Int) (u : St), q_SS_sum (rq_sum ta n) A z u → OT tb A u
  | 0, A, z, u, hq => ot_r_X5_readSum htb ht (fun _ _ _ h => h.1.elim) OT.rf hq.1
  | n + 1, A, z, u, hq => ot_r_X5_readSum htb ht (fun A z u h => ot_rq_sum htb ht n A z u h) OT.rf hq.1
theorem ot_d_X5_readFact_9 {tb : Nat} {ta : Nat} {z2 : Int} {z : Int} {u : St} {z131 : Int} {A133 : St} {A0 : St} (htb : isT tb) (ht : TE ta tb) (gA133 : OT tb A0 A133) (h : d_X5_readFact_9 ta z2 z u z131 A133) : OT tb A0 u := by
  have ht := ht
  unfold TE at ht
  have h : tr_d_X5_readFact_9 ta z2 z u z131 A133 := h
  obtain ⟨c224, c225, h⟩ := h
  rcases h with h | h
  · obtain ⟨c226, c227, h⟩ := h
    rw [h]
    exact gA133
  · obtain ⟨c228, h⟩ := h
    rcases h with h | h
    · obtain ⟨c229, c230, h⟩ := h
      rw [h]
      exact gA133
    · obtain ⟨c231, h⟩ := h
      obtain ⟨z141, A142, q232, h⟩ := h
      have g233 : OT tb A0 A142 := ot_r_X8_add htb ht gA133 q232.1
      rcases h with h | h
      · obtain ⟨c234, c235, h⟩ := h
        rw [h]
        exact g233
      · obtain ⟨c236, c237, h⟩ := h
        rw [h]
        exact g233
theorem ot_d_X5_readFact_6 {tb : Nat} {ta : Nat} {z2 : Int} {z : Int} {u : St} {z77 : Int} {A79 : St} {A0 : St} (htb : isT tb) (ht : TE ta tb) (gA79 : OT tb A0 A79) (h : d_X5_readFact_6 ta z2 z u z77 A79) : OT tb A0 u := by
  have ht := ht
  unfold TE at ht
  have h : tr_d_X5_readFact_6 ta z2 z u z77 A79 := h
  obtain ⟨c222, c223, h⟩ := h
  exact ot_d_X5_readFact_9 htb ht  gA79 h
theorem ot_d_X5_readFact_5 {tb : Nat} {ta : Nat} {z2 : Int} {z : Int} {u : St} {A75 : St} {A0 : St} (htb : isT tb) (ht : TE ta tb) (gA75 : OT tb A0 A75) (h : d_X5_readFact_5 ta z2 z u A75) : OT tb A0 u := by
  have ht := ht
  unfold TE at ht
  have h : tr_d_X5_readFact_5 ta z2 z u A75 := h
  obtain ⟨c221, h⟩ := h
  exact ot_d_X5_readFact_6 htb ht  gA75 h
theorem ot_d_X5_readFact_4 {tb : Nat} {b : Nat} {ta : Nat} {z2 : Int} {z : Int} {u : St} {z53 : Int} {A55 : St} {A0 : St} (htb : isT tb) (ht : TE ta tb) (gA55 : OT tb A0 A55) (h : d_X5_readFact_4 b ta z2 z u z53 A55) : OT tb A0 u := by
  have ht := ht
  unfold TE at ht
  have h : tr_d_X5_readFact_4 b ta z2 z u z53 A55 := h
  obtain ⟨c218, c219, h⟩ := h
  rcases h with h | h
  · obtain ⟨c220, h⟩ := h
    exact ot_d_X5_readFact_5 htb ht  gA55 h
  · obtain ⟨c238, h⟩ := h
    obtain ⟨z63, A64, q239, h⟩ := h
    have g240 : OT tb A0 A64 := gA55.trans (ot_rq_sum htb ht _ _ _ _ q239)
    rcases h with h | h
    · obtain ⟨c241, h⟩ := h
      exact ot_d_X5_readFact_5 htb ht  g240 h
    · obtain ⟨c242, h⟩ := h
      obtain ⟨z69, A70, q243, h⟩ := h
      have g244 : OT tb A0 A70 := ot_r_X8_add htb ht g240 q243.1
      rcases h with h | h
      · obtain ⟨c245, h⟩ := h
        exact ot_d_X5_readFact_5 htb ht  g244 h
      · obtain ⟨c246, h⟩ := h
        exact ot_d_X5_readFact_6 htb ht  g244 h
theorem ot_d_X5_readFact_8 {tb : Nat} {ta : Nat} {z2 : Int} {z : Int} {u : St} {z120 : Int} {A122 : St} {A0 : St} (htb : isT tb) (ht : TE ta tb) (gA122 : OT tb A0 A122) (h : d_X5_readFact_8 ta z2 z u z120 A122) : OT tb A0 u := by
  have ht := ht
  unfold TE at ht
  have h : tr_d_X5_readFact_8 ta z2 z u z120 A122 := h
  obtain ⟨c255, c256, h⟩ := h
  exact ot_d_X5_readFact_9 htb ht  gA122 h
theorem ot_d_X5_readFact_7 {tb : Nat} {ta : Nat} {z2 : Int} {z : Int} {u : St} {A118 : St} {A0 : St} (htb : isT tb) (ht : TE ta tb) (gA118 : OT tb A0 A118) (h : d_X5_readFact_7 ta z2 z u A118) : OT tb A0 u := by
  have ht := ht
  unfold TE at ht
  have h : tr_d_X5_readFact_7 ta z2 z u A118 := h
  obtain ⟨c254, h⟩ := h
  exact ot_d_X5_readFact_8 htb ht  gA118 h
theorem ot_d_X5_readFact_3 {tb : Nat} {SS : St → Int → St → Prop} {b : Nat} {ta : Nat} {z2 : Int} {z : Int} {u : St} {A24 : St} {A0 : St} (htb : isT tb) (ht : TE ta tb) (hSS : ∀ (A : St) (z : Int) (u : St), q_SS_test SS A z u → OT tb A u) (gA24 : OT tb A0 A24) (h : d_X5_readFact_3 SS b ta z2 z u A24) : OT tb A0 u := by
  have ht := ht
  unfold TE at ht
  have h : tr_d_X5_readFact_3 SS b ta z2 z u A24 := h
  obtain ⟨c208, h⟩ := h
  obtain ⟨z26, A27, q209, h⟩ := h
  have g210 : OT tb A0 A27 := gA24.trans (OT.fk htb q209.2.2.1 rfl rfl)
  rcases h with h | h
  · obtain ⟨c211, h⟩ := h
    obtain ⟨z32, A33, q212, h⟩ := h
    have g213 : OT tb A0 A33 := g210.trans (OT.fk htb q212.2.2.1 rfl rfl)
    rcases h with h | h
    · obtain ⟨c214, h⟩ := h
      obtain ⟨z42, A43, q215, h⟩ := h
      have g216 : OT tb A0 A43 := g213.trans (ot_rq_sum htb ht _ _ _ _ q215)
      rcases h with h | h
      · obtain ⟨c217, h⟩ := h
        exact ot_d_X5_readFact_4 htb ht  g216 h
      · obtain ⟨c247, h⟩ := h
        obtain ⟨z49, A50, q248, h⟩ := h
        have g249 : OT tb A0 A50 := g216.trans (OT.fk htb q248.2.2.1 rfl rfl)
        exact ot_d_X5_readFact_4 htb ht  g249 h
    · obtain ⟨c250, h⟩ := h
      obtain ⟨z91, A92, q251, h⟩ := h
      have g252 : OT tb A0 A92 := g213.trans (OT.fk htb q251.2.2.1 rfl rfl)
      rcases h with h | h
      · obtain ⟨c253, h⟩ := h
        exact ot_d_X5_readFact_7 htb ht  g252 h
      · obtain ⟨c257, h⟩ := h
        obtain ⟨z99, A100, q258, h⟩ := h
        have g259 : OT tb A0 A100 := g252.trans (hSS _ _ _ q258)
        rcases h with h | h
        · obtain ⟨c260, h⟩ := h
          exact ot_d_X5_readFact_7 htb ht  g259 h
        · obtain ⟨c261, h⟩ := h
          obtain ⟨z105, A106, q262, h⟩ := h
          have g263 : OT tb A0 A106 := g259.trans (OT.fk htb q262.2.2.1 rfl rfl)
          rcases h with h | h
          · obtain ⟨c264, h⟩ := h
            exact ot_d_X5_readFact_7 htb ht  g263 h
          · obtain ⟨c265, h⟩ := h
            obtain ⟨z111, A112, q266, h⟩ := h
            have g267 : OT tb A0 A112 := g263.trans (OT.fk htb q266.2.2.1 rfl rfl)
            exact ot_d_X5_readFact_8 htb ht  g267 h
  · obtain ⟨c268, h⟩ := h
    obtain ⟨z127, A128, q269, h⟩ := h
    have g270 : OT tb A0 A128 := ot_r_X8_add htb ht g210 q269.1
    exact ot_d_X5_readFact_9 htb ht  g270 h
theorem ot_d_X5_readFact_2 {tb : Nat} {K1 : Int → Int → St → Prop} {z1 : Int} {A14 : St} {z : Int} {u : St} {z20 : Int} {A0 : St} (htb : isT tb) (hK : ∀ (k0 : Int) (k1 : Int) (k2 : St), OT tb A0 k2 → K1 k0 k1 k2 → OT tb A0 u) (gA14 : OT tb A0 A14) (h : d_X5_readFact_2 K1 z1 A14 z u z20) : OT tb A0 u := by
  have h : tr_d_X5_readFact_2 K1 z1 A14 z u z20 := h
  obtain ⟨c277, h⟩ := h
  exact hK _ _ _ gA14 h
theorem ot_d_X5_readFact_1 {tb : Nat} {SS : St → Int → St → Prop} {b : Nat} {ta : Nat} {z : Int} {u : St} {A0 : St} (htb : isT tb) (ht : TE ta tb) (hSS : ∀ (A : St) (z : Int) (u : St), q_SS_test SS A z u → OT tb A u)  : ∀ (nn : Nat) (z1 : Int) (z2 : Int) (A4 : St), OT tb A0 A4 → d_X5_readFact_1 SS b ta z u nn z1 z2 A4 → OT tb A0 u := by
  have ht := ht
  unfold TE at ht
  intro nn
  induction nn with
  | zero => intro _ _ _ _ h; exact h.elim
  | succ nn hK =>
    intro z1 z2 A4 gA4 h
    have h : tr_d_X5_readFact_1 SS b ta z u (fun z1 z2 A4 => d_X5_readFact_1 SS b ta z u nn z1 z2 A4) z1 z2 A4 := h
    obtain ⟨c204, c205, c206, h⟩ := h
    rcases h with h | h
    · obtain ⟨c207, h⟩ := h
      exact ot_d_X5_readFact_3 htb ht hSS  gA4 h
    · obtain ⟨c271, h⟩ := h
      obtain ⟨z13, A14, q272, h⟩ := h
      have g273 : OT tb A0 A14 := gA4.trans (OT.fk htb q272.2.2.1 rfl rfl)
      rcases h with h | h
      · obtain ⟨c274, h⟩ := h
        exact ot_d_X5_readFact_3 htb ht hSS  g273 h
      · obtain ⟨c275, h⟩ := h
        rcases h with h | h
        · obtain ⟨c276, h⟩ := h
          exact ot_d_X5_readFact_2 htb hK g273 h
        · obtain ⟨c278, h⟩ := h
          exact ot_d_X5_readFact_2 htb hK g273 h
theorem ot_r_X5_readFact {tb : Nat} {SS : St → Int → St → Prop} {b : Nat} {ta : Nat} {A : St} {z : Int} {u : St} {A0 : St} (htb : isT tb) (ht : TE ta tb) (hSS : ∀ (A : St) (z : Int) (u : St), q_SS_test SS A z u → OT tb A u) (gA : OT tb A0 A) (h : r_X5_readFact SS b ta A z u) : OT tb A0 u := by
  have ht := ht
  unfold TE at ht
  have h : tr_r_X5_readFact SS b ta A z u := h
  obtain ⟨nn9, h⟩ := h
  exact ot_d_X5_readFact_1 htb ht hSS  _ _ _ _ gA h
theorem ot_d_X5_readBoth_1 {tb : Nat} {SS : St → Int → St → Prop} {b : Nat} {ta : Nat} {z : Int} {u : St} {A0 : St} (htb : isT tb) (ht : TE ta tb) (hSS : ∀ (A : St) (z : Int) (u : St), q_SS_test SS A z u → OT tb A u)  : ∀ (nn : Nat) (z8 : Int) (A10 : St), OT tb A0 A10 → d_X5_readBoth_1 SS b ta z u nn z8 A10 → OT tb A0 u := by
  have ht := ht
  unfold TE at ht
  intro nn
  induction nn with
  | zero => intro _ _ _ h; exact h.elim
  | succ nn hK =>
    intro z8 A10 gA10 h
    have h : tr_d_X5_readBoth_1 SS b ta z u (fun z8 A10 => d_X5_readBoth_1 SS b ta z u nn z8 A10) z8 A10 := h
    obtain ⟨c280, c281, h⟩ := h
    rcases h with h | h
    · obtain ⟨c282, c283, h⟩ := h
      rw [h]
      exact gA10
    · obtain ⟨c284, h⟩ := h
      obtain ⟨z19, A20, q285, h⟩ := h
      have g286 : OT tb A0 A20 := gA10.trans (OT.fk htb q285.2.2.1 rfl rfl)
      rcases h with h | h
      · obtain ⟨c287, c288, h⟩ := h
        rw [h]
        exact g286
      · obtain ⟨c289, h⟩ := h
        obtain ⟨z26, A27, q290, h⟩ := h
        have g291 : OT tb A0 A27 := ot_r_X5_readFact htb ht hSS g286 q290.1
        rcases h with h | h
        · obtain ⟨c292, c293, h⟩ := h
          rw [h]
          exact g291
        · obtain ⟨c294, h⟩ := h
          obtain ⟨z32, A33, q295, h⟩ := h
          have g296 : OT tb A0 A33 := ot_r_X8_add htb ht g291 q295.1
          rcases h with h | h
          · obtain ⟨c297, h⟩ := h
            exact hK _ _ g296 h
          · obtain ⟨c298, c299, h⟩ := h
            rw [h]
            exact g296
theorem ot_r_X5_readBoth {tb : Nat} {SS : St → Int → St → Prop} {b : Nat} {ta : Nat} {A : St} {z : Int} {u : St} {A0 : St} (htb : isT tb) (ht : TE ta tb) (hSS : ∀ (A : St) (z : Int) (u : St), q_SS_test SS A z u → OT tb A u) (gA : OT tb A0 A) (h : r_X5_readBoth SS b ta A z u) : OT tb A0 u := by
  have ht := ht
  unfold TE at ht
  have h : tr_r_X5_readBoth SS b ta A z u := h
  obtain ⟨z2, A3, q202, h⟩ := h
  have g203 : OT tb A0 A3 := ot_r_X5_readFact htb ht hSS gA q202.1
  rcases h with h | h
  · obtain ⟨c279, h⟩ := h
    obtain ⟨nn9, h⟩ := h
    exact ot_d_X5_readBoth_1 htb ht hSS  _ _ _ g203 h
  · obtain ⟨c300, c301, h⟩ := h
    rw [h]
    exact g203
theorem ot_d_X5_readTest_1 {tb : Nat} {SS : St → Int → St → Prop} {b : Nat} {ta : Nat} {z : Int} {u : St} {A0 : St} (htb : isT tb) (ht : TE ta tb) (hSS : ∀ (A : St) (z : Int) (u : St), q_SS_test SS A z u → OT tb A u)  : ∀ (nn : Nat) (z8 : Int) (A10 : St), OT tb A0 A10 → d_X5_readTest_1 SS b ta z u nn z8 A10 → OT tb A0 u := by
  have ht := ht
  unfold TE at ht
  intro nn
  induction nn with
  | zero => intro _ _ _ h; exact h.elim
  | succ nn hK =>
    intro z8 A10 gA10 h
    have h : tr_d_X5_readTest_1 SS b ta z u (fun z8 A10 => d_X5_readTest_1 SS b ta z u nn z8 A10) z8 A10 := h
    obtain ⟨c303, c304, h⟩ := h
    rcases h with h | h
    · obtain ⟨c305, c306, h⟩ := h
      rw [h]
      exact gA10
    · obtain ⟨c307, h⟩ := h
      obtain ⟨z19, A20, q308, h⟩ := h
      have g309 : OT tb A0 A20 := gA10.trans (OT.fk htb q308.2.2.1 rfl rfl)
      rcases h with h | h
      · obtain ⟨c310, c311, h⟩ := h
        rw [h]
        exact g309
      · obtain ⟨c312, h⟩ := h
        obtain ⟨z26, A27, q313, h⟩ := h
        have g314 : OT tb A0 A27 := ot_r_X5_readBoth htb ht hSS g309 q313.1
        rcases h with h | h
        · obtain ⟨c315, c316, h⟩ := h
          rw [h]
          exact g314
        · obtain ⟨c317, h⟩ := h
          obtain ⟨z32, A33, q318, h⟩ := h
          have g319 : OT tb A0 A33 := ot_r_X8_add htb ht g314 q318.1
          rcases h with h | h
          · obtain ⟨c320, h⟩ := h
            exact hK _ _ g319 h
          · obtain ⟨c321, c322, h⟩ := h
            rw [h]
            exact g319
theorem ot_r_X5_readTest {tb : Nat} {SS : St → Int → St → Prop} {b : Nat} {ta : Nat} {A : St} {z : Int} {u : St} {A0 : St} (htb : isT tb) (ht : TE ta tb) (hSS : ∀ (A : St) (z : Int) (u : St), q_SS_test SS A z u → OT tb A u) (gA : OT tb A0 A) (h : r_X5_readTest SS b ta A z u) : OT tb A0 u := by
  have ht := ht
  unfold TE at ht
  have h : tr_r_X5_readTest SS b ta A z u := h
  obtain ⟨z2, A3, q200, h⟩ := h
  have g201 : OT tb A0 A3 := ot_r_X5_readBoth htb ht hSS gA q200.1
  rcases h with h | h
  · obtain ⟨c302, h⟩ := h
    obtain ⟨nn9, h⟩ := h
    exact ot_d_X5_readTest_1 htb ht hSS  _ _ _ g201 h
  · obtain ⟨c323, c324, h⟩ := h
    rw [h]
    exact g201
theorem ot_rq_test {tb ta : Nat} (htb : isT tb) (ht : TE ta tb) : ∀ (n : Nat) (A : St) (z : Int) (u : St), q_SS_test (rq_test ta n) A z u → OT tb A u
  | 0, A, z, u, hq => ot_r_X5_readTest htb ht (fun _ _ _ h => h.1.elim) OT.rf hq.1
  | n + 1, A, z, u, hq => ot_r_X5_readTest htb ht (fun A z u h => ot_rq_test htb ht n A z u h) OT.rf hq.1
theorem ot_d_X9_clear_3 {tb : Nat} {ta : Nat} {u : St} {A0 : St} (htb : isT tb) (ht : TT ta tb)  : ∀ (nn : Nat) (z19 : Int) (A21 : St), OT tb A0 A21 → d_X9_clear_3 ta u nn z19 A21 → OT tb A0 u := by
  have ht := ht
  unfold TT at ht
  intro nn
  induction nn with
  | zero => intro _ _ _ h; exact h.elim
  | succ nn hK =>
    intro z19 A21 gA21 h
    have h : tr_d_X9_clear_3 ta u (fun z19 A21 => d_X9_clear_3 ta u nn z19 A21) z19 A21 := h
    obtain ⟨c333, c334, h⟩ := h
    rcases h with h | h
    · obtain ⟨c335, h⟩ := h
      obtain ⟨A28, q336, h⟩ := h
      have g337 : OT tb A0 A28 := by rw [q336]; exact (OT.st gA21 (by clear h; omega))
      obtain ⟨A29, q338, h⟩ := h
      have g339 : OT tb A0 A29 := by rw [q338]; exact (OT.st g337 (by clear h; omega))
      rw [h]
      exact g339
    · obtain ⟨c340, h⟩ := h
      obtain ⟨A30, q341, h⟩ := h
      have g342 : OT tb A0 A30 := by rw [q341]; exact (OT.st gA21 (by clear h; omega))
      exact hK _ _ g342 h
theorem ot_d_X9_clear_2 {tb : Nat} {ta : Nat} {u : St} {A0 : St} (htb : isT tb) (ht : TT ta tb)  : ∀ (nn : Nat) (z10 : Int) (A12 : St), OT tb A0 A12 → d_X9_clear_2 ta u nn z10 A12 → OT tb A0 u := by
  have ht := ht
  unfold TT at ht
  intro nn
  induction nn with
  | zero => intro _ _ _ h; exact h.elim
  | succ nn hK =>
    intro z10 A12 gA12 h
    have h : tr_d_X9_clear_2 ta u (fun z10 A12 => d_X9_clear_2 ta u nn z10 A12) z10 A12 := h
    obtain ⟨c330, c331, h⟩ := h
    rcases h with h | h
    · obtain ⟨c332, h⟩ := h
      obtain ⟨nn9, h⟩ := h
      exact ot_d_X9_clear_3 htb ht  _ _ _ gA12 h
    · obtain ⟨c343, h⟩ := h
      obtain ⟨A31, q344, h⟩ := h
      have g345 : OT tb A0 A31 := by rw [q344]; exact (OT.st gA12 (by clear h; omega))
      exact hK _ _ g345 h
theorem ot_d_X9_clear_1 {tb : Nat} {ta : Nat} {u : St} {A0 : St} (htb : isT tb) (ht : TT ta tb)  : ∀ (nn : Nat) (z1 : Int) (A3 : St), OT tb A0 A3 → d_X9_clear_1 ta u nn z1 A3 → OT tb A0 u := by
  have ht := ht
  unfold TT at ht
  intro nn
  induction nn with
  | zero => intro _ _ _ h; exact h.elim
  | succ nn hK =>
    intro z1 A3 gA3 h
    have h : tr_d_X9_clear_1 ta u (fun z1 A3 => d_X9_clear_1 ta u nn z1 A3) z1 A3 := h
    obtain ⟨c327, c328, h⟩ := h
    rcases h with h | h
    · obtain ⟨c329, h⟩ := h
      obtain ⟨nn9, h⟩ := h
      exact ot_d_X9_clear_2 htb ht  _ _ _ gA3 h
    · obtain ⟨c346, h⟩ := h
      obtain ⟨A32, q347, h⟩ := h
      have g348 : OT tb A0 A32 := by rw [q347]; exact (OT.st gA3 (by clear h; omega))
      exact hK _ _ g348 h
theorem ot_r_X9_clear {tb : Nat} {ta : Nat} {A : St} {u : St} {A0 : St} (htb : isT tb) (ht : TT ta tb) (gA : OT tb A0 A) (h : r_X9_clear ta A u) : OT tb A0 u := by
  have ht := ht
  unfold TT at ht
  have h : tr_r_X9_clear ta A u := h
  obtain ⟨nn9, h⟩ := h
  exact ot_d_X9_clear_1 htb ht  _ _ _ gA h
theorem ot_d_X5_readTown_2 {tb : Nat} {K1 : Int → St → Prop} {z9 : Int} {z : Int} {u : St} {z84 : Int} {A86 : St} {A0 : St} (htb : isT tb) (hK : ∀ (k0 : Int) (k1 : St), OT tb A0 k1 → K1 k0 k1 → OT tb A0 u) (gA86 : OT tb A0 A86) (h : d_X5_readTown_2 K1 z9 z u z84 A86) : OT tb A0 u := by
  have h : tr_d_X5_readTown_2 K1 z9 z u z84 A86 := h
  obtain ⟨c366, c367, h⟩ := h
  rcases h with h | h
  · obtain ⟨c368, c369, h⟩ := h
    rw [h]
    exact gA86
  · obtain ⟨c370, h⟩ := h
    obtain ⟨z90, A91, q371, h⟩ := h
    have g372 : OT tb A0 A91 := gA86.trans (OT.fk htb q371.2.2.1 rfl rfl)
    rcases h with h | h
    · obtain ⟨c373, h⟩ := h
      exact hK _ _ g372 h
    · obtain ⟨c374, c375, h⟩ := h
      rw [h]
      exact g372
theorem ot_r_X9_add_1_0 {tb : Nat} {ta : Nat} {x2 : Int} {A : St} {z : Int} {u : St} {A0 : St} (htb : isT tb) (ht : TT ta tb) (gA : OT tb A0 A) (h : r_X9_add_1_0 ta x2 A z u) : OT tb A0 u := by
  have ht := ht
  unfold TT at ht
  have h : tr_r_X9_add_1_0 ta x2 A z u := h
  rcases h with h | h
  · obtain ⟨c381, c382, h⟩ := h
    rw [h]
    exact gA
  · obtain ⟨c383, h⟩ := h
    obtain ⟨z4, q384, h⟩ := h
    rcases h with h | h
    · obtain ⟨c385, h⟩ := h
      obtain ⟨A8, q386, h⟩ := h
      have g387 : OT tb A0 A8 := by rw [q386]; exact (OT.st gA (by clear h; omega))
      obtain ⟨A11, q388, h⟩ := h
      have g389 : OT tb A0 A11 := by rw [q388]; exact (OT.st g387 (by clear h; omega))
      obtain ⟨c390, h⟩ := h
      rw [h]
      exact g389
    · obtain ⟨c391, c392, h⟩ := h
      rw [h]
      exact gA
theorem ot_r_X9_add_1_1 {tb : Nat} {ta : Nat} {x2 : Int} {A : St} {z : Int} {u : St} {A0 : St} (htb : isT tb) (ht : TT ta tb) (gA : OT tb A0 A) (h : r_X9_add_1_1 ta x2 A z u) : OT tb A0 u := by
  have ht := ht
  unfold TT at ht
  have h : tr_r_X9_add_1_1 ta x2 A z u := h
  rcases h with h | h
  · obtain ⟨c419, c420, h⟩ := h
    rw [h]
    exact gA
  · obtain ⟨c421, h⟩ := h
    obtain ⟨z4, q422, h⟩ := h
    rcases h with h | h
    · obtain ⟨c423, h⟩ := h
      obtain ⟨A8, q424, h⟩ := h
      have g425 : OT tb A0 A8 := by rw [q424]; exact (OT.st gA (by clear h; omega))
      obtain ⟨A11, q426, h⟩ := h
      have g427 : OT tb A0 A11 := by rw [q426]; exact (OT.st g425 (by clear h; omega))
      obtain ⟨c428, h⟩ := h
      rw [h]
      exact g427
    · obtain ⟨c429, c430, h⟩ := h
      rw [h]
      exact gA
theorem ot_r_X9_addDoor {tb : Nat} {ta : Nat} {x1 : Int} {x2 : Int} {x3 : Int} {x4 : Int} {A : St} {z : Int} {u : St} {A0 : St} (htb : isT tb) (ht : TT ta tb) (gA : OT tb A0 A) (h : r_X9_addDoor ta x1 x2 x3 x4 A z u) : OT tb A0 u := by
  have ht := ht
  unfold TT at ht
  have h : tr_r_X9_addDoor ta x1 x2 x3 x4 A z u := h
  obtain ⟨z1, A2, q417, h⟩ := h
  have g418 : OT tb A0 A2 := ot_r_X9_add_1_1 htb ht gA q417.1
  rcases h with h | h
  · obtain ⟨c431, h⟩ := h
    obtain ⟨z6, q432, h⟩ := h
    obtain ⟨A7, q433, h⟩ := h
    have g434 : OT tb A0 A7 := by rw [q433]; exact (OT.st g418 (by clear h; omega))
    obtain ⟨A8, q435, h⟩ := h
    have g436 : OT tb A0 A8 := by rw [q435]; exact (OT.st g434 (by clear h; omega))
    obtain ⟨A9, q437, h⟩ := h
    have g438 : OT tb A0 A9 := by rw [q437]; exact (OT.st g436 (by clear h; omega))
    obtain ⟨c439, h⟩ := h
    rw [h]
    exact g438
  · obtain ⟨c440, c441, h⟩ := h
    rw [h]
    exact g418
theorem ot_d_X5_readDoor_2 {tb : Nat} {ta : Nat} {z1 : Int} {z11 : Int} {z : Int} {u : St} {z22 : Int} {A24 : St} {A0 : St} (htb : isT tb) (ht : TT ta tb) (gA24 : OT tb A0 A24) (h : d_X5_readDoor_2 ta z1 z11 z u z22 A24) : OT tb A0 u := by
  have ht := ht
  unfold TT at ht
  have h : tr_d_X5_readDoor_2 ta z1 z11 z u z22 A24 := h
  obtain ⟨c406, c407, h⟩ := h
  rcases h with h | h
  · obtain ⟨c408, h⟩ := h
    rcases h with h | h
    · obtain ⟨c409, h⟩ := h
      obtain ⟨z29, A30, q410, h⟩ := h
      have g411 : OT tb A0 A30 := gA24.trans (OT.fk htb q410.2.2.1 rfl rfl)
      rcases h with h | h
      · obtain ⟨c412, c413, h⟩ := h
        rw [h]
        exact g411
      · obtain ⟨c414, h⟩ := h
        obtain ⟨z34, A35, q415, h⟩ := h
        have g416 : OT tb A0 A35 := ot_r_X9_addDoor htb ht g411 q415.1
        rcases h with h | h
        · obtain ⟨c442, c443, h⟩ := h
          rw [h]
          exact g416
        · obtain ⟨c444, c445, h⟩ := h
          rw [h]
          exact g416
    · obtain ⟨c446, h⟩ := h
      obtain ⟨z39, A40, q447, h⟩ := h
      have g448 : OT tb A0 A40 := gA24.trans (OT.fk htb q447.2.2.1 rfl rfl)
      obtain ⟨c449, h⟩ := h
      rw [h]
      exact g448
  · obtain ⟨c450, c451, h⟩ := h
    rw [h]
    exact gA24
theorem ot_d_X5_readDoor_1 {tb : Nat} {ta : Nat} {z1 : Int} {z : Int} {u : St} {z11 : Int} {A13 : St} {A0 : St} (htb : isT tb) (ht : TT ta tb) (gA13 : OT tb A0 A13) (h : d_X5_readDoor_1 ta z1 z u z11 A13) : OT tb A0 u := by
  have ht := ht
  unfold TT at ht
  have h : tr_d_X5_readDoor_1 ta z1 z u z11 A13 := h
  obtain ⟨c401, c402, h⟩ := h
  rcases h with h | h
  · obtain ⟨c403, h⟩ := h
    obtain ⟨z18, A19, q404, h⟩ := h
    have g405 : OT tb A0 A19 := gA13.trans (OT.fk htb q404.2.2.1 rfl rfl)
    exact ot_d_X5_readDoor_2 htb ht  g405 h
  · obtain ⟨c452, h⟩ := h
    exact ot_d_X5_readDoor_2 htb ht  gA13 h
theorem ot_r_X5_readDoor {tb : Nat} {ta : Nat} {A : St} {z : Int} {u : St} {A0 : St} (htb : isT tb) (ht : TT ta tb) (gA : OT tb A0 A) (h : r_X5_readDoor ta A z u) : OT tb A0 u := by
  have ht := ht
  unfold TT at ht
  have h : tr_r_X5_readDoor ta A z u := h
  obtain ⟨z1, A2, q396, h⟩ := h
  have g397 : OT tb A0 A2 := gA.trans (OT.fk htb q396.2.2.1 rfl rfl)
  rcases h with h | h
  · obtain ⟨c398, h⟩ := h
    obtain ⟨z7, A8, q399, h⟩ := h
    have g400 : OT tb A0 A8 := g397.trans (OT.fk htb q399.2.2.1 rfl rfl)
    exact ot_d_X5_readDoor_1 htb ht  g400 h
  · obtain ⟨c453, h⟩ := h
    exact ot_d_X5_readDoor_1 htb ht  g397 h
theorem ot_r_X5_readBox {tb : Nat} {ta : Nat} {A : St} {z : Int} {u : St} {A0 : St} (htb : isT tb) (ht : TT ta tb) (gA : OT tb A0 A) (h : r_X5_readBox ta A z u) : OT tb A0 u := by
  have ht := ht
  unfold TT at ht
  have h : tr_r_X5_readBox ta A z u := h
  obtain ⟨z1, A2, q457, h⟩ := h
  have g458 : OT tb A0 A2 := gA.trans (OT.fk htb q457.2.2.1 rfl rfl)
  rcases h with h | h
  · obtain ⟨c459, c460, h⟩ := h
    rw [h]
    exact g458
  · obtain ⟨c461, h⟩ := h
    obtain ⟨z6, A7, q462, h⟩ := h
    have g463 : OT tb A0 A7 := g458.trans (OT.fk htb q462.2.2.1 rfl rfl)
    rcases h with h | h
    · obtain ⟨c464, h⟩ := h
      obtain ⟨z11, A12, q465, h⟩ := h
      have g466 : OT tb A0 A12 := g463.trans (OT.fk htb q465.2.2.1 rfl rfl)
      rcases h with h | h
      · obtain ⟨c467, c468, h⟩ := h
        rw [h]
        exact g466
      · obtain ⟨c469, h⟩ := h
        obtain ⟨z16, A17, q470, h⟩ := h
        have g471 : OT tb A0 A17 := ot_r_X9_addDoor htb ht g466 q470.1
        rcases h with h | h
        · obtain ⟨c472, c473, h⟩ := h
          rw [h]
          exact g471
        · obtain ⟨c474, c475, h⟩ := h
          rw [h]
          exact g471
    · obtain ⟨c476, c477, h⟩ := h
      rw [h]
      exact g463
theorem ot_r_X9_add_1_2 {tb : Nat} {ta : Nat} {x2 : Int} {A : St} {z : Int} {u : St} {A0 : St} (htb : isT tb) (ht : TT ta tb) (gA : OT tb A0 A) (h : r_X9_add_1_2 ta x2 A z u) : OT tb A0 u := by
  have ht := ht
  unfold TT at ht
  have h : tr_r_X9_add_1_2 ta x2 A z u := h
  rcases h with h | h
  · obtain ⟨c498, c499, h⟩ := h
    rw [h]
    exact gA
  · obtain ⟨c500, h⟩ := h
    obtain ⟨z4, q501, h⟩ := h
    rcases h with h | h
    · obtain ⟨c502, h⟩ := h
      obtain ⟨A8, q503, h⟩ := h
      have g504 : OT tb A0 A8 := by rw [q503]; exact (OT.st gA (by clear h; omega))
      obtain ⟨A11, q505, h⟩ := h
      have g506 : OT tb A0 A11 := by rw [q505]; exact (OT.st g504 (by clear h; omega))
      obtain ⟨c507, h⟩ := h
      rw [h]
      exact g506
    · obtain ⟨c508, c509, h⟩ := h
      rw [h]
      exact gA
theorem ot_r_X9_addKey {tb : Nat} {ta : Nat} {x1 : Int} {x2 : Int} {A : St} {z : Int} {u : St} {A0 : St} (htb : isT tb) (ht : TT ta tb) (gA : OT tb A0 A) (h : r_X9_addKey ta x1 x2 A z u) : OT tb A0 u := by
  have ht := ht
  unfold TT at ht
  have h : tr_r_X9_addKey ta x1 x2 A z u := h
  obtain ⟨z1, A2, q496, h⟩ := h
  have g497 : OT tb A0 A2 := ot_r_X9_add_1_2 htb ht gA q496.1
  rcases h with h | h
  · obtain ⟨c510, h⟩ := h
    obtain ⟨z6, q511, h⟩ := h
    obtain ⟨A7, q512, h⟩ := h
    have g513 : OT tb A0 A7 := by rw [q512]; exact (OT.st g497 (by clear h; omega))
    obtain ⟨c514, h⟩ := h
    rw [h]
    exact g513
  · obtain ⟨c515, c516, h⟩ := h
    rw [h]
    exact g497
theorem ot_r_X5_readKey {tb : Nat} {ta : Nat} {A : St} {z : Int} {u : St} {A0 : St} (htb : isT tb) (ht : TT ta tb) (gA : OT tb A0 A) (h : r_X5_readKey ta A z u) : OT tb A0 u := by
  have ht := ht
  unfold TT at ht
  have h : tr_r_X5_readKey ta A z u := h
  obtain ⟨z1, A2, q481, h⟩ := h
  have g482 : OT tb A0 A2 := gA.trans (OT.fk htb q481.2.2.1 rfl rfl)
  rcases h with h | h
  · obtain ⟨c483, c484, h⟩ := h
    rw [h]
    exact g482
  · obtain ⟨c485, h⟩ := h
    obtain ⟨z6, A7, q486, h⟩ := h
    have g487 : OT tb A0 A7 := g482.trans (OT.fk htb q486.2.2.1 rfl rfl)
    rcases h with h | h
    · obtain ⟨c488, h⟩ := h
      obtain ⟨z11, A12, q489, h⟩ := h
      have g490 : OT tb A0 A12 := g487.trans (OT.fk htb q489.2.2.1 rfl rfl)
      rcases h with h | h
      · obtain ⟨c491, c492, h⟩ := h
        rw [h]
        exact g490
      · obtain ⟨c493, h⟩ := h
        obtain ⟨z16, A17, q494, h⟩ := h
        have g495 : OT tb A0 A17 := ot_r_X9_addKey htb ht g490 q494.1
        rcases h with h | h
        · obtain ⟨c517, c518, h⟩ := h
          rw [h]
          exact g495
        · obtain ⟨c519, c520, h⟩ := h
          rw [h]
          exact g495
    · obtain ⟨c521, c522, h⟩ := h
      rw [h]
      exact g487
theorem ot_r_X9_add_1_3 {tb : Nat} {ta : Nat} {x2 : Int} {A : St} {z : Int} {u : St} {A0 : St} (htb : isT tb) (ht : TT ta tb) (gA : OT tb A0 A) (h : r_X9_add_1_3 ta x2 A z u) : OT tb A0 u := by
  have ht := ht
  unfold TT at ht
  have h : tr_r_X9_add_1_3 ta x2 A z u := h
  rcases h with h | h
  · obtain ⟨c543, c544, h⟩ := h
    rw [h]
    exact gA
  · obtain ⟨c545, h⟩ := h
    obtain ⟨z4, q546, h⟩ := h
    rcases h with h | h
    · obtain ⟨c547, h⟩ := h
      obtain ⟨A8, q548, h⟩ := h
      have g549 : OT tb A0 A8 := by rw [q548]; exact (OT.st gA (by clear h; omega))
      obtain ⟨A11, q550, h⟩ := h
      have g551 : OT tb A0 A11 := by rw [q550]; exact (OT.st g549 (by clear h; omega))
      obtain ⟨c552, h⟩ := h
      rw [h]
      exact g551
    · obtain ⟨c553, c554, h⟩ := h
      rw [h]
      exact gA
theorem ot_r_X9_addPerson {tb : Nat} {ta : Nat} {x1 : Int} {x2 : Int} {A : St} {z : Int} {u : St} {A0 : St} (htb : isT tb) (ht : TT ta tb) (gA : OT tb A0 A) (h : r_X9_addPerson ta x1 x2 A z u) : OT tb A0 u := by
  have ht := ht
  unfold TT at ht
  have h : tr_r_X9_addPerson ta x1 x2 A z u := h
  obtain ⟨z1, A2, q541, h⟩ := h
  have g542 : OT tb A0 A2 := ot_r_X9_add_1_3 htb ht gA q541.1
  rcases h with h | h
  · obtain ⟨c555, h⟩ := h
    obtain ⟨z6, q556, h⟩ := h
    obtain ⟨A7, q557, h⟩ := h
    have g558 : OT tb A0 A7 := by rw [q557]; exact (OT.st g542 (by clear h; omega))
    obtain ⟨c559, h⟩ := h
    rw [h]
    exact g558
  · obtain ⟨c560, c561, h⟩ := h
    rw [h]
    exact g542
theorem ot_r_X5_readPerson {tb : Nat} {ta : Nat} {A : St} {z : Int} {u : St} {A0 : St} (htb : isT tb) (ht : TT ta tb) (gA : OT tb A0 A) (h : r_X5_readPerson ta A z u) : OT tb A0 u := by
  have ht := ht
  unfold TT at ht
  have h : tr_r_X5_readPerson ta A z u := h
  obtain ⟨z1, A2, q526, h⟩ := h
  have g527 : OT tb A0 A2 := gA.trans (OT.fk htb q526.2.2.1 rfl rfl)
  rcases h with h | h
  · obtain ⟨c528, c529, h⟩ := h
    rw [h]
    exact g527
  · obtain ⟨c530, h⟩ := h
    obtain ⟨z6, A7, q531, h⟩ := h
    have g532 : OT tb A0 A7 := g527.trans (OT.fk htb q531.2.2.1 rfl rfl)
    rcases h with h | h
    · obtain ⟨c533, h⟩ := h
      obtain ⟨z11, A12, q534, h⟩ := h
      have g535 : OT tb A0 A12 := g532.trans (OT.fk htb q534.2.2.1 rfl rfl)
      rcases h with h | h
      · obtain ⟨c536, c537, h⟩ := h
        rw [h]
        exact g535
      · obtain ⟨c538, h⟩ := h
        obtain ⟨z16, A17, q539, h⟩ := h
        have g540 : OT tb A0 A17 := ot_r_X9_addPerson htb ht g535 q539.1
        rcases h with h | h
        · obtain ⟨c562, c563, h⟩ := h
          rw [h]
          exact g540
        · obtain ⟨c564, c565, h⟩ := h
          rw [h]
          exact g540
    · obtain ⟨c566, c567, h⟩ := h
      rw [h]
      exact g532
theorem ot_r_X9_add_1_4 {tb : Nat} {ta : Nat} {x2 : Int} {A : St} {z : Int} {u : St} {A0 : St} (htb : isT tb) (ht : TT ta tb) (gA : OT tb A0 A) (h : r_X9_add_1_4 ta x2 A z u) : OT tb A0 u := by
  have ht := ht
  unfold TT at ht
  have h : tr_r_X9_add_1_4 ta x2 A z u := h
  rcases h with h | h
  · obtain ⟨c588, c589, h⟩ := h
    rw [h]
    exact gA
  · obtain ⟨c590, h⟩ := h
    obtain ⟨z4, q591, h⟩ := h
    rcases h with h | h
    · obtain ⟨c592, h⟩ := h
      obtain ⟨A8, q593, h⟩ := h
      have g594 : OT tb A0 A8 := by rw [q593]; exact (OT.st gA (by clear h; omega))
      obtain ⟨A11, q595, h⟩ := h
      have g596 : OT tb A0 A11 := by rw [q595]; exact (OT.st g594 (by clear h; omega))
      obtain ⟨c597, h⟩ := h
      rw [h]
      exact g596
    · obtain ⟨c598, c599, h⟩ := h
      rw [h]
      exact gA
theorem ot_r_X9_addThing {tb : Nat} {ta : Nat} {x1 : Int} {x2 : Int} {A : St} {z : Int} {u : St} {A0 : St} (htb : isT tb) (ht : TT ta tb) (gA : OT tb A0 A) (h : r_X9_addThing ta x1 x2 A z u) : OT tb A0 u := by
  have ht := ht
  unfold TT at ht
  have h : tr_r_X9_addThing ta x1 x2 A z u := h
  obtain ⟨z1, A2, q586, h⟩ := h
  have g587 : OT tb A0 A2 := ot_r_X9_add_1_4 htb ht gA q586.1
  rcases h with h | h
  · obtain ⟨c600, h⟩ := h
    obtain ⟨z6, q601, h⟩ := h
    obtain ⟨A7, q602, h⟩ := h
    have g603 : OT tb A0 A7 := by rw [q602]; exact (OT.st g587 (by clear h; omega))
    obtain ⟨c604, h⟩ := h
    rw [h]
    exact g603
  · obtain ⟨c605, c606, h⟩ := h
    rw [h]
    exact g587
theorem ot_r_X5_readThing {tb : Nat} {ta : Nat} {A : St} {z : Int} {u : St} {A0 : St} (htb : isT tb) (ht : TT ta tb) (gA : OT tb A0 A) (h : r_X5_readThing ta A z u) : OT tb A0 u := by
  have ht := ht
  unfold TT at ht
  have h : tr_r_X5_readThing ta A z u := h
  obtain ⟨z1, A2, q571, h⟩ := h
  have g572 : OT tb A0 A2 := gA.trans (OT.fk htb q571.2.2.1 rfl rfl)
  rcases h with h | h
  · obtain ⟨c573, c574, h⟩ := h
    rw [h]
    exact g572
  · obtain ⟨c575, h⟩ := h
    obtain ⟨z6, A7, q576, h⟩ := h
    have g577 : OT tb A0 A7 := g572.trans (OT.fk htb q576.2.2.1 rfl rfl)
    rcases h with h | h
    · obtain ⟨c578, h⟩ := h
      obtain ⟨z11, A12, q579, h⟩ := h
      have g580 : OT tb A0 A12 := g577.trans (OT.fk htb q579.2.2.1 rfl rfl)
      rcases h with h | h
      · obtain ⟨c581, c582, h⟩ := h
        rw [h]
        exact g580
      · obtain ⟨c583, h⟩ := h
        obtain ⟨z16, A17, q584, h⟩ := h
        have g585 : OT tb A0 A17 := ot_r_X9_addThing htb ht g580 q584.1
        rcases h with h | h
        · obtain ⟨c607, c608, h⟩ := h
          rw [h]
          exact g585
        · obtain ⟨c609, c610, h⟩ := h
          rw [h]
          exact g585
    · obtain ⟨c611, c612, h⟩ := h
      rw [h]
      exact g577
theorem ot_r_X5_readWants {tb : Nat} {ta : Nat} {A : St} {z : Int} {u : St} {A0 : St} (htb : isT tb) (ht : TT ta tb) (gA : OT tb A0 A) (h : r_X5_readWants ta A z u) : OT tb A0 u := by
  have ht := ht
  unfold TT at ht
  have h : tr_r_X5_readWants ta A z u := h
  obtain ⟨z1, A2, q616, h⟩ := h
  have g617 : OT tb A0 A2 := gA.trans (OT.fk htb q616.2.2.1 rfl rfl)
  rcases h with h | h
  · obtain ⟨c618, h⟩ := h
    obtain ⟨z7, q619, h⟩ := h
    obtain ⟨z8, q620, h⟩ := h
    rcases h with h | h
    · obtain ⟨c621, h⟩ := h
      obtain ⟨z12, A13, q622, h⟩ := h
      have g623 : OT tb A0 A13 := g617.trans (OT.fk htb q622.2.2.1 rfl rfl)
      rcases h with h | h
      · obtain ⟨c624, h⟩ := h
        obtain ⟨z19, q625, h⟩ := h
        obtain ⟨z20, q626, h⟩ := h
        rcases h with h | h
        · obtain ⟨c627, h⟩ := h
          obtain ⟨z23, q628, h⟩ := h
          obtain ⟨z24, q629, h⟩ := h
          obtain ⟨A25, q630, h⟩ := h
          have g631 : OT tb A0 A25 := by rw [q630]; exact (OT.st g623 (by clear h; omega))
          obtain ⟨z29, q632, h⟩ := h
          obtain ⟨A30, q633, h⟩ := h
          have g634 : OT tb A0 A30 := by rw [q633]; exact (OT.st g631 (by clear h; omega))
          obtain ⟨c635, h⟩ := h
          rw [h]
          exact g634
        · obtain ⟨c636, h⟩ := h
          obtain ⟨z31, A32, q637, h⟩ := h
          have g638 : OT tb A0 A32 := g623.trans (OT.fk htb q637.2.2.1 rfl rfl)
          obtain ⟨c639, h⟩ := h
          rw [h]
          exact g638
      · obtain ⟨c640, c641, h⟩ := h
        rw [h]
        exact g623
    · obtain ⟨c642, h⟩ := h
      obtain ⟨z35, A36, q643, h⟩ := h
      have g644 : OT tb A0 A36 := g617.trans (OT.fk htb q643.2.2.1 rfl rfl)
      obtain ⟨c645, h⟩ := h
      rw [h]
      exact g644
  · obtain ⟨c646, c647, h⟩ := h
    rw [h]
    exact g617
theorem ot_r_X9_addMust {tb : Nat} {ta : Nat} {x1 : Int} {x2 : Int} {x3 : Int} {A : St} {z : Int} {u : St} {A0 : St} (htb : isT tb) (ht : TT ta tb) (gA : OT tb A0 A) (h : r_X9_addMust ta x1 x2 x3 A z u) : OT tb A0 u := by
  have ht := ht
  unfold TT at ht
  have h : tr_r_X9_addMust ta x1 x2 x3 A z u := h
  obtain ⟨z1, q668, h⟩ := h
  rcases h with h | h
  · obtain ⟨c669, h⟩ := h
    obtain ⟨A4, q670, h⟩ := h
    have g671 : OT tb A0 A4 := by rw [q670]; exact (OT.st gA (by clear h; omega))
    obtain ⟨A5, q672, h⟩ := h
    have g673 : OT tb A0 A5 := by rw [q672]; exact (OT.st g671 (by clear h; omega))
    obtain ⟨A6, q674, h⟩ := h
    have g675 : OT tb A0 A6 := by rw [q674]; exact (OT.st g673 (by clear h; omega))
    obtain ⟨A11, q676, h⟩ := h
    have g677 : OT tb A0 A11 := by rw [q676]; exact (OT.st g675 (by clear h; omega))
    obtain ⟨c678, h⟩ := h
    rw [h]
    exact g677
  · obtain ⟨c679, c680, h⟩ := h
    rw [h]
    exact gA
theorem ot_d_X5_readMust_2 {tb : Nat} {ta : Nat} {z1 : Int} {z11 : Int} {z : Int} {u : St} {z22 : Int} {A24 : St} {A0 : St} (htb : isT tb) (ht : TT ta tb) (gA24 : OT tb A0 A24) (h : d_X5_readMust_2 ta z1 z11 z u z22 A24) : OT tb A0 u := by
  have ht := ht
  unfold TT at ht
  have h : tr_d_X5_readMust_2 ta z1 z11 z u z22 A24 := h
  obtain ⟨c661, c662, h⟩ := h
  rcases h with h | h
  · obtain ⟨c663, c664, h⟩ := h
    rw [h]
    exact gA24
  · obtain ⟨c665, h⟩ := h
    obtain ⟨z28, A29, q666, h⟩ := h
    have g667 : OT tb A0 A29 := ot_r_X9_addMust htb ht gA24 q666.1
    rcases h with h | h
    · obtain ⟨c681, c682, h⟩ := h
      rw [h]
      exact g667
    · obtain ⟨c683, c684, h⟩ := h
      rw [h]
      exact g667
theorem ot_d_X5_readMust_1 {tb : Nat} {ta : Nat} {z1 : Int} {z : Int} {u : St} {z11 : Int} {A13 : St} {A0 : St} (htb : isT tb) (ht : TT ta tb) (gA13 : OT tb A0 A13) (h : d_X5_readMust_1 ta z1 z u z11 A13) : OT tb A0 u := by
  have ht := ht
  unfold TT at ht
  have h : tr_d_X5_readMust_1 ta z1 z u z11 A13 := h
  obtain ⟨c656, c657, h⟩ := h
  rcases h with h | h
  · obtain ⟨c658, h⟩ := h
    obtain ⟨z18, A19, q659, h⟩ := h
    have g660 : OT tb A0 A19 := gA13.trans (OT.fk htb q659.2.2.1 rfl rfl)
    exact ot_d_X5_readMust_2 htb ht  g660 h
  · obtain ⟨c685, h⟩ := h
    exact ot_d_X5_readMust_2 htb ht  gA13 h
theorem ot_r_X5_readMust {tb : Nat} {ta : Nat} {A : St} {z : Int} {u : St} {A0 : St} (htb : isT tb) (ht : TT ta tb) (gA : OT tb A0 A) (h : r_X5_readMust ta A z u) : OT tb A0 u := by
  have ht := ht
  unfold TT at ht
  have h : tr_r_X5_readMust ta A z u := h
  obtain ⟨z1, A2, q651, h⟩ := h
  have g652 : OT tb A0 A2 := gA.trans (OT.fk htb q651.2.2.1 rfl rfl)
  rcases h with h | h
  · obtain ⟨c653, h⟩ := h
    obtain ⟨z7, A8, q654, h⟩ := h
    have g655 : OT tb A0 A8 := g652.trans (OT.fk htb q654.2.2.1 rfl rfl)
    exact ot_d_X5_readMust_1 htb ht  g655 h
  · obtain ⟨c686, h⟩ := h
    exact ot_d_X5_readMust_1 htb ht  g652 h
theorem ot_r_X9_addBar {tb : Nat} {ta : Nat} {x1 : Int} {x2 : Int} {x3 : Int} {A : St} {z : Int} {u : St} {A0 : St} (htb : isT tb) (ht : TT ta tb) (gA : OT tb A0 A) (h : r_X9_addBar ta x1 x2 x3 A z u) : OT tb A0 u := by
  have ht := ht
  unfold TT at ht
  have h : tr_r_X9_addBar ta x1 x2 x3 A z u := h
  obtain ⟨z1, q709, h⟩ := h
  rcases h with h | h
  · obtain ⟨c710, h⟩ := h
    obtain ⟨A4, q711, h⟩ := h
    have g712 : OT tb A0 A4 := by rw [q711]; exact (OT.st gA (by clear h; omega))
    obtain ⟨A5, q713, h⟩ := h
    have g714 : OT tb A0 A5 := by rw [q713]; exact (OT.st g712 (by clear h; omega))
    obtain ⟨A6, q715, h⟩ := h
    have g716 : OT tb A0 A6 := by rw [q715]; exact (OT.st g714 (by clear h; omega))
    obtain ⟨A11, q717, h⟩ := h
    have g718 : OT tb A0 A11 := by rw [q717]; exact (OT.st g716 (by clear h; omega))
    obtain ⟨c719, h⟩ := h
    rw [h]
    exact g718
  · obtain ⟨c720, c721, h⟩ := h
    rw [h]
    exact gA
theorem ot_r_X5_readBar {tb : Nat} {ta : Nat} {A : St} {z : Int} {u : St} {A0 : St} (htb : isT tb) (ht : TT ta tb) (gA : OT tb A0 A) (h : r_X5_readBar ta A z u) : OT tb A0 u := by
  have ht := ht
  unfold TT at ht
  have h : tr_r_X5_readBar ta A z u := h
  obtain ⟨z1, A2, q690, h⟩ := h
  have g691 : OT tb A0 A2 := gA.trans (OT.fk htb q690.2.2.1 rfl rfl)
  rcases h with h | h
  · obtain ⟨c692, h⟩ := h
    obtain ⟨z6, q693, h⟩ := h
    rcases h with h | h
    · obtain ⟨c694, h⟩ := h
      obtain ⟨A12, q695, h⟩ := h
      have g696 : OT tb A0 A12 := by rw [q695]; exact (OT.st g691 (by clear h; omega))
      obtain ⟨z13, A14, q697, h⟩ := h
      have g698 : OT tb A0 A14 := g696.trans (OT.fk htb q697.2.2.1 rfl rfl)
      rcases h with h | h
      · obtain ⟨c699, c700, h⟩ := h
        rw [h]
        exact g698
      · obtain ⟨c701, h⟩ := h
        obtain ⟨z20, A21, q702, h⟩ := h
        have g703 : OT tb A0 A21 := g698.trans (ot_rq_test htb (by clear h; unfold TE; omega) _ _ _ _ q702)
        rcases h with h | h
        · obtain ⟨c704, c705, h⟩ := h
          rw [h]
          exact g703
        · obtain ⟨c706, h⟩ := h
          obtain ⟨z27, A28, q707, h⟩ := h
          have g708 : OT tb A0 A28 := ot_r_X9_addBar htb ht g703 q707.1
          rcases h with h | h
          · obtain ⟨c722, c723, h⟩ := h
            rw [h]
            exact g708
          · obtain ⟨c724, c725, h⟩ := h
            rw [h]
            exact g708
    · obtain ⟨c726, h⟩ := h
      obtain ⟨z32, A33, q727, h⟩ := h
      have g728 : OT tb A0 A33 := g691.trans (OT.fk htb q727.2.2.1 rfl rfl)
      obtain ⟨c729, h⟩ := h
      rw [h]
      exact g728
  · obtain ⟨c730, c731, h⟩ := h
    rw [h]
    exact g691
theorem ot_d_X5_readHas_1 {tb : Nat} {ta : Nat} {z1 : Int} {z : Int} {u : St} {z11 : Int} {A13 : St} {A0 : St} (htb : isT tb) (ht : TT ta tb) (gA13 : OT tb A0 A13) (h : d_X5_readHas_1 ta z1 z u z11 A13) : OT tb A0 u := by
  have ht := ht
  unfold TT at ht
  have h : tr_d_X5_readHas_1 ta z1 z u z11 A13 := h
  obtain ⟨c740, c741, h⟩ := h
  rcases h with h | h
  · obtain ⟨c742, h⟩ := h
    obtain ⟨z19, q743, h⟩ := h
    rcases h with h | h
    · obtain ⟨c744, h⟩ := h
      obtain ⟨A21, q745, h⟩ := h
      have g746 : OT tb A0 A21 := by rw [q745]; exact (OT.st gA13 (by clear h; omega))
      obtain ⟨c747, h⟩ := h
      rw [h]
      exact g746
    · obtain ⟨c748, h⟩ := h
      obtain ⟨z22, A23, q749, h⟩ := h
      have g750 : OT tb A0 A23 := gA13.trans (OT.fk htb q749.2.2.1 rfl rfl)
      obtain ⟨c751, h⟩ := h
      rw [h]
      exact g750
  · obtain ⟨c752, c753, h⟩ := h
    rw [h]
    exact gA13
theorem ot_r_X5_readHas {tb : Nat} {ta : Nat} {A : St} {z : Int} {u : St} {A0 : St} (htb : isT tb) (ht : TT ta tb) (gA : OT tb A0 A) (h : r_X5_readHas ta A z u) : OT tb A0 u := by
  have ht := ht
  unfold TT at ht
  have h : tr_r_X5_readHas ta A z u := h
  obtain ⟨z1, A2, q735, h⟩ := h
  have g736 : OT tb A0 A2 := gA.trans (OT.fk htb q735.2.2.1 rfl rfl)
  rcases h with h | h
  · obtain ⟨c737, h⟩ := h
    obtain ⟨z7, A8, q738, h⟩ := h
    have g739 : OT tb A0 A8 := g736.trans (OT.fk htb q738.2.2.1 rfl rfl)
    exact ot_d_X5_readHas_1 htb ht  g739 h
  · obtain ⟨c754, h⟩ := h
    exact ot_d_X5_readHas_1 htb ht  g736 h
theorem ot_r_X6_push {tb : Nat} {ta : Nat} {x1 : Int} {x2 : Int} {A : St} {z : Int} {u : St} {A0 : St} (htb : isT tb) (ht : TS ta tb) (gA : OT tb A0 A) (h : r_X6_push ta x1 x2 A z u) : OT tb A0 u := by
  have ht := ht
  unfold TS at ht
  have h : tr_r_X6_push ta x1 x2 A z u := h
  rcases h with h | h
  · obtain ⟨c771, c772, h⟩ := h
    rw [h]
    exact gA
  · obtain ⟨c773, h⟩ := h
    rcases h with h | h
    · obtain ⟨c774, c775, h⟩ := h
      rw [h]
      exact gA
    · obtain ⟨c776, h⟩ := h
      obtain ⟨z3, q777, h⟩ := h
      rcases h with h | h
      · obtain ⟨c778, h⟩ := h
        obtain ⟨z7, q779, h⟩ := h
        rcases h with h | h
        · obtain ⟨c780, h⟩ := h
          obtain ⟨A10, q781, h⟩ := h
          have g782 : OT tb A0 A10 := by rw [q781]; exact (OT.st gA (by clear h; omega))
          obtain ⟨A11, q783, h⟩ := h
          have g784 : OT tb A0 A11 := by rw [q783]; exact (OT.st g782 (by clear h; omega))
          obtain ⟨c785, h⟩ := h
          rw [h]
          exact g784
        · obtain ⟨c786, c787, h⟩ := h
          rw [h]
          exact gA
      · obtain ⟨c788, c789, h⟩ := h
        rw [h]
        exact gA
theorem ot_r_X5_readShut {tb : Nat} {ta : Nat} {A : St} {z : Int} {u : St} {A0 : St} (htb : isT tb) (ht : TT ta tb) (gA : OT tb A0 A) (h : r_X5_readShut ta A z u) : OT tb A0 u := by
  have ht := ht
  unfold TT at ht
  have h : tr_r_X5_readShut ta A z u := h
  obtain ⟨z1, A2, q758, h⟩ := h
  have g759 : OT tb A0 A2 := gA.trans (OT.fk htb q758.2.2.1 rfl rfl)
  rcases h with h | h
  · obtain ⟨c760, c761, h⟩ := h
    rw [h]
    exact g759
  · obtain ⟨c762, h⟩ := h
    obtain ⟨z6, A7, q763, h⟩ := h
    have g764 : OT tb A0 A7 := g759.trans (OT.fk htb q763.2.2.1 rfl rfl)
    rcases h with h | h
    · obtain ⟨c765, h⟩ := h
      obtain ⟨z11, A12, q766, h⟩ := h
      have g767 : OT tb A0 A12 := g764.trans (OT.fk htb q766.2.2.1 rfl rfl)
      rcases h with h | h
      · obtain ⟨c768, h⟩ := h
        obtain ⟨z16, A17, q769, h⟩ := h
        have g770 : OT tb A0 A17 := ot_r_X6_push htb (by clear h; unfold TS; omega) g767 q769.1
        rcases h with h | h
        · obtain ⟨c790, c791, h⟩ := h
          rw [h]
          exact g770
        · obtain ⟨c792, h⟩ := h
          obtain ⟨z21, A22, q793, h⟩ := h
          have g794 : OT tb A0 A22 := g770.trans (OT.fk htb q793.2.2.1 rfl rfl)
          obtain ⟨c795, h⟩ := h
          rw [h]
          exact g794
      · obtain ⟨c796, c797, h⟩ := h
        rw [h]
        exact g767
    · obtain ⟨c798, c799, h⟩ := h
      rw [h]
      exact g764
theorem ot_r_X5_readLost {tb : Nat} {ta : Nat} {A : St} {z : Int} {u : St} {A0 : St} (htb : isT tb) (ht : TT ta tb) (gA : OT tb A0 A) (h : r_X5_readLost ta A z u) : OT tb A0 u := by
  have ht := ht
  unfold TT at ht
  have h : tr_r_X5_readLost ta A z u := h
  obtain ⟨z1, A2, q803, h⟩ := h
  have g804 : OT tb A0 A2 := gA.trans (OT.fk htb q803.2.2.1 rfl rfl)
  rcases h with h | h
  · obtain ⟨c805, h⟩ := h
    obtain ⟨z8, q806, h⟩ := h
    obtain ⟨z9, q807, h⟩ := h
    rcases h with h | h
    · obtain ⟨c808, h⟩ := h
      obtain ⟨z11, q809, h⟩ := h
      obtain ⟨z12, q810, h⟩ := h
      obtain ⟨A13, q811, h⟩ := h
      have g812 : OT tb A0 A13 := by rw [q811]; exact (OT.st g804 (by clear h; omega))
      obtain ⟨c813, h⟩ := h
      rw [h]
      exact g812
    · obtain ⟨c814, h⟩ := h
      obtain ⟨z14, A15, q815, h⟩ := h
      have g816 : OT tb A0 A15 := g804.trans (OT.fk htb q815.2.2.1 rfl rfl)
      obtain ⟨c817, h⟩ := h
      rw [h]
      exact g816
  · obtain ⟨c818, c819, h⟩ := h
    rw [h]
    exact g804
theorem ot_d_X5_readTown_1 {tb : Nat} {ta : Nat} {z : Int} {u : St} {A0 : St} (htb : isT tb) (ht : TT ta tb)  : ∀ (nn : Nat) (z9 : Int) (A11 : St), OT tb A0 A11 → d_X5_readTown_1 ta z u nn z9 A11 → OT tb A0 u := by
  have ht := ht
  unfold TT at ht
  intro nn
  induction nn with
  | zero => intro _ _ _ h; exact h.elim
  | succ nn hK =>
    intro z9 A11 gA11 h
    have h : tr_d_X5_readTown_1 ta z u (fun z9 A11 => d_X5_readTown_1 ta z u nn z9 A11) z9 A11 := h
    obtain ⟨c355, c356, h⟩ := h
    rcases h with h | h
    · obtain ⟨c357, c358, h⟩ := h
      rw [h]
      exact gA11
    · obtain ⟨c359, h⟩ := h
      obtain ⟨A18, q360, h⟩ := h
      have g361 : OT tb A0 A18 := gA11.trans (OT.fk htb q360.2.2.1 rfl rfl)
      rcases h with h | h
      · obtain ⟨c362, h⟩ := h
        obtain ⟨z23, A24, q363, h⟩ := h
        have g364 : OT tb A0 A24 := g361.trans (OT.fk htb q363.2.2.1 rfl rfl)
        rcases h with h | h | h | h | h | h | h | h | h | h | h | h | h
        · obtain ⟨c365, h⟩ := h
          exact ot_d_X5_readTown_2 htb hK g364 h
        · obtain ⟨c376, h⟩ := h
          obtain ⟨z29, A30, q377, h⟩ := h
          have g378 : OT tb A0 A30 := g364.trans (OT.fk htb q377.2.2.1 rfl rfl)
          obtain ⟨z33, A34, q379, h⟩ := h
          have g380 : OT tb A0 A34 := ot_r_X9_add_1_0 htb ht g378 q379.1
          exact ot_d_X5_readTown_2 htb hK g380 h
        · obtain ⟨c393, h⟩ := h
          obtain ⟨z37, A38, q394, h⟩ := h
          have g395 : OT tb A0 A38 := ot_r_X5_readDoor htb ht g364 q394.1
          exact ot_d_X5_readTown_2 htb hK g395 h
        · obtain ⟨c454, h⟩ := h
          obtain ⟨z41, A42, q455, h⟩ := h
          have g456 : OT tb A0 A42 := ot_r_X5_readBox htb ht g364 q455.1
          exact ot_d_X5_readTown_2 htb hK g456 h
        · obtain ⟨c478, h⟩ := h
          obtain ⟨z45, A46, q479, h⟩ := h
          have g480 : OT tb A0 A46 := ot_r_X5_readKey htb ht g364 q479.1
          exact ot_d_X5_readTown_2 htb hK g480 h
        · obtain ⟨c523, h⟩ := h
          obtain ⟨z49, A50, q524, h⟩ := h
          have g525 : OT tb A0 A50 := ot_r_X5_readPerson htb ht g364 q524.1
          exact ot_d_X5_readTown_2 htb hK g525 h
        · obtain ⟨c568, h⟩ := h
          obtain ⟨z53, A54, q569, h⟩ := h
          have g570 : OT tb A0 A54 := ot_r_X5_readThing htb ht g364 q569.1
          exact ot_d_X5_readTown_2 htb hK g570 h
        · obtain ⟨c613, h⟩ := h
          obtain ⟨z57, A58, q614, h⟩ := h
          have g615 : OT tb A0 A58 := ot_r_X5_readWants htb ht g364 q614.1
          exact ot_d_X5_readTown_2 htb hK g615 h
        · obtain ⟨c648, h⟩ := h
          obtain ⟨z61, A62, q649, h⟩ := h
          have g650 : OT tb A0 A62 := ot_r_X5_readMust htb ht g364 q649.1
          exact ot_d_X5_readTown_2 htb hK g650 h
        · obtain ⟨c687, h⟩ := h
          obtain ⟨z68, A69, q688, h⟩ := h
          have g689 : OT tb A0 A69 := ot_r_X5_readBar htb ht g364 q688.1
          exact ot_d_X5_readTown_2 htb hK g689 h
        · obtain ⟨c732, h⟩ := h
          obtain ⟨z72, A73, q733, h⟩ := h
          have g734 : OT tb A0 A73 := ot_r_X5_readHas htb ht g364 q733.1
          exact ot_d_X5_readTown_2 htb hK g734 h
        · obtain ⟨c755, h⟩ := h
          obtain ⟨z76, A77, q756, h⟩ := h
          have g757 : OT tb A0 A77 := ot_r_X5_readShut htb ht g364 q756.1
          exact ot_d_X5_readTown_2 htb hK g757 h
        · obtain ⟨c800, h⟩ := h
          obtain ⟨z80, A81, q801, h⟩ := h
          have g802 : OT tb A0 A81 := ot_r_X5_readLost htb ht g364 q801.1
          exact ot_d_X5_readTown_2 htb hK g802 h
      · obtain ⟨c820, c821, h⟩ := h
        rw [h]
        exact g361
theorem ot_r_X5_readTown {tb : Nat} {ta : Nat} {A : St} {z : Int} {u : St} {A0 : St} (htb : isT tb) (ht : TT ta tb) (gA : OT tb A0 A) (h : r_X5_readTown ta A z u) : OT tb A0 u := by
  have ht := ht
  unfold TT at ht
  have h : tr_r_X5_readTown ta A z u := h
  obtain ⟨A1, q325, h⟩ := h
  have g326 : OT tb A0 A1 := ot_r_X9_clear htb ht gA q325.1
  obtain ⟨A4, q349, h⟩ := h
  have g350 : OT tb A0 A4 := g326.trans (OT.fk htb q349.2.2.1 rfl rfl)
  obtain ⟨A7, q351, h⟩ := h
  have g352 : OT tb A0 A7 := by rw [q351]; exact (OT.st g350 (by clear h; omega))
  obtain ⟨A8, q353, h⟩ := h
  have g354 : OT tb A0 A8 := by rw [q353]; exact (OT.st g352 (by clear h; omega))
  obtain ⟨nn9, h⟩ := h
  exact ot_d_X5_readTown_1 htb ht  _ _ _ g354 h
/-! The reference's other bank is left alone by its reader. -/
def bnkL : List Nat := [1, 1, 1, 8, 1, 10, 10, 10, 10, 10, 10, 1, 4, 4, 4, 40, 1, 3, 3, 1, 4, 4, 1, 6, 6, 1, 6, 6, 6, 1, 6, 6, 6]
def bnk (j : Nat) : Nat := bnkL.getD j 1
def OB (b : Nat) (A u : St) : Prop := ∀ j, j ≠ 0 → j ≤ 32 → ∀ i, ¬ i / bnk j = b → u j i = A j i
theorem OB.rf {b : Nat} {A : St} : OB b A A := fun _ _ _ _ _ => rfl
theorem OB.trans {b : Nat} {A B C : St} (h : OB b A B) (g : OB b B C) : OB b A C := fun j h0 h1 i hi => (g j h0 h1 i hi).trans (h j h0 h1 i hi)
theorem OB.rq {b : Nat} {A u : St} (h : rq u A) : OB b A u := fun j h0 _ i _ => by rw [h j h0]
theorem OB.cl {b : Nat} {A S u : St} {N' : List Nat} (h : OB b A S) (g : fr [] N' S u) : OB b A u := h.trans (OB.rq g.rq)
theorem OB.st {b j i : Nat} {v : Int} {A S : St} (h : OB b A S) (hi : i / bnk j = b) : OB b A (stA S j i v) := by
  intro k h0 h1 m hm
  by_cases e : k = j
  · subst e
    rw [stA_same]
    by_cases e2 : m = i
    · subst e2
      exact absurd hi hm
    · rw [up_ne _ _ e2]
      exact h k h0 h1 m hm
  · rw [stA_ne _ _ e]
    exact h k h0 h1 m hm
theorem OB.s0 {b i : Nat} {v : Int} {A S : St} (h : OB b A S) : OB b A (stA S 0 i v) := by
  intro k h0 h1 m hm
  rw [stA_ne _ _ h0]
  exact h k h0 h1 m hm
theorem OB.r32 {b : Nat} {A S u : St} {M' N' : List Nat} (h : OB b A S) (g : fr M' N' S u) (hM : ∀ j, j ≠ 0 → j ≤ 32 → M'.contains j = false) : OB b A u := by
  intro j h0 h1 i hi
  rw [g.1 j h0 (hM j h0 h1)]
  exact h j h0 h1 i hi
theorem O_place {b : Nat} {A u : St} (hI : IM A) (hb : A 0 47 = (b : Int)) (hq : q_X12_place A u) : OB b A u := by
  have eb : (A 0 47).toNat = b := by rw [hb]; exact Int.toNat_natCast b
  have r2 : (0 : Int) ≤ A 2 b ∧ A 2 b ≤ 8 := hI 2 b
  obtain ⟨z1, hz1, h2⟩ := (hq.1 : tr_r_X12_place A u)
  rw [eb] at hz1
  have d1 : ∀ x, (x = 0 → z1 < 8) → d_X12_place_1 A u x → OB b A u := by
    intro x hx h2
    obtain ⟨_, z8, A9, hc, h2⟩ := (h2 : tr_d_X12_place_1 A u x)
    have q9 := hc.2.2.1.rq
    have g9 : OB b A A9 := OB.rq q9
    have rz := hc.2.2.2.2.1
    have pz := hc.2.2.2.2.2.1
    rcases h2 with ⟨c1, z14, hz14, h2⟩ | ⟨c1, rfl⟩
    · have lt := hx (pz (by clear h2; omega)).1
      rw [eb, q9 2 (by decide), ← hz1] at hz14
      obtain ⟨n, hn, hnL⟩ : ∃ n : Nat, z14 = (n : Int) ∧ n < 8 := ⟨z14.toNat, by clear h2; omega, by clear h2; omega⟩
      have ix : (8 * A 0 47 + z14).toNat = 8 * b + n := by rw [hb, hn]; omega
      obtain ⟨z15, A16, hf, h2⟩ := h2
      have g16 := g9.cl hf.2.2.1
      rw [ix, eb] at h2
      rcases h2 with ⟨_, A21, e, hu⟩ | ⟨_, z22, _, A23, e, hu⟩
      · rw [hu, e]; exact (OB.st g16 (show (8 * b + n) / 8 = b by omega))
      · rw [hu, e]; exact (OB.st (OB.st g16 (show (8 * b + n) / 8 = b by omega)) (show b / 1 = b from Nat.div_one b))
    · exact g9
  rcases h2 with ⟨c, h2⟩ | ⟨c, h2⟩
  · exact d1 0 (fun _ => by clear h2; omega) h2
  · exact d1 1 (fun g => absurd g (by decide)) h2
theorem O_key {b : Nat} {A u : St} (hI : IM A) (hb : A 0 47 = (b : Int)) (hq : q_X12_key A u) : OB b A u := by
  have eb : (A 0 47).toNat = b := by rw [hb]; exact Int.toNat_natCast b
  have r2 : (0 : Int) ≤ A 11 b ∧ A 11 b ≤ 4 := hI 11 b
  obtain ⟨z1, hz1, h2⟩ := (hq.1 : tr_r_X12_key A u)
  rw [eb] at hz1
  have d1 : ∀ x, (x = 0 → z1 < 4) → d_X12_key_1 A u x → OB b A u := by
    intro x hx h2
    obtain ⟨_, z8, A9, hc, h2⟩ := (h2 : tr_d_X12_key_1 A u x)
    have q9 := hc.2.2.1.rq
    have g9 : OB b A A9 := OB.rq q9
    have rz := hc.2.2.2.2.1
    have pz := hc.2.2.2.2.2.1
    rcases h2 with ⟨c1, z14, hz14, h2⟩ | ⟨c1, rfl⟩
    · have lt := hx (pz (by clear h2; omega)).1
      rw [eb, q9 11 (by decide), ← hz1] at hz14
      obtain ⟨n, hn, hnL⟩ : ∃ n : Nat, z14 = (n : Int) ∧ n < 4 := ⟨z14.toNat, by clear h2; omega, by clear h2; omega⟩
      have ix : (4 * A 0 47 + z14).toNat = 4 * b + n := by rw [hb, hn]; omega
      obtain ⟨z15, A16, hf, A20, e20, z21, A22, hw, h2⟩ := h2
      have g16 := g9.cl hf.2.2.1
      rw [ix] at e20
      rw [ix, eb] at h2
      have g20 : OB b A A20 := by rw [e20]; exact (OB.st g16 (show (4 * b + n) / 4 = b by omega))
      have g22 := g20.cl hw.2.2.1
      rcases h2 with ⟨_, A27, e, hu⟩ | ⟨_, z28, _, A29, e, hu⟩
      · rw [hu, e]; exact (OB.st (OB.st g22 (show (4 * b + n) / 4 = b by omega)) (show (4 * b + n) / 4 = b by omega))
      · rw [hu, e]; exact (OB.st (OB.st (OB.st g22 (show (4 * b + n) / 4 = b by omega)) (show (4 * b + n) / 4 = b by omega)) (show b / 1 = b from Nat.div_one b))
    · exact g9
  rcases h2 with ⟨c, h2⟩ | ⟨c, h2⟩
  · exact d1 0 (fun _ => by clear h2; omega) h2
  · exact d1 1 (fun g => absurd g (by decide)) h2
theorem O_thing {b : Nat} {A u : St} (hI : IM A) (hb : A 0 47 = (b : Int)) (hq : q_X12_thing A u) : OB b A u := by
  have eb : (A 0 47).toNat = b := by rw [hb]; exact Int.toNat_natCast b
  have r2 : (0 : Int) ≤ A 19 b ∧ A 19 b ≤ 4 := hI 19 b
  obtain ⟨z1, hz1, h2⟩ := (hq.1 : tr_r_X12_thing A u)
  rw [eb] at hz1
  have d1 : ∀ x, (x = 0 → z1 < 4) → d_X12_thing_1 A u x → OB b A u := by
    intro x hx h2
    obtain ⟨_, z8, A9, hc, h2⟩ := (h2 : tr_d_X12_thing_1 A u x)
    have q9 := hc.2.2.1.rq
    have g9 : OB b A A9 := OB.rq q9
    have rz := hc.2.2.2.2.1
    have pz := hc.2.2.2.2.2.1
    rcases h2 with ⟨c1, z14, hz14, h2⟩ | ⟨c1, rfl⟩
    · have lt := hx (pz (by clear h2; omega)).1
      rw [eb, q9 19 (by decide), ← hz1] at hz14
      obtain ⟨n, hn, hnL⟩ : ∃ n : Nat, z14 = (n : Int) ∧ n < 4 := ⟨z14.toNat, by clear h2; omega, by clear h2; omega⟩
      have ix : (4 * A 0 47 + z14).toNat = 4 * b + n := by rw [hb, hn]; omega
      obtain ⟨z15, A16, hf, A20, e20, z21, A22, hw, h2⟩ := h2
      have g16 := g9.cl hf.2.2.1
      rw [ix] at e20
      rw [ix, eb] at h2
      have g20 : OB b A A20 := by rw [e20]; exact (OB.st g16 (show (4 * b + n) / 4 = b by omega))
      have g22 := g20.cl hw.2.2.1
      rcases h2 with ⟨_, A27, e, hu⟩ | ⟨_, z28, _, A29, e, hu⟩
      · rw [hu, e]; exact (OB.st g22 (show (4 * b + n) / 4 = b by omega))
      · rw [hu, e]; exact (OB.st (OB.st g22 (show (4 * b + n) / 4 = b by omega)) (show b / 1 = b from Nat.div_one b))
    · exact g9
  rcases h2 with ⟨c, h2⟩ | ⟨c, h2⟩
  · exact d1 0 (fun _ => by clear h2; omega) h2
  · exact d1 1 (fun g => absurd g (by decide)) h2
theorem O_person {b : Nat} {A u : St} (hI : IM A) (hb : A 0 47 = (b : Int)) (hq : q_X12_person A u) : OB b A u := by
  have eb : (A 0 47).toNat = b := by rw [hb]; exact Int.toNat_natCast b
  have r2 : (0 : Int) ≤ A 16 b ∧ A 16 b ≤ 3 := hI 16 b
  obtain ⟨z1, hz1, h2⟩ := (hq.1 : tr_r_X12_person A u)
  rw [eb] at hz1
  have d1 : ∀ x, (x = 0 → z1 < 3) → d_X12_person_1 A u x → OB b A u := by
    intro x hx h2
    obtain ⟨_, z8, A9, hc, h2⟩ := (h2 : tr_d_X12_person_1 A u x)
    have q9 := hc.2.2.1.rq
    have g9 : OB b A A9 := OB.rq q9
    have rz := hc.2.2.2.2.1
    have pz := hc.2.2.2.2.2.1
    rcases h2 with ⟨c1, z14, hz14, h2⟩ | ⟨c1, rfl⟩
    · have lt := hx (pz (by clear h2; omega)).1
      rw [eb, q9 16 (by decide), ← hz1] at hz14
      obtain ⟨n, hn, hnL⟩ : ∃ n : Nat, z14 = (n : Int) ∧ n < 3 := ⟨z14.toNat, by clear h2; omega, by clear h2; omega⟩
      have ix : (3 * A 0 47 + z14).toNat = 3 * b + n := by rw [hb, hn]; omega
      obtain ⟨z15, A16, hf, A20, e20, A21, hw, z25, A26, hk, h2⟩ := h2
      have g16 := g9.cl hf.2.2.1
      rw [ix] at e20
      rw [ix, eb] at h2
      have g20 : OB b A A20 := by rw [e20]; exact (OB.st g16 (show (3 * b + n) / 3 = b by omega))
      have g26 := (g20.cl hw.2.2.1).cl hk.2.2.1
      rcases h2 with ⟨_, A27, e, hu⟩ | ⟨_, z28, _, A29, e, hu⟩
      · rw [hu, e]; exact (OB.st g26 (show (3 * b + n) / 3 = b by omega))
      · rw [hu, e]; exact (OB.st (OB.st g26 (show (3 * b + n) / 3 = b by omega)) (show b / 1 = b from Nat.div_one b))
    · exact g9
  rcases h2 with ⟨c, h2⟩ | ⟨c, h2⟩
  · exact d1 0 (fun _ => by clear h2; omega) h2
  · exact d1 1 (fun g => absurd g (by decide)) h2
theorem O_must {b : Nat} {A u : St} (hI : IM A) (hb : A 0 47 = (b : Int)) (hq : q_X12_mustBe A u) : OB b A u := by
  have eb : (A 0 47).toNat = b := by rw [hb]; exact Int.toNat_natCast b
  have r2 : (0 : Int) ≤ A 25 b ∧ A 25 b ≤ 6 := hI 25 b
  obtain ⟨z1, hz1, h2⟩ := (hq.1 : tr_r_X12_mustBe A u)
  rw [eb] at hz1
  have d1 : ∀ x, (x = 0 → z1 < 6) → d_X12_mustBe_1 A u x → OB b A u := by
    intro x hx h2
    obtain ⟨_, z8, A9, hc, h2⟩ := (h2 : tr_d_X12_mustBe_1 A u x)
    have q9 := hc.2.2.1.rq
    have g9 : OB b A A9 := OB.rq q9
    have rz := hc.2.2.2.2.1
    have pz := hc.2.2.2.2.2.1
    rcases h2 with ⟨c1, z14, hz14, h2⟩ | ⟨c1, rfl⟩
    · have lt := hx (pz (by clear h2; omega)).1
      rw [eb, q9 25 (by decide), ← hz1] at hz14
      obtain ⟨n, hn, hnL⟩ : ∃ n : Nat, z14 = (n : Int) ∧ n < 6 := ⟨z14.toNat, by clear h2; omega, by clear h2; omega⟩
      have ix : (6 * A 0 47 + z14).toNat = 6 * b + n := by rw [hb, hn]; omega
      obtain ⟨z15, A16, hf, A20, e20, z21, A22, hw, z26, _, A27, e27, z28, A29, hk, h2⟩ := h2
      have g16 := g9.cl hf.2.2.1
      rw [ix] at e20 e27
      rw [ix, eb] at h2
      have g20 : OB b A A20 := by rw [e20]; exact (OB.st g16 (show (6 * b + n) / 6 = b by omega))
      have g22 := g20.cl hw.2.2.1
      have g27 : OB b A A27 := by rw [e27]; exact (OB.st g22 (show (6 * b + n) / 6 = b by omega))
      have g29 := g27.cl hk.2.2.1
      rcases h2 with ⟨_, A34, e, hu⟩ | ⟨_, z35, _, A36, e, hu⟩
      · rw [hu, e]; exact (OB.st g29 (show (6 * b + n) / 6 = b by omega))
      · rw [hu, e]; exact (OB.st (OB.st g29 (show (6 * b + n) / 6 = b by omega)) (show b / 1 = b from Nat.div_one b))
    · exact g9
  rcases h2 with ⟨c, h2⟩ | ⟨c, h2⟩
  · exact d1 0 (fun _ => by clear h2; omega) h2
  · exact d1 1 (fun g => absurd g (by decide)) h2
theorem O_door {b : Nat} {A u : St} (hI : IM A) (hb : A 0 47 = (b : Int)) (hq : q_X12_door 0 A u) : OB b A u := by
  have eb : (A 0 47).toNat = b := by rw [hb]; exact Int.toNat_natCast b
  have r2 : (0 : Int) ≤ A 4 b ∧ A 4 b ≤ 10 := hI 4 b
  obtain ⟨z1, hz1, h2⟩ : ∃ z1 : Int, z1 = A 4 ((A 0 47)).toNat ∧ (((¬ z1 = 10) ∧ (d_X12_door_1 A u 0)) ∨ ((z1 = 10) ∧ (d_X12_door_1 A u 1))) := by
    rcases (hq.1 : tr_r_X12_door 0 A u) with ⟨_, h2⟩ | ⟨c, _⟩
    · exact h2
    · exact absurd c (by decide)
  rw [eb] at hz1
  have d1 : ∀ x, (x = 0 → z1 < 10) → d_X12_door_1 A u x → OB b A u := by
    intro x hx h2
    obtain ⟨_, z8, A9, hc, h2⟩ := (h2 : tr_d_X12_door_1 A u x)
    have q9 := hc.2.2.1.rq
    have g9 : OB b A A9 := OB.rq q9
    have rz := hc.2.2.2.2.1
    have pz := hc.2.2.2.2.2.1
    rcases h2 with ⟨c1, z14, hz14, h2⟩ | ⟨c1, rfl⟩
    · have lt := hx (pz (by clear h2; omega)).1
      rw [eb, q9 4 (by decide), ← hz1] at hz14
      obtain ⟨n, hn, hnL⟩ : ∃ n : Nat, z14 = (n : Int) ∧ n < 10 := ⟨z14.toNat, by clear h2; omega, by clear h2; omega⟩
      have ix : (10 * A 0 47 + z14).toNat = 10 * b + n := by rw [hb, hn]; omega
      obtain ⟨z15, A16, hf, A20, e20, z22, A23, hk1, A27, e27, z29, _, A30, hbr, z34, A35, hk2, A39, e39, z41, A42, hk3, h2⟩ := h2
      have g16 := g9.cl hf.2.2.1
      rw [ix] at e20 e27 e39
      rw [ix, eb] at h2
      have g20 : OB b A A20 := by rw [e20]; exact (OB.st g16 (show (10 * b + n) / 10 = b by omega))
      have g23 := g20.cl hk1.2.2.1
      have g27 : OB b A A27 := by rw [e27]; exact (OB.st g23 (show (10 * b + n) / 10 = b by omega))
      have g35 := (g27.cl hbr.2.2.1).cl hk2.2.2.1
      have g39 : OB b A A39 := by rw [e39]; exact (OB.st (OB.st g35 (show (10 * b + n) / 10 = b by omega)) (show (10 * b + n) / 10 = b by omega))
      have g42 := g39.cl hk3.2.2.1
      rcases h2 with ⟨_, A47, e, hu⟩ | ⟨_, z48, _, A49, e, hu⟩
      · rw [hu, e]; exact (OB.st (OB.st g42 (show (10 * b + n) / 10 = b by omega)) (show (10 * b + n) / 10 = b by omega))
      · rw [hu, e]; exact (OB.st (OB.st (OB.st g42 (show (10 * b + n) / 10 = b by omega)) (show (10 * b + n) / 10 = b by omega)) (show b / 1 = b from Nat.div_one b))
    · exact g9
  rcases h2 with ⟨c, h2⟩ | ⟨c, h2⟩
  · exact d1 0 (fun _ => by clear h2; omega) h2
  · exact d1 1 (fun g => absurd g (by decide)) h2
theorem O_box {b : Nat} {A u : St} (hI : IM A) (hb : A 0 47 = (b : Int)) (hq : q_X12_door 1 A u) : OB b A u := by
  have eb : (A 0 47).toNat = b := by rw [hb]; exact Int.toNat_natCast b
  have r2 : (0 : Int) ≤ A 4 b ∧ A 4 b ≤ 10 := hI 4 b
  obtain ⟨z1, hz1, h2⟩ : ∃ z1 : Int, z1 = A 4 ((A 0 47)).toNat ∧ (((¬ z1 = 10) ∧ (d_X12_door_2 A u 0)) ∨ ((z1 = 10) ∧ (d_X12_door_2 A u 1))) := by
    rcases (hq.1 : tr_r_X12_door 1 A u) with ⟨c, _⟩ | ⟨_, h2⟩
    · exact absurd c (by decide)
    · exact h2
  rw [eb] at hz1
  have d1 : ∀ x, (x = 0 → z1 < 10) → d_X12_door_2 A u x → OB b A u := by
    intro x hx h2
    obtain ⟨_, z8, A9, hc, h2⟩ := (h2 : tr_d_X12_door_2 A u x)
    have q9 := hc.2.2.1.rq
    have g9 : OB b A A9 := OB.rq q9
    have rz := hc.2.2.2.2.1
    have pz := hc.2.2.2.2.2.1
    rcases h2 with ⟨c1, z14, hz14, h2⟩ | ⟨c1, rfl⟩
    · have lt := hx (pz (by clear h2; omega)).1
      rw [eb, q9 4 (by decide), ← hz1] at hz14
      obtain ⟨n, hn, hnL⟩ : ∃ n : Nat, z14 = (n : Int) ∧ n < 10 := ⟨z14.toNat, by clear h2; omega, by clear h2; omega⟩
      have ix : (10 * A 0 47 + z14).toNat = 10 * b + n := by rw [hb, hn]; omega
      obtain ⟨z15, A16, hf, A20, e20, A21, hw2, z25, A26, hk2, A80, e80, z83, _, A84, e84, h2⟩ := h2
      have g16 := g9.cl hf.2.2.1
      rw [ix] at e20 e80 e84
      rw [ix, eb] at h2
      have g20 : OB b A A20 := by rw [e20]; exact (OB.st g16 (show (10 * b + n) / 10 = b by omega))
      have g26 := (g20.cl hw2.2.2.1).cl hk2.2.2.1
      have g80 : OB b A A80 := by rw [e80]; exact (OB.st g26 (show (10 * b + n) / 10 = b by omega))
      have g84 : OB b A A84 := by rw [e84]; exact (OB.st (OB.st g80 (show (10 * b + n) / 10 = b by omega)) (show (10 * b + n) / 10 = b by omega))
      rcases h2 with ⟨_, A87, e, hu⟩ | ⟨_, z88, _, A89, e, hu⟩
      · rw [hu, e]; exact (OB.st (OB.st g84 (show (10 * b + n) / 10 = b by omega)) (show (10 * b + n) / 10 = b by omega))
      · rw [hu, e]; exact (OB.st (OB.st (OB.st g84 (show (10 * b + n) / 10 = b by omega)) (show (10 * b + n) / 10 = b by omega)) (show b / 1 = b from Nat.div_one b))
    · exact g9
  rcases h2 with ⟨c, h2⟩ | ⟨c, h2⟩
  · exact d1 0 (fun _ => by clear h2; omega) h2
  · exact d1 1 (fun g => absurd g (by decide)) h2
theorem O_wants {b : Nat} {A u : St} (hI : IM A) (hb : A 0 47 = (b : Int)) (hq : q_X12_wanting A u) : OB b A u := by
  have eb : (A 0 47).toNat = b := by rw [hb]; exact Int.toNat_natCast b
  have r2 : (0 : Int) ≤ A 22 b ∧ A 22 b ≤ 6 := hI 22 b
  obtain ⟨z1, hz1, h2⟩ := (hq.1 : tr_r_X12_wanting A u)
  rw [eb] at hz1
  have d1 : ∀ x, (x = 0 → z1 < 6) → d_X12_wanting_1 A u x → OB b A u := by
    intro x hx h2
    obtain ⟨_, z8, A9, hc, h2⟩ := (h2 : tr_d_X12_wanting_1 A u x)
    have q9 := hc.2.2.1.rq
    have g9 : OB b A A9 := OB.rq q9
    have rz := hc.2.2.2.2.1
    have pz := hc.2.2.2.2.2.1
    rcases h2 with ⟨c1, z14, hz14, h2⟩ | ⟨c1, rfl⟩
    · have lt := hx (pz (by clear h2; omega)).1
      rw [eb, q9 22 (by decide), ← hz1] at hz14
      obtain ⟨n, hn, hnL⟩ : ∃ n : Nat, z14 = (n : Int) ∧ n < 6 := ⟨z14.toNat, by clear h2; omega, by clear h2; omega⟩
      have ix : (6 * A 0 47 + z14).toNat = 6 * b + n := by rw [hb, hn]; omega
      have f7 : ∀ A64 : St, OB b A A64 → d_X12_wanting_7 z14 A A64 u → OB b A u := by
        intro A64 g h3
        obtain ⟨z90, A91, hk, A95, e95, h3⟩ := (h3 : tr_d_X12_wanting_7 z14 A A64 u)
        have g91 := g.cl hk.2.2.1
        rw [ix] at e95
        rw [eb] at h3
        have g95 : OB b A A95 := by rw [e95]; exact (OB.st g91 (show (6 * b + n) / 6 = b by omega))
        rcases h3 with ⟨_, hu⟩ | ⟨_, z97, _, A101, e, hu⟩
        · rw [hu]; exact g95
        · rw [hu, e]; exact (OB.st g95 (show b / 1 = b from Nat.div_one b))
      have f5 : ∀ (nn : Nat) (i : Int) (A64 : St), OB b A A64 → d_X12_wanting_5 z14 A u nn i A64 → OB b A u := by
        intro nn
        induction nn with
        | zero => intro i A64 _ h3; exact h3.elim
        | succ nn ih =>
          intro i A64 g h3
          obtain ⟨_, _, h3⟩ := (h3 : tr_d_X12_wanting_5 z14 A u (fun z62 A64 => d_X12_wanting_5 z14 A u nn z62 A64) i A64)
          rcases h3 with ⟨_, h3⟩ | ⟨_, h3⟩
          · exact f7 A64 g h3
          · rcases h3 with ⟨_, h3⟩ | ⟨_, z77, _, z78, _, h3⟩
            · exact f7 A64 g h3
            · rcases h3 with ⟨_, h3⟩ | ⟨_, z81, _, A82, hbr, h3⟩
              · obtain ⟨_, h3⟩ := (h3 : tr_d_X12_wanting_6 (fun z62 A64 => d_X12_wanting_5 z14 A u nn z62 A64) i u A64)
                exact ih _ _ g h3
              · obtain ⟨_, h3⟩ := (h3 : tr_d_X12_wanting_6 (fun z62 A64 => d_X12_wanting_5 z14 A u nn z62 A64) i u A82)
                exact ih _ _ (g.cl hbr.2.2.1) h3
      have f4 : ∀ A52 : St, OB b A A52 → d_X12_wanting_4 z14 A u A52 → OB b A u := by
        intro A52 g h3
        obtain ⟨_, z55, A56, hk, A60, e60, nn, h3⟩ := (h3 : tr_d_X12_wanting_4 z14 A u A52)
        have g56 := g.cl hk.2.2.1
        rw [ix] at e60
        refine f5 nn _ A60 ?_ h3
        rw [e60]; exact (OB.st g56 (show (6 * b + n) / 6 = b by omega))
      have f3 : ∀ (nn : Nat) (v i zc : Int), d_X12_wanting_3 z14 v A A9 u nn i zc → OB b A u := by
        intro nn
        induction nn with
        | zero => intro v i zc h3; exact h3.elim
        | succ nn ih =>
          intro v i zc h3
          obtain ⟨_, _, h3⟩ := (h3 : tr_d_X12_wanting_3 z14 v A A9 u (fun z30 z31 => d_X12_wanting_3 z14 v A A9 u nn z30 z31) i zc)
          rcases h3 with ⟨_, h3⟩ | ⟨_, z103, _, h3⟩
          · rcases h3 with ⟨_, h3⟩ | ⟨_, h3⟩
            · exact f4 A9 g9 h3
            · rcases h3 with ⟨_, h3⟩ | ⟨_, A48, hbl, h3⟩
              · exact f4 A9 g9 h3
              · exact f4 A48 (g9.cl hbl.2.2.1) h3
          · rcases h3 with ⟨_, h3⟩ | ⟨_, h3⟩
            · obtain ⟨_, h3⟩ := (h3 : tr_d_X12_wanting_8 (fun z30 z31 => d_X12_wanting_3 z14 v A A9 u nn z30 z31) i zc u 0)
              exact ih _ _ _ h3
            · obtain ⟨_, h3⟩ := (h3 : tr_d_X12_wanting_8 (fun z30 z31 => d_X12_wanting_3 z14 v A A9 u nn z30 z31) i zc u 1)
              exact ih _ _ _ h3
      have f2 : ∀ v : Int, d_X12_wanting_2 z14 A A9 u v → OB b A u := by
        intro v h3
        obtain ⟨_, nn, h3⟩ := (h3 : tr_d_X12_wanting_2 z14 A A9 u v)
        exact f3 nn v _ _ h3
      rcases h2 with ⟨_, h2⟩ | ⟨_, h2⟩
      · exact f2 _ h2
      · rcases h2 with ⟨_, h2⟩ | ⟨_, z19, _, h2⟩
        · exact f2 _ h2
        · rcases h2 with ⟨_, h2⟩ | ⟨_, z23, _, h2⟩
          · exact f2 _ h2
          · exact f2 _ h2
    · exact g9
  rcases h2 with ⟨c, h2⟩ | ⟨c, h2⟩
  · exact d1 0 (fun _ => by clear h2; omega) h2
  · exact d1 1 (fun g => absurd g (by decide)) h2
theorem O_bar {b : Nat} {A u : St} (hI : IM A) (hb : A 0 47 = (b : Int)) (hq : q_X12_barring A u) : OB b A u := by
  have eb : (A 0 47).toNat = b := by rw [hb]; exact Int.toNat_natCast b
  have r2 : (0 : Int) ≤ A 29 b ∧ A 29 b ≤ 6 := hI 29 b
  obtain ⟨z1, hz1, h2⟩ := (hq.1 : tr_r_X12_barring A u)
  rw [eb] at hz1
  have d1 : ∀ x, (x = 0 → z1 < 6) → d_X12_barring_1 A u x → OB b A u := by
    intro x hx h2
    obtain ⟨_, z8, A9, hc, h2⟩ := (h2 : tr_d_X12_barring_1 A u x)
    have q9 := hc.2.2.1.rq
    have g9 : OB b A A9 := OB.rq q9
    have rz := hc.2.2.2.2.1
    have pz := hc.2.2.2.2.2.1
    rcases h2 with ⟨c1, z14, hz14, h2⟩ | ⟨c1, rfl⟩
    · have lt := hx (pz (by clear h2; omega)).1
      rw [eb, q9 29 (by decide), ← hz1] at hz14
      obtain ⟨n, hn, hnL⟩ : ∃ n : Nat, z14 = (n : Int) ∧ n < 6 := ⟨z14.toNat, by clear h2; omega, by clear h2; omega⟩
      have ix : (6 * A 0 47 + z14).toNat = 6 * b + n := by rw [hb, hn]; omega
      have f5 : ∀ A76 : St, OB b A A76 → d_X12_barring_5 z14 A u A76 → OB b A u := by
        intro A76 g h3
        obtain ⟨_, A80, e, h3⟩ := (h3 : tr_d_X12_barring_5 z14 A u A76)
        rw [ix] at e
        rw [eb] at h3
        have g80 : OB b A A80 := by rw [e]; exact (OB.st g (show (6 * b + n) / 6 = b by omega))
        rcases h3 with ⟨_, hu⟩ | ⟨_, z97, _, A98, e98, hu⟩
        · rw [hu]; exact g80
        · rw [hu, e98]; exact (OB.st g80 (show b / 1 = b from Nat.div_one b))
      have f4 : ∀ A39 : St, OB b A A39 → d_X12_barring_4 z14 A u A39 → OB b A u := by
        intro A39 g h3
        obtain ⟨_, z41, A42, hk, A46, e46, A47, hwd, A51, e51, h3⟩ := (h3 : tr_d_X12_barring_4 z14 A u A39)
        rw [ix] at e46 e51
        have g42 := g.cl hk.2.2.1
        have g46 : OB b A A46 := by rw [e46]; exact (OB.st g42 (show (6 * b + n) / 6 = b by omega))
        have g47 := g46.cl hwd.2.2.1
        have g51 : OB b A A51 := by rw [e51]; exact (OB.st g47 (show (6 * b + n) / 6 = b by omega))
        rcases h3 with ⟨_, h3⟩ | ⟨_, A71, hre, h3⟩
        · exact f5 A51 g51 h3
        · refine f5 A71 (g51.r32 hre.2.2.1 (fun j h0 h1 => ?_)) h3
          have : ∀ k : Fin 33, ([33, 34, 35, 36, 37, 38, 39, 40] : List Nat).contains k.val = false := by decide
          exact this ⟨j, by omega⟩
      have f3 : ∀ v : Int, d_X12_barring_3 z14 A A9 u v → OB b A u := by
        intro v h3
        obtain ⟨_, h3⟩ := (h3 : tr_d_X12_barring_3 z14 A A9 u v)
        rcases h3 with ⟨_, h3⟩ | ⟨_, z33, _, h3⟩
        · exact f4 A9 g9 h3
        · rcases h3 with ⟨_, h3⟩ | ⟨_, A35, hbl, h3⟩
          · exact f4 A9 g9 h3
          · exact f4 A35 (g9.cl hbl.2.2.1) h3
      rcases h2 with ⟨_, h2⟩ | ⟨_, h2⟩
      · exact f3 (-1) h2
      · rcases h2 with ⟨_, h2⟩ | ⟨_, z20, _, h2⟩
        · exact f3 (-1) h2
        · rcases h2 with ⟨_, h2⟩ | ⟨_, z24, _, h2⟩
          · exact f3 (-1) h2
          · exact f3 _ h2
    · exact g9
  rcases h2 with ⟨c, h2⟩ | ⟨c, h2⟩
  · exact d1 0 (fun _ => by clear h2; omega) h2
  · exact d1 1 (fun g => absurd g (by decide)) h2
theorem O_has {b : Nat} {A u : St} (hb : A 0 47 = (b : Int)) (hq : q_X12_having A u) : OB b A u := by
  obtain ⟨z1, A2, hc, h2⟩ := (hq.1 : tr_r_X12_having A u)
  have g2 : OB b A A2 := OB.rq hc.2.2.1.rq
  rcases h2 with ⟨_, z7, A8, hk, h2⟩ | ⟨_, rfl⟩
  · have g8 := g2.cl hk.2.2.1
    have f3 : ∀ A35 : St, OB b A A35 → d_X12_having_3 z7 A u A35 → OB b A u := by
      intro A35 g h3
      obtain ⟨_, z37, A38, hk2, h3⟩ := (h3 : tr_d_X12_having_3 z7 A u A35)
      have g38 := g.cl hk2.2.2.1
      have p1 := hk2.2.2.2.2.1
      have p2 := hk2.2.2.2.2.2.1
      rcases h3 with ⟨_, hu⟩ | ⟨_, A43, e, hu⟩
      · rw [hu]; exact g38
      · rw [hu, e]
        exact OB.st g38 (show (4 * A 0 47 + z37).toNat / 4 = b by rw [hb]; omega)
    have f2 : ∀ v : Int, d_X12_having_2 z7 A A8 u v → OB b A u := by
      intro v h3
      obtain ⟨_, h3⟩ := (h3 : tr_d_X12_having_2 z7 A A8 u v)
      rcases h3 with ⟨_, h3⟩ | ⟨_, z29, _, h3⟩
      · exact f3 A8 g8 h3
      · rcases h3 with ⟨_, h3⟩ | ⟨_, A31, hbl, h3⟩
        · exact f3 A8 g8 h3
        · exact f3 A31 (g8.cl hbl.2.2.1) h3
    rcases h2 with ⟨_, h2⟩ | ⟨_, h2⟩
    · exact f2 (-1) h2
    · rcases h2 with ⟨_, h2⟩ | ⟨_, z16, _, h2⟩
      · exact f2 (-1) h2
      · rcases h2 with ⟨_, h2⟩ | ⟨_, z20, _, h2⟩
        · exact f2 (-1) h2
        · exact f2 _ h2
  · exact g2
theorem O_lost {b : Nat} {A u : St} (hb : A 0 47 = (b : Int)) (hq : q_X12_losing A u) : OB b A u := by
  obtain ⟨z1, A2, hc, h2⟩ := (hq.1 : tr_r_X12_losing A u)
  have g2 : OB b A A2 := OB.rq hc.2.2.1.rq
  rcases h2 with ⟨_, h2⟩ | ⟨_, rfl⟩
  · have f3 : ∀ A35 : St, OB b A A35 → d_X12_losing_3 A u A35 → OB b A u := by
      intro A35 g h3
      obtain ⟨_, z37, A38, hk2, h3⟩ := (h3 : tr_d_X12_losing_3 A u A35)
      have g38 := g.cl hk2.2.2.1
      have p1 := hk2.2.2.2.2.1
      have p2 := hk2.2.2.2.2.2.1
      rcases h3 with ⟨_, hu⟩ | ⟨_, A43, e, hu⟩
      · rw [hu]; exact g38
      · rw [hu, e]
        exact OB.st g38 (show (10 * A 0 47 + z37).toNat / 10 = b by rw [hb]; omega)
    have f2 : ∀ v : Int, d_X12_losing_2 A A2 u v → OB b A u := by
      intro v h3
      obtain ⟨_, h3⟩ := (h3 : tr_d_X12_losing_2 A A2 u v)
      rcases h3 with ⟨_, h3⟩ | ⟨_, z29, _, h3⟩
      · exact f3 A2 g2 h3
      · rcases h3 with ⟨_, h3⟩ | ⟨_, A31, hbl, h3⟩
        · exact f3 A2 g2 h3
        · exact f3 A31 (g2.cl hbl.2.2.1) h3
    rcases h2 with ⟨_, h2⟩ | ⟨_, h2⟩
    · exact f2 (-1) h2
    · rcases h2 with ⟨_, h2⟩ | ⟨_, z16, _, h2⟩
      · exact f2 (-1) h2
      · rcases h2 with ⟨_, h2⟩ | ⟨_, z20, _, h2⟩
        · exact f2 (-1) h2
        · exact f2 _ h2
  · exact g2
theorem shL_ob {b : Nat} {z7 : Int} {A u B : St} (hb : A 0 47 = (b : Int)) (g : OB b A B) (h : shL z7 A u B) : OB b A u := by
  obtain ⟨z18, A19, hk, h⟩ := h
  have g19 := g.cl hk.2.2.1
  have p1 := hk.2.2.2.2.1
  have p2 := hk.2.2.2.2.2.1
  rcases h with ⟨_, z24, hz24, z25, _, A26, e, hu⟩ | ⟨_, hu⟩
  · have r : (0 : Int) ≤ A19 14 (4 * A 0 47 + z18).toNat ∧ A19 14 (4 * A 0 47 + z18).toNat ≤ 6 := hk.2.1 14 _
    rw [← hz24] at r
    rw [hu, e]
    exact OB.st (OB.st g19 (show (40 * A 0 47 + 10 * z18 + z24).toNat / 40 = b by rw [hb]; omega)) (show (4 * A 0 47 + z18).toNat / 4 = b by rw [hb]; omega)
  · rw [hu]; exact g19
theorem O_shut {b : Nat} {A u : St} (hb : A 0 47 = (b : Int)) (hq : q_X12_shutting A u) : OB b A u := by
  obtain ⟨z1, A2, hc, h2⟩ := (hq.1 : tr_r_X12_shutting A u)
  have g2 : OB b A A2 := OB.rq hc.2.2.1.rq
  rcases h2 with ⟨_, z7, A8, hk, A12, hwd, h2⟩ | ⟨_, rfl⟩
  · have g12 := (g2.cl hk.2.2.1).cl hwd.2.2.1
    rcases h2 with ⟨_, h2⟩ | ⟨_, h2⟩
    · exact shL_ob hb g12 h2
    · rcases h2 with ⟨_, h2⟩ | ⟨_, z38, _, h2⟩
      · exact shL_ob hb g12 h2
      · rcases h2 with ⟨_, h2⟩ | ⟨_, z52, _, h2⟩
        · exact shL_ob hb g12 h2
        · rcases h2 with ⟨_, h2⟩ | ⟨_, z65, _, h2⟩
          · exact shL_ob hb g12 h2
          · rcases h2 with ⟨_, A69, hbl, h2⟩ | ⟨_, z81, _, h2⟩
            · exact shL_ob hb (g12.cl hbl.2.2.1) h2
            · rcases h2 with ⟨_, h2⟩ | ⟨_, A92, hbl, h2⟩
              · exact shL_ob hb g12 h2
              · exact shL_ob hb (g12.cl hbl.2.2.1) h2
  · exact g2
theorem O_others {b : Nat} {A u : St} (hI : IM A) (hb : A 0 47 = (b : Int)) (hq : q_X12_others A u) : OB b A u := by
  obtain ⟨z1, _, h2⟩ := (hq.1 : tr_r_X12_others A u)
  rcases h2 with ⟨_, z5, _, h2⟩ | ⟨_, B, hs, hu⟩
  · rcases h2 with ⟨_, z9, _, h2⟩ | ⟨_, B, hs, hu⟩
    · rcases h2 with ⟨_, z13, _, h2⟩ | ⟨_, B, hs, hu⟩
      · rcases h2 with ⟨_, z17, _, h2⟩ | ⟨_, B, hs, hu⟩
        · rcases h2 with ⟨_, z21, _, h2⟩ | ⟨_, B, hs, hu⟩
          · rcases h2 with ⟨_, B, hs, hu⟩ | ⟨_, B, hs, hu⟩
            · rw [hu]; exact OB.rf.cl hs.2.2.1
            · rw [hu]; exact O_bar hI hb hs
          · rw [hu]; exact O_must hI hb hs
        · rw [hu]; exact O_wants hI hb hs
      · rw [hu]; exact O_thing hI hb hs
    · rw [hu]; exact O_lost hb hs
  · rw [hu]; exact O_shut hb hs
theorem O_statement {b : Nat} {A u : St} (hI : IM A) (hb : A 0 47 = (b : Int)) (hq : q_X12_statement A u) : OB b A u := by
  have fin : ∀ B : St, OB b A B → d_X12_statement_1 u B → OB b A u := by
    intro B g h3
    obtain ⟨_, h3⟩ := (h3 : tr_d_X12_statement_1 u B)
    rcases h3 with ⟨_, hu⟩ | ⟨_, A62, hm, hu⟩
    · rw [hu]; exact g
    · rw [hu]; exact g.cl hm.2.2.1
  obtain ⟨z1, _, h2⟩ := (hq.1 : tr_r_X12_statement A u)
  rcases h2 with ⟨_, z5, _, h2⟩ | ⟨_, B, hs, h3⟩
  · rcases h2 with ⟨_, z9, _, h2⟩ | ⟨_, B, hs, h3⟩
    · rcases h2 with ⟨_, z13, _, h2⟩ | ⟨_, B, hs, h3⟩
      · rcases h2 with ⟨_, z17, _, h2⟩ | ⟨_, B, hs, h3⟩
        · rcases h2 with ⟨_, z21, _, h2⟩ | ⟨_, B, hs, h3⟩
          · rcases h2 with ⟨_, B, hs, h3⟩ | ⟨_, B, hs, h3⟩
            · exact fin B (O_others hI hb hs) h3
            · exact fin B (O_has hb hs) h3
          · exact fin B (O_person hI hb hs) h3
        · exact fin B (O_key hI hb hs) h3
      · exact fin B (O_box hI hb hs) h3
    · exact fin B (O_door hI hb hs) h3
  · exact fin B (O_place hI hb hs) h3
/-! What stands fast of both towns: the tables that acts leave alone. -/
def MRs (b : Nat) (A T : St) : Prop := NKA b A T ∧ MCn b A T ∧ TD T ∧ NB b A T ∧ MDr b A T ∧ MLs b A T ∧ MTn b A T ∧ MWn b A T ∧ MMu b A T ∧ MBa b A T
theorem MR.s {b : Nat} {A T : St} (h : MR b A T) : MRs b A T := by
  obtain ⟨h1, h2, h3, h4, h5, h6, _, _, h9, h10, h11, h12⟩ := h
  exact ⟨h1, h2, h3, h4, h5, h6, h9, h10, h11, h12⟩
theorem ct_cg {f g : Nat → Int} {s : Nat} {p : Int} : ∀ n, (∀ k, k < n → f (s + k) = g (s + k)) → ct f s p n = ct g s p n := by
  intro n
  induction n with
  | zero => intro _; rfl
  | succ n ih =>
    intro h
    show ct f s p n + (if f (s + n) = p then 1 else 0) = ct g s p n + (if g (s + n) = p then 1 else 0)
    rw [ih (fun k hk => h k (by omega)), h n (by omega)]
theorem MRs.ob {b o : Nat} {A u T : St} (hI : IM A) (h : MRs o A T) (g : OB b A u) (ne : o ≠ b) : MRs o u T := by
  have e : ∀ (j m k : Nat), j ≠ 0 → j ≤ 32 → bnk j = m → 0 < m → k < m → u j (m * o + k) = A j (m * o + k) := by
    intro j m k h0 h1 hm hp hk
    refine g j h0 h1 _ ?_
    rw [hm, Nat.mul_add_div hp, Nat.div_eq_of_lt hk]
    omega
  have c1 : ∀ j, j ≠ 0 → j ≤ 32 → bnk j = 1 → u j o = A j o := by
    intro j h0 h1 hm
    have := e j 1 0 h0 h1 hm (by decide) (by decide)
    rw [show 1 * o + 0 = o by omega] at this
    exact this
  have r0 : A 2 o ≤ 8 := (hI 2 o).2
  have r1 : A 4 o ≤ 10 := (hI 4 o).2
  have r2 : A 11 o ≤ 4 := (hI 11 o).2
  have r3 : A 16 o ≤ 3 := (hI 16 o).2
  have r4 : A 19 o ≤ 4 := (hI 19 o).2
  have r5 : A 22 o ≤ 6 := (hI 22 o).2
  have r6 : A 25 o ≤ 6 := (hI 25 o).2
  have r7 : A 29 o ≤ 6 := (hI 29 o).2
  obtain ⟨⟨k0, k1, k2, k3, k4⟩, hc, ht, hB, hd, hl, hh, hwn, hm, hb⟩ := h
  have t0 := k0.1
  have t1 := k1.1
  have t2 := k2.1
  have t3 := k3.1
  have t4 := k4.1
  have t5 := hc.1
  have t6 := hc.2.1
  have t7 := hc.2.2
  refine ⟨⟨⟨(c1 2 (by decide) (by decide) rfl).trans t0, ?_⟩, ⟨(c1 4 (by decide) (by decide) rfl).trans t1, ?_⟩, ⟨(c1 11 (by decide) (by decide) rfl).trans t2, ?_⟩, ⟨(c1 16 (by decide) (by decide) rfl).trans t3, ?_⟩, ⟨(c1 19 (by decide) (by decide) rfl).trans t4, ?_⟩⟩, ⟨(c1 22 (by decide) (by decide) rfl).trans t5, (c1 25 (by decide) (by decide) rfl).trans t6, (c1 29 (by decide) (by decide) rfl).trans t7⟩, ht, ?_, ?_, ⟨hl.1, ?_, hl.2.2⟩, ?_, ?_, ?_, ?_⟩
  · intro j hj; rw [e 3 8 j (by decide) (by decide) rfl (by decide) (by omega)]; exact k0.2 j hj
  · intro j hj; rw [e 5 10 j (by decide) (by decide) rfl (by decide) (by omega)]; exact k1.2 j hj
  · intro j hj; rw [e 12 4 j (by decide) (by decide) rfl (by decide) (by omega)]; exact k2.2 j hj
  · intro j hj; rw [e 17 3 j (by decide) (by decide) rfl (by decide) (by omega)]; exact k3.2 j hj
  · intro j hj; rw [e 20 4 j (by decide) (by decide) rfl (by decide) (by omega)]; exact k4.2 j hj
  · intro k hk; rw [e 8 10 k (by decide) (by decide) rfl (by decide) (by omega)]; exact hB k hk
  · intro k hk; rw [e 6 10 k (by decide) (by decide) rfl (by decide) (by omega), e 7 10 k (by decide) (by decide) rfl (by decide) (by omega), e 9 10 k (by decide) (by decide) rfl (by decide) (by omega)]; exact hd k hk
  · intro k hk; rw [e 10 10 k (by decide) (by decide) rfl (by decide) (by omega)]; exact hl.2.1 k hk
  · intro k hk; rw [e 21 4 k (by decide) (by decide) rfl (by decide) (by omega)]; exact hh k hk
  · intro p hp
    have w := hwn p hp
    refine ⟨w.1, ?_, fun t ht4 => ?_⟩
    · rw [ct_cg (g := A 23) _ (fun k hk => e 23 6 k (by decide) (by decide) rfl (by decide) (by omega))]
      exact w.2.1
    · rw [w.2.2 t ht4]
      constructor
      · rintro ⟨i, hi, g1, g2⟩
        exact ⟨i, hi, by rw [e 23 6 i (by decide) (by decide) rfl (by decide) (by omega)]; exact g1, by rw [e 24 6 i (by decide) (by decide) rfl (by decide) (by omega)]; exact g2⟩
      · rintro ⟨i, hi, g1, g2⟩
        rw [e 23 6 i (by decide) (by decide) rfl (by decide) (by omega)] at g1
        rw [e 24 6 i (by decide) (by decide) rfl (by decide) (by omega)] at g2
        exact ⟨i, hi, g1, g2⟩
  · intro k hk; rw [e 26 6 k (by decide) (by decide) rfl (by decide) (by omega), e 27 6 k (by decide) (by decide) rfl (by decide) (by omega), e 28 6 k (by decide) (by decide) rfl (by decide) (by omega)]; exact hm k hk
  · intro k hk; rw [e 30 6 k (by decide) (by decide) rfl (by decide) (by omega)]; exact hb k hk
def statT : List Nat := [1, 3, 4, 5, 6, 7, 8, 9, 10, 11, 12, 13, 14, 15, 16]
def statM : List Nat := [2, 3, 4, 5, 6, 7, 8, 9, 10, 11, 12, 16, 17, 19, 20, 21, 22, 23, 24, 25, 26, 27, 28, 29, 30]
theorem MRs.cg {b : Nat} {A A2 T T2 : St} (h : MRs b A T) (hA : ∀ j, statM.contains j = true → A2 j = A j) (hT : ∀ j, statT.contains j = true → T2 j = T j) (h15 : T2 0 15 = T 0 15) : MRs b A2 T2 := by
  have eA : A2 = fun j => bif statM.contains j then A j else A2 j := by
    funext j
    cases hc : statM.contains j with
    | false => rfl
    | true => exact hA j hc
  have eT : T2 = fun j => bif statT.contains j then T j else T2 j := by
    funext j
    cases hc : statT.contains j with
    | false => rfl
    | true => exact hT j hc
  obtain ⟨h1, h2, h3, h4, h5, h6, h9, h10, h11, h12⟩ := h
  have l : MLs b A2 T2 := by
    unfold MLs
    rw [h15]
    rw [eA, eT]
    exact h6
  have rest : NKA b A2 T2 ∧ MCn b A2 T2 ∧ TD T2 ∧ NB b A2 T2 ∧ MDr b A2 T2 ∧ MTn b A2 T2 ∧ MWn b A2 T2 ∧ MMu b A2 T2 ∧ MBa b A2 T2 := by
    rw [eA, eT]
    exact ⟨h1, h2, h3, h4, h5, h9, h10, h11, h12⟩
  obtain ⟨g1, g2, g3, g4, g5, g9, g10, g11, g12⟩ := rest
  exact ⟨g1, g2, g3, g4, g5, l, g9, g10, g11, g12⟩
/-- the present towns of both have the same tables -/
def PSs (B A : St) : Prop := (B 0 9 + B 0 10 = 1) ∧ MRs (A 0 12).toNat A (tw (51 + 31 * (B 0 9).toNat) B)
def okF (x : Nat × Nat) : Bool := !(Nat.beq x.1 0 && (Nat.beq x.2 9 || Nat.beq x.2 10)) && !((Nat.beq x.1 51 || Nat.beq x.1 82) && Nat.beq x.2 15) && statT.all (fun j => !Nat.beq x.1 (51 + j) && !Nat.beq x.1 (82 + j))
theorem PSs.fr {B A B2 A2 : St} {P : List Nat} {F : List (Nat × Nat)} {M' N' : List Nat} (hIK : IK B) (h : PSs B A) (hf : fk P F B B2) (hP : (P.contains 0 || P.contains 51 || P.contains 82 || statT.any (fun j => P.contains (51 + j) || P.contains (82 + j))) = false) (hF : F.all okF = true) (hg : fr M' N' A A2) (hM : statM.all (fun j => !M'.contains j) = true) (h12 : N'.contains 12 = false) : PSs B2 A2 := by
  have r9 : (0 : Int) ≤ B 0 9 ∧ B 0 9 ≤ 1 := hIK 0 9
  simp only [Bool.or_eq_false_iff] at hP
  obtain ⟨⟨⟨p0, p51⟩, p82⟩, pT⟩ := hP
  have nf : ∀ j k, okF (j, k) = false → fin2 F j k = false := by
    intro j k hk
    cases hc : fin2 F j k with
    | false => rfl
    | true =>
      have := List.all_eq_true.mp hF _ (fin2_iff.mp hc)
      rw [hk] at this
      exact absurd this (by decide)
  have e9 : B2 0 9 = B 0 9 := hf 0 9 p0 (nf 0 9 rfl)
  have e10 : B2 0 10 = B 0 10 := hf 0 10 p0 (nf 0 10 rfl)
  have rowT : ∀ j, statT.contains j = true → ∀ k, B2 (51 + j) k = B (51 + j) k ∧ B2 (82 + j) k = B (82 + j) k := by
    intro j hj k
    have hm := List.contains_iff_mem.mp hj
    have pj : (P.contains (51 + j) || P.contains (82 + j)) = false := by
      cases hc : (P.contains (51 + j) || P.contains (82 + j)) with
      | false => rfl
      | true =>
        have : statT.any (fun j => P.contains (51 + j) || P.contains (82 + j)) = true := List.any_eq_true.mpr ⟨j, hm, hc⟩
        rw [pT] at this
        exact absurd this (by decide)
    rw [Bool.or_eq_false_iff] at pj
    have no : ∀ x, (x = 51 + j ∨ x = 82 + j) → okF (x, k) = false := by
      intro x hx
      have : statT.all (fun j => !Nat.beq x (51 + j) && !Nat.beq x (82 + j)) = false := by
        cases hc : statT.all (fun j => !Nat.beq x (51 + j) && !Nat.beq x (82 + j)) with
        | false => rfl
        | true =>
          have := List.all_eq_true.mp hc j hm
          rcases hx with rfl | rfl
          · simp at this
          · simp at this
      show (_ && _ && statT.all (fun j => !Nat.beq x (51 + j) && !Nat.beq x (82 + j))) = false
      rw [this, Bool.and_false]
    exact ⟨hf _ _ pj.1 (nf _ _ (no _ (Or.inl rfl))), hf _ _ pj.2 (nf _ _ (no _ (Or.inr rfl)))⟩
  have hM : ∀ j, statM.contains j = true → M'.contains j = false := by
    intro j hj
    have := List.all_eq_true.mp hM j (List.contains_iff_mem.mp hj)
    simpa using this
  refine ⟨by rw [e9, e10]; exact h.1, ?_⟩
  rw [hg.2 12 h12, e9]
  refine MRs.cg h.2 (fun j hj => hg.1 j ?_ (hM j hj)) (fun j hj => ?_) ?_
  · intro e0
    subst e0
    exact absurd hj (by decide)
  · funext k
    have r := rowT j hj k
    rcases (show B 0 9 = 0 ∨ B 0 9 = 1 by omega) with e | e
    · rw [e]; exact r.1
    · rw [e]; exact r.2
  · rcases (show B 0 9 = 0 ∨ B 0 9 = 1 by omega) with e | e
    · rw [e]; exact hf 51 15 p51 (nf 51 15 rfl)
    · rw [e]; exact hf 82 15 p82 (nf 82 15 rfl)
theorem O_town2 {b : Nat} {A0 A B u : St} {z i : Int} (g : OB b A B) (hq : d_X12_town_2 i A0 B z u) : OB b A u := by
  rcases (hq : tr_d_X12_town_2 i A0 B z u) with ⟨_, A27, e, _, hu⟩ | ⟨_, A28, e, z29, A30, hr, _, hu⟩
  · rw [hu, e]; exact g.s0.s0.s0.s0
  · have g28 : OB b A A28 := by rw [e]; exact g.s0.s0
    rw [hu]
    refine g28.r32 hr.2.2.1 (fun j h0 h1 => ?_)
    have : ∀ k : Fin 33, ([41] : List Nat).contains k.val = false := by decide
    exact this ⟨j, by omega⟩
theorem O_townL {b : Nat} {A0 A u : St} {z : Int} : ∀ (nn : Nat) (i : Int) (B : St), OB b A B → B 0 47 = (b : Int) → d_X12_town_1 A0 z u nn i B → OB b A u := by
  intro nn
  induction nn with
  | zero => intro i B _ _ hq; exact hq.elim
  | succ nn ih =>
    intro i B g h47 hq
    obtain ⟨hI, _, hq⟩ := (hq : tr_d_X12_town_1 A0 z u (fun z5 A7 => d_X12_town_1 A0 z u nn z5 A7) i B)
    rcases hq with ⟨_, hq⟩ | ⟨_, hq⟩
    · exact O_town2 g hq
    · rcases hq with ⟨_, hq⟩ | ⟨_, A19, hst, z24, _, hq⟩
      · exact O_town2 g hq
      · exact ih _ A19 (g.trans (O_statement hI h47 hst)) ((hst.2.2.1.2 47 rfl).trans h47) hq
theorem O_town {b : Nat} {A u : St} {z : Int} (hb : -(A 0 12) + 1 = (b : Int)) (hq : q_X12_town A z u) : OB b A u := by
  obtain ⟨A1, e1, A2, ha, nn, hq⟩ := (hq.1 : tr_r_X12_town A z u)
  rw [hb, Int.toNat_natCast] at e1
  have b1 : ∀ j, bnk j = 1 → b / bnk j = b := fun j h => by rw [h]; exact Nat.div_one b
  have g1 : OB b A A1 := by
    rw [e1]
    exact (OB.st (OB.st (OB.st (OB.st (OB.st (OB.st (OB.st (OB.st OB.rf.s0.s0.s0.s0.s0.s0 (b1 2 rfl)) (b1 4 rfl)) (b1 11 rfl)) (b1 16 rfl)) (b1 19 rfl)) (b1 22 rfl)) (b1 25 rfl)) (b1 29 rfl)).s0
  have e47 : A1 0 47 = (b : Int) := by rw [e1]; rfl
  exact O_townL nn 0 A2 (g1.cl ha.2.2.1) ((ha.2.2.1.2 47 rfl).trans e47) hq
theorem town2_k {A0 B u : St} {z i : Int} (h : 1 ≤ B 0 8) (hq : d_X12_town_2 i A0 B z u) : u 0 12 = B 0 12 ∧ u 0 75 = B 0 75 := by
  rcases (hq : tr_d_X12_town_2 i A0 B z u) with ⟨c, _⟩ | ⟨_, A28, e, z29, A30, hr, _, hu⟩
  · omega
  · rw [hu, hr.2.2.1.2 12 rfl, hr.2.2.1.2 75 rfl, e]
    exact ⟨rfl, rfl⟩
theorem town1_k {A0 B u : St} {z i : Int} {nn : Nat} (h : 1 ≤ B 0 8) (hq : d_X12_town_1 A0 z u nn i B) : u 0 12 = B 0 12 ∧ u 0 75 = B 0 75 := by
  cases nn with
  | zero => exact hq.elim
  | succ nn =>
    obtain ⟨_, _, hq⟩ := (hq : tr_d_X12_town_1 A0 z u (fun z5 A7 => d_X12_town_1 A0 z u nn z5 A7) i B)
    rcases hq with ⟨_, hq⟩ | ⟨c, _⟩
    · exact town2_k h hq
    · omega
theorem M_townF {f : Nat → Int} {N b : Nat} {A0 u : St} {z : Int} (hz : z = -1) : ∀ (nn i : Nat) (A T : St) (p : Nat), MS f N b p A → MR b A T → T 19 2 ≤ (p : Int) → i ≤ p → (A 0 12 = A0 0 12 ∧ A 0 75 = A0 0 75) → d_X12_town_1 A0 z u nn (i : Int) A → u 0 12 = A0 0 12 ∧ u 0 75 = A0 0 75 := by
  intro nn
  induction nn with
  | zero => intro i A T p _ _ _ _ _ hq; exact hq.elim
  | succ nn ih =>
    intro i A T p h hR hT hip hk hq
    have N16 : N ≤ 1600 := h.1.2.1
    have hpN := h.le
    obtain ⟨hI, _, hq⟩ := (hq : tr_d_X12_town_1 A0 z u (fun z5 A7 => d_X12_town_1 A0 z u nn z5 A7) i A)
    rcases hq with ⟨c, _⟩ | ⟨_, hq⟩
    · exact absurd h.ns c
    · rcases hq with ⟨c0, hq⟩ | ⟨c0, A19, hst, z24, hz24, hq⟩
      · rcases (hq : tr_d_X12_town_2 (i : Int) A0 A z u) with ⟨_, A27, _, hz2, _⟩ | ⟨c, _⟩
        · omega
        · exact absurd (Int.le_of_eq h.ns) c
      · have e24 : z24 = ((i + 1 : Nat) : Int) := by
          rw [hz24]
          exact oWrap_id ⟨by omega, by omega⟩
        have hk2 : A19 0 12 = A0 0 12 ∧ A19 0 75 = A0 0 75 := ⟨(hst.2.2.1.2 12 rfl).trans hk.1, (hst.2.2.1.2 75 rfl).trans hk.2⟩
        rcases M_statement hI h hR hT hst with ⟨_, a, sa, mr, ms, cd, pa⟩ | ⟨f1, _⟩
        · rw [e24] at hq
          exact ih (i + 1) A19 a.1 a.2 ms mr cd (by omega) hk2 hq
        · have := town1_k f1 hq
          exact ⟨this.1.trans hk2.1, this.2.trans hk2.2⟩
theorem M_townK {f : Nat → Int} {N b : Nat} {A u : St} {z : Int} (hN : A 0 1 = (N : Int)) (h16 : N ≤ 1600) (hf : ∀ k, k < N → f k = A 1 k) (hb : -(A 0 12) + 1 = (b : Int)) (hb1 : b ≤ 1) (hz : z = -1) (hq : q_X12_town A z u) : u 0 12 = A 0 12 ∧ u 0 75 = A 0 75 := by
  obtain ⟨A1, e1, A2, ha, nn, hq⟩ := (hq.1 : tr_r_X12_town A z u)
  rw [hb, Int.toNat_natCast] at e1
  have hG : MG f N b 0 A1 := by
    rw [e1]
    exact ⟨⟨hN, h16, hf⟩, rfl, hb1, rfl, by omega, rfl⟩
  have g0 : A2 0 12 = A 0 12 ∧ A2 0 75 = A 0 75 := by
    rw [ha.2.2.1.2 12 rfl, ha.2.2.1.2 75 rfl, e1]
    exact ⟨rfl, rfl⟩
  obtain ⟨mo, q⟩ := hG.ahead ha
  rcases mo with ⟨_, f1⟩ | ⟨_, ms⟩
  · have := town1_k f1 hq
    exact ⟨this.1.trans g0.1, this.2.trans g0.2⟩
  · have mr : MR b A2 (sClear A) := by
      refine MR.rq (MR_0 ?_) q
      rw [e1]
      exact ⟨up_same _ _ _, up_same _ _ _, up_same _ _ _, up_same _ _ _, up_same _ _ _, up_same _ _ _, up_same _ _ _, up_same _ _ _⟩
    exact M_townF hz nn 0 A2 (sClear A) 0 ms mr (by decide : (0 : Int) ≤ 0) (Nat.le_refl 0) g0 hq
/-- the numbers of trials -/
def TRn (B A : St) : Prop := B 22 4 = A 0 75
theorem town_ps {z1 z2 : Int} {B A u1 u2 : St} (hIK : IK B) (hIM : IM A) (he : B 1 1 = A 0 1) (hT : TB B A) (hO : OW B) (hp : PSs B A) (hr : TRn B A) (h1 : r_X11_town B z1 u1) (h2 : q_X12_town A z2 u2) : PSs u1 u2 ∧ TRn u1 u2 := by
  have r01 : (0 : Int) ≤ A 0 1 ∧ A 0 1 ≤ 1600 := hIM 0 1
  have r12 : (0 : Int) ≤ A 0 12 ∧ A 0 12 ≤ 1 := hIM 0 12
  have r10 : (0 : Int) ≤ B 0 10 ∧ B 0 10 ≤ 1 := hIK 0 10
  have r9 : (0 : Int) ≤ B 0 9 ∧ B 0 9 ≤ 1 := hIK 0 9
  have s1 := hp.1
  obtain ⟨N, hN⟩ : ∃ N : Nat, A 0 1 = (N : Int) := ⟨(A 0 1).toNat, by omega⟩
  obtain ⟨b, hb⟩ : ∃ b : Nat, -(A 0 12) + 1 = (b : Int) := ⟨(-(A 0 12) + 1).toNat, by omega⟩
  obtain ⟨t2, ht2, z3, A4, hrd, A7, e7, h1⟩ := (h1 : tr_r_X11_town B z1 u1)
  have hta : isT t2 := by
    rcases (show B 0 10 = 0 ∨ B 0 10 = 1 by omega) with e | e
    · rw [e] at ht2; exact Or.inl ht2
    · rw [e] at ht2; exact Or.inr ht2
  have hE : EK (fun k => B 2 k % 256) N B := ⟨hIK, by rw [he, hN], by omega, fun k _ => rfl, hO⟩
  have cw := C_readTown hta hE hrd
  have mx := M_town (f := fun k => B 2 k % 256) (N := N) (b := b) (T := tw t2 B) hN (by omega) (fun k hk => (hT k (by omega)).symm) hb (by omega) h2
  have ob := O_town hb h2
  unfold CW at cw
  rcases mx with ⟨a, ha, hz, hm, h12⟩ | ⟨ha, hz⟩
  · rw [ha] at cw
    obtain ⟨cz, _, ct⟩ := cw
    rcases h1 with ⟨_, t12, _, A15, e15, A16, e16, A17, e17, _, hu⟩ | ⟨c, _⟩
    · refine ⟨⟨?_, ?_⟩, ?_⟩
      · rw [hu, e17, e16, e15]
        show B 0 10 + B 0 9 = 1
        omega
      · have w9 : u1 0 9 = B 0 10 := by rw [hu, e17, e16, e15]; rfl
        rw [h12, Int.toNat_natCast, w9, ← ht2]
        have et : tw t2 u1 = a.2 := by
          rw [← ct]
          funext j k
          show u1 (t2 + j) k = A4 (t2 + j) k
          have l51 : 51 ≤ t2 := by rcases hta with e | e <;> omega
          rw [hu, e17, stA_ne _ _ (by omega), e16, stA_ne _ _ (by omega), e15, stA_ne _ _ (by omega), e7, stA_ne _ _ (by omega)]
        rw [et]
        exact hm.s
      · have u22 : u1 22 4 = 0 := by rw [hu, e17]; rfl
        unfold TRn
        rw [u22]
        rcases (h2.1 : tr_r_X12_town A z2 u2) with ⟨_, _, _, _, nn, hq⟩
        have hnn : ∀ (nn : Nat) (i : Int) (C : St), 0 ≤ z2 → d_X12_town_1 A z2 u2 nn i C → (0 : Int) = u2 0 75 := by
          intro nn
          induction nn with
          | zero => intro i C _ hq; exact hq.elim
          | succ nn ih =>
            intro i C hz0 hq
            have t2' : d_X12_town_2 i A C z2 u2 → (0 : Int) = u2 0 75 := by
              intro hq
              rcases (hq : tr_d_X12_town_2 i A C z2 u2) with ⟨_, A27, e, _, hu⟩ | ⟨_, A28, _, z29, A30, hf, hz9, _⟩
              · rw [hu, e]; rfl
              · have := hf.2.2.2
                omega
            obtain ⟨_, _, hq⟩ := (hq : tr_d_X12_town_1 A z2 u2 (fun z5 A7 => d_X12_town_1 A z2 u2 nn z5 A7) i C)
            rcases hq with ⟨_, hq⟩ | ⟨_, hq⟩
            · exact t2' hq
            · rcases hq with ⟨_, hq⟩ | ⟨_, A19, _, z24, _, hq⟩
              · exact t2' hq
              · exact ih _ A19 hz0 hq
        exact hnn nn _ _ (by rw [hz]; omega) hq
    · rw [cz] at c
      omega
  · rw [ha] at cw
    have cz : z3 = -1 := cw
    rcases h1 with ⟨c, _⟩ | ⟨_, z22, A23, hf, _, hu⟩
    · exact absurd cz c
    · have htt : TT t2 (51 + 31 * (B 0 9).toNat) := by
        unfold TT
        rcases (show B 0 10 = 0 ∨ B 0 10 = 1 by omega) with e | e
        · have e9 : B 0 9 = 1 := by omega
          rw [e] at ht2
          rw [e9]
          exact Or.inl ⟨ht2, rfl⟩
        · have e9 : B 0 9 = 0 := by omega
          rw [e] at ht2
          rw [e9]
          exact Or.inr ⟨ht2, rfl⟩
      have htb : isT (51 + 31 * (B 0 9).toNat) := by
        rcases (show B 0 9 = 0 ∨ B 0 9 = 1 by omega) with e | e
        · rw [e]; exact Or.inl rfl
        · rw [e]; exact Or.inr rfl
      have ot := ot_r_X5_readTown htb htt OT.rf hrd.1
      have f9 : u1 0 9 = B 0 9 := by
        rw [hu, hf.2.2.1 0 9 rfl rfl, e7]
        exact hrd.2.2.1 0 9 rfl rfl
      have f10 : u1 0 10 = B 0 10 := by
        rw [hu, hf.2.2.1 0 10 rfl rfl, e7]
        exact hrd.2.2.1 0 10 rfl rfl
      have f22 : u1 22 4 = B 22 4 := by
        rw [hu, hf.2.2.1 22 4 rfl rfl, e7]
        exact hrd.2.2.1 22 4 rfl rfl
      have m12 : u2 0 12 = A 0 12 ∧ u2 0 75 = A 0 75 := M_townK (f := fun k => B 2 k % 256) hN (by omega) (fun k hk => (hT k (by omega)).symm) hb (by omega) hz h2
      refine ⟨⟨by rw [f9, f10]; exact s1, ?_⟩, ?_⟩
      · rw [m12.1, f9]
        have ms := MRs.ob hIM hp.2 ob (by omega)
        refine MRs.cg ms (fun j _ => rfl) (fun j hj => ?_) ?_
        · have j31 : j < 31 := by
            have := List.contains_iff_mem.mp hj
            simp [statT] at this
            omega
          funext k
          show u1 (51 + 31 * (B 0 9).toNat + j) k = B (51 + 31 * (B 0 9).toNat + j) k
          have l51 : 51 ≤ 51 + 31 * (B 0 9).toNat + j := by omega
          rw [hu, hf.2.2.1 _ k ?_ ?_, e7, stA_ne _ _ (by omega), ot j j31]
          · have : ([50] : List Nat).contains (51 + 31 * (B 0 9).toNat + j) = false := by
              cases hc : ([50] : List Nat).contains (51 + 31 * (B 0 9).toNat + j) with
              | false => rfl
              | true =>
                have := List.contains_iff_mem.mp hc
                simp at this
                omega
            exact this
          · rfl
        · show u1 (51 + 31 * (B 0 9).toNat + 0) 15 = B (51 + 31 * (B 0 9).toNat + 0) 15
          have o0 := ot 0 (by decide)
          rw [hu, hf.2.2.1 _ 15 ?_ rfl, e7, stA_ne _ _ (by omega), o0]
          cases hc : ([50] : List Nat).contains (51 + 31 * (B 0 9).toNat + 0) with
          | false => rfl
          | true =>
            have := List.contains_iff_mem.mp hc
            simp at this
            omega
      · unfold TRn
        rw [f22, m12.2]
        exact hr
theorem unsay_eq {z1 z2 : Int} {B A u1 u2 : St} (hr : TRn B A) (h1 : r_X11_unsay B z1 u1) (h2 : r_X12_unsay A z2 u2) : z1 = z2 ∧ TRn u1 u2 := by
  have hr : B 22 4 = A 0 75 := hr
  rcases (h1 : tr_r_X11_unsay B z1 u1) with ⟨c, A3, e3, hz, hu⟩ | ⟨c, z5, A6, hf, hz, hu⟩
  · rcases (h2 : tr_r_X12_unsay A z2 u2) with ⟨_, hz2, hu2⟩ | ⟨c2, _⟩
    · refine ⟨by rw [hz, hz2, hr], ?_⟩
      unfold TRn
      rw [hu, e3, hu2]
      show B 22 4 - 1 = A 0 75 - 1
      rw [hr]
    · exact absurd (hr.trans c2) c
  · rcases (h2 : tr_r_X12_unsay A z2 u2) with ⟨c2, _⟩ | ⟨_, z6, A7, hf2, hz2, hu2⟩
    · exact absurd (hr.symm.trans c) c2
    · refine ⟨by rw [hz, hz2, hf.2.2.2, hf2.2.2.2], ?_⟩
      unfold TRn
      rw [hu, hu2, hf.2.2.1 22 4 rfl rfl, hf2.2.2.1.2 75 rfl]
      exact hr
theorem trial_tr {x1 x2 z1 z2 : Int} {B A u1 u2 : St} (hIK : IK B) (hIM : IM A) (hp : PSs B A) (hr : TRn B A) (h1 : r_X11_trial x1 x2 B z1 u1) (h2 : r_X12_trial x1 x2 A z2 u2) : TRn u1 u2 := by
  have hr : B 22 4 = A 0 75 := hr
  have r75 : (0 : Int) ≤ A 0 75 ∧ A 0 75 ≤ 20 := hIM 0 75
  obtain ⟨t2, ht2, z3, hi, h1⟩ := (h1 : tr_r_X11_trial x1 x2 B z1 u1)
  obtain ⟨z4, hd, h2⟩ := (h2 : tr_r_X12_trial x1 x2 A z2 u2)
  have cnt : A 4 (A 0 12).toNat = B (t2 + 1) 1 := by
    rw [ht2]
    exact hp.2.1.2.1.1
  have r4 : A 4 (A 0 12).toNat ≤ 10 := (hIM 4 _).2
  have dI := hd.2.2
  have d01 := hd.2.1
  have kI : (z3 = 0 ∧ ¬ (0 ≤ x1 ∧ x1 < B (t2 + 1) 1)) ∨ (z3 = 1 ∧ 0 ≤ x1 ∧ x1 < B (t2 + 1) 1) := by
    rcases (hi.1 : tr_r_X9_isThere_1_1 t2 x1 B z3) with ⟨c, hz⟩ | ⟨c, z5, hz5, h⟩
    · exact Or.inl ⟨hz, fun g => by omega⟩
    · have hz5 : z5 = B (t2 + 1) 1 := hz5
      rcases h with ⟨c2, hz⟩ | ⟨c2, hz⟩
      · exact Or.inl ⟨hz, fun g => by omega⟩
      · exact Or.inr ⟨hz, by omega, by omega⟩
  have same : z3 = 0 ↔ z4 = 0 := by
    rw [cnt] at dI r4
    constructor
    · intro e
      rcases kI with ⟨_, g⟩ | ⟨g, _⟩
      · by_cases e4 : z4 = 1
        · have := dI.mp e4
          exact absurd ⟨this.1, this.2.1⟩ g
        · omega
      · omega
    · intro e
      rcases kI with ⟨g, _⟩ | ⟨_, g⟩
      · exact g
      · have := dI.mpr ⟨g.1, g.2, r4⟩
        omega
  unfold TRn
  rcases h1 with ⟨c, z7, A8, hf, _, hu⟩ | ⟨c, z11, A12, had, h1⟩
  · rcases h2 with ⟨_, z5, A6, hf2, _, hu2⟩ | ⟨c2, _⟩
    · rw [hu, hu2, hf.2.2.1 22 4 rfl rfl, hf2.2.2.1.2 75 rfl]
      exact hr
    · exact absurd (same.mp c) c2
  · rcases h2 with ⟨c2, _⟩ | ⟨_, h2⟩
    · exact absurd (same.mpr c2) c
    · rcases (had.1 : tr_r_X1_add x1 x2 B z11 A12) with ⟨c3, A4, _, A6, _, A8, e8, hz, e12⟩ | ⟨c3, hz, e12⟩
      · rcases h1 with ⟨_, A17, hs, _, hu⟩ | ⟨c4, _⟩
        · rcases h2 with ⟨_, A10, e10, z11b, A12b, hfi, _, hu2⟩ | ⟨c5, _⟩
          · rw [hu, hu2, hs.2.2.1 22 4 rfl rfl, hfi.2.2.1.2 75 rfl, e12, e8, e10]
            show B 22 4 + 1 = A 0 75 + 1
            rw [hr]
          · omega
        · rw [hz] at c4
          exact absurd c4 (by decide)
      · rcases h1 with ⟨c4, _⟩ | ⟨_, z21, A22, hf, _, hu⟩
        · exact absurd hz c4
        · rcases h2 with ⟨c5, _⟩ | ⟨_, z15, A16, hf2, _, hu2⟩
          · omega
          · rw [hu, hu2, hf.2.2.1 22 4 rfl rfl, hf2.2.2.1.2 75 rfl, e12]
            exact hr
/-! Crossing musts: both answer alike. -/
def cxP (fa ta da fb tb db : Int) (a b : Int) : Prop := (fa < fb ∧ fb < ta ∧ ta < tb) ∨ (fb < fa ∧ fa < tb ∧ tb < ta) ∨ (¬ a = b ∧ da = db ∧ fa < tb ∧ fb < ta)
theorem crs_M {x1 x2 z : Int} {A : St} (h : q_X12_crosses x1 x2 A z) : (z = 1 ∧ cxP (A 27 (6 * (A 0 12) + x1).toNat) (A 28 (6 * (A 0 12) + x1).toNat) (A 26 (6 * (A 0 12) + x1).toNat) (A 27 (6 * (A 0 12) + x2).toNat) (A 28 (6 * (A 0 12) + x2).toNat) (A 26 (6 * (A 0 12) + x2).toNat) x1 x2) ∨ (z = 0 ∧ ¬ cxP (A 27 (6 * (A 0 12) + x1).toNat) (A 28 (6 * (A 0 12) + x1).toNat) (A 26 (6 * (A 0 12) + x1).toNat) (A 27 (6 * (A 0 12) + x2).toNat) (A 28 (6 * (A 0 12) + x2).toNat) (A 26 (6 * (A 0 12) + x2).toNat) x1 x2) := by
  obtain ⟨fa, hfa⟩ : ∃ v, A 27 (6 * (A 0 12) + x1).toNat = v := ⟨_, rfl⟩
  obtain ⟨ta, hta⟩ : ∃ v, A 28 (6 * (A 0 12) + x1).toNat = v := ⟨_, rfl⟩
  obtain ⟨da, hda⟩ : ∃ v, A 26 (6 * (A 0 12) + x1).toNat = v := ⟨_, rfl⟩
  obtain ⟨fb, hfb⟩ : ∃ v, A 27 (6 * (A 0 12) + x2).toNat = v := ⟨_, rfl⟩
  obtain ⟨tb, htb⟩ : ∃ v, A 28 (6 * (A 0 12) + x2).toNat = v := ⟨_, rfl⟩
  obtain ⟨db, hdb⟩ : ∃ v, A 26 (6 * (A 0 12) + x2).toNat = v := ⟨_, rfl⟩
  rw [hfa, hta, hda, hfb, htb, hdb]
  unfold cxP
  have c6 : ∀ z13 z29 z46 : Int, d_X12_crosses_6 z13 z29 z z46 → (z = 0 ∧ z13 = 0 ∧ z29 = 0 ∧ z46 = 0) ∨ (z = 1 ∧ (¬ z13 = 0 ∨ ¬ z29 = 0 ∨ ¬ z46 = 0)) := by
    intro z13 z29 z46 h
    obtain ⟨_, h⟩ := (h : tr_d_X12_crosses_6 z13 z29 z z46)
    rcases h with ⟨c, hz⟩ | ⟨c, h⟩
    · exact Or.inr ⟨hz, Or.inl c⟩
    · rcases h with ⟨c2, hz⟩ | ⟨c2, h⟩
      · exact Or.inr ⟨hz, Or.inr (Or.inl c2)⟩
      · rcases h with ⟨c3, hz⟩ | ⟨c3, hz⟩
        · exact Or.inl ⟨hz, c, c2, c3⟩
        · exact Or.inr ⟨hz, Or.inr (Or.inr c3)⟩
  have c4 : ∀ z13 z29 : Int, d_X12_crosses_4 x1 x2 z13 A z z29 → (z = 0 ∧ z13 = 0 ∧ z29 = 0 ∧ ¬ (¬ x1 = x2 ∧ da = db ∧ fa < tb ∧ fb < ta)) ∨ (z = 1 ∧ (¬ z13 = 0 ∨ ¬ z29 = 0 ∨ (¬ x1 = x2 ∧ da = db ∧ fa < tb ∧ fb < ta))) := by
    intro z13 z29 h
    obtain ⟨_, h⟩ := (h : tr_d_X12_crosses_4 x1 x2 z13 A z z29)
    rw [hda, hdb, hfa, htb, hfb, hta] at h
    have c5 : ¬ (¬ x1 = x2 ∧ da = db ∧ fa < tb ∧ fb < ta) → d_X12_crosses_5 z13 z29 z → (z = 0 ∧ z13 = 0 ∧ z29 = 0 ∧ ¬ (¬ x1 = x2 ∧ da = db ∧ fa < tb ∧ fb < ta)) ∨ (z = 1 ∧ (¬ z13 = 0 ∨ ¬ z29 = 0 ∨ (¬ x1 = x2 ∧ da = db ∧ fa < tb ∧ fb < ta))) := by
      intro hn h
      rcases c6 z13 z29 0 h with ⟨g1, g2, g3, _⟩ | ⟨g1, g2⟩
      · exact Or.inl ⟨g1, g2, g3, hn⟩
      · refine Or.inr ⟨g1, ?_⟩
        rcases g2 with g | g | g
        · exact Or.inl g
        · exact Or.inr (Or.inl g)
        · exact absurd rfl g
    rcases h with ⟨c, h⟩ | ⟨c, z36, e36, z37, e37, h⟩
    · exact c5 (fun g => g.1 c) h
    · rcases h with ⟨c2, h⟩ | ⟨c2, z39, e39, z40, e40, h⟩
      · exact c5 (fun g => c2 (by rw [e36, e37]; exact g.2.1)) h
      · rcases h with ⟨c3, h⟩ | ⟨c3, z42, e42, z43, e43, h⟩
        · exact c5 (fun g => by rw [e40, e39] at c3; have := g.2.2.1; omega) h
        · rcases h with ⟨c7, h⟩ | ⟨c7, h⟩
          · exact c5 (fun g => by rw [e43, e42] at c7; have := g.2.2.2; omega) h
          · rcases c6 z13 z29 1 h with ⟨_, _, _, g⟩ | ⟨g1, _⟩
            · exact absurd g (by decide)
            · exact Or.inr ⟨g1, Or.inr (Or.inr ⟨c, by rw [← e36, ← e37]; exact c2, by rw [e40, e39] at c3; omega, by rw [e43, e42] at c7; omega⟩)⟩
  have c2 : ∀ z13 : Int, d_X12_crosses_2 x1 x2 A z z13 → (z = 0 ∧ z13 = 0 ∧ ¬ (fb < fa ∧ fa < tb ∧ tb < ta) ∧ ¬ (¬ x1 = x2 ∧ da = db ∧ fa < tb ∧ fb < ta)) ∨ (z = 1 ∧ (¬ z13 = 0 ∨ (fb < fa ∧ fa < tb ∧ tb < ta) ∨ (¬ x1 = x2 ∧ da = db ∧ fa < tb ∧ fb < ta))) := by
    intro z13 h
    obtain ⟨_, z17, e17, z18, e18, h⟩ := (h : tr_d_X12_crosses_2 x1 x2 A z z13)
    rw [hfb] at e17
    rw [hfa] at e18
    have c3 : ¬ (fb < fa ∧ fa < tb ∧ tb < ta) → d_X12_crosses_3 x1 x2 z13 A z → (z = 0 ∧ z13 = 0 ∧ ¬ (fb < fa ∧ fa < tb ∧ tb < ta) ∧ ¬ (¬ x1 = x2 ∧ da = db ∧ fa < tb ∧ fb < ta)) ∨ (z = 1 ∧ (¬ z13 = 0 ∨ (fb < fa ∧ fa < tb ∧ tb < ta) ∨ (¬ x1 = x2 ∧ da = db ∧ fa < tb ∧ fb < ta))) := by
      intro hn h
      rcases c4 z13 0 h with ⟨g1, g2, _, g4⟩ | ⟨g1, g2⟩
      · exact Or.inl ⟨g1, g2, hn, g4⟩
      · refine Or.inr ⟨g1, ?_⟩
        rcases g2 with g | g | g
        · exact Or.inl g
        · exact absurd rfl g
        · exact Or.inr (Or.inr g)
    rw [hfa, htb, hta] at h
    rcases h with ⟨c, h⟩ | ⟨c, z22, e22, z23, e23, h⟩
    · exact c3 (fun g => by have := g.1; omega) h
    · rcases h with ⟨c', h⟩ | ⟨c', z25, e25, z26, e26, h⟩
      · exact c3 (fun g => by have := g.2.1; omega) h
      · rcases h with ⟨c'', h⟩ | ⟨c'', h⟩
        · exact c3 (fun g => by have := g.2.2; omega) h
        · rcases c4 z13 1 h with ⟨_, _, g, _⟩ | ⟨g1, _⟩
          · exact absurd g (by decide)
          · exact Or.inr ⟨g1, Or.inr (Or.inl ⟨by omega, by omega, by omega⟩)⟩
  have c1 : ¬ (fa < fb ∧ fb < ta ∧ ta < tb) → d_X12_crosses_1 x1 x2 A z → (z = 1 ∧ ((fa < fb ∧ fb < ta ∧ ta < tb) ∨ (fb < fa ∧ fa < tb ∧ tb < ta) ∨ (¬ x1 = x2 ∧ da = db ∧ fa < tb ∧ fb < ta))) ∨ (z = 0 ∧ ¬ ((fa < fb ∧ fb < ta ∧ ta < tb) ∨ (fb < fa ∧ fa < tb ∧ tb < ta) ∨ (¬ x1 = x2 ∧ da = db ∧ fa < tb ∧ fb < ta))) := by
    intro hn h
    rcases c2 0 h with ⟨g1, _, g3, g4⟩ | ⟨g1, g2⟩
    · refine Or.inr ⟨g1, ?_⟩
      rintro (g | g | g)
      · exact hn g
      · exact g3 g
      · exact g4 g
    · refine Or.inl ⟨g1, ?_⟩
      rcases g2 with g | g | g
      · exact absurd rfl g
      · exact Or.inr (Or.inl g)
      · exact Or.inr (Or.inr g)
  obtain ⟨z1, e1, z2, e2, h⟩ := (h.1 : tr_r_X12_crosses x1 x2 A z)
  rw [hfa] at e1
  rw [hfb] at e2
  rw [hfb, hta, htb] at h
  rcases h with ⟨c, h⟩ | ⟨c, z6, e6, z7, e7, h⟩
  · exact c1 (fun g => by have := g.1; omega) h
  · rcases h with ⟨c', h⟩ | ⟨c', z9, e9, z10, e10, h⟩
    · exact c1 (fun g => by have := g.2.1; omega) h
    · rcases h with ⟨c'', h⟩ | ⟨c'', h⟩
      · exact c1 (fun g => by have := g.2.2; omega) h
      · rcases c2 1 h with ⟨_, g, _⟩ | ⟨g1, _⟩
        · exact absurd g (by decide)
        · exact Or.inl ⟨g1, Or.inl ⟨by omega, by omega, by omega⟩⟩
theorem thr6 {ta : Nat} {x z : Int} {A : St} (h : q_X9_isThere_1_6 ta x A z) : (z = 1 ∧ 0 ≤ x ∧ x < A (ta + 1) 6) ∨ (z = 0 ∧ ¬ (0 ≤ x ∧ x < A (ta + 1) 6)) := by
  rcases (h.1 : tr_r_X9_isThere_1_6 ta x A z) with ⟨c, hz⟩ | ⟨c, z4, e4, h⟩
  · exact Or.inr ⟨hz, fun g => by omega⟩
  · have e4 : z4 = A (ta + 1) 6 := e4
    rcases h with ⟨c2, hz⟩ | ⟨c2, hz⟩
    · exact Or.inr ⟨hz, fun g => by omega⟩
    · exact Or.inl ⟨hz, by omega, by omega⟩
theorem crs_K {ta : Nat} {x2 x3 z : Int} {A : St} (h2 : 0 ≤ x2 ∧ x2 < A (ta + 1) 6) (h3 : 0 ≤ x3 ∧ x3 < A (ta + 1) 6) (hne : ¬ x2 = x3) (h : q_X2_areCrossing ta x2 x3 A z) : (z = 1 ∧ cxP (A (ta + 14) x2.toNat) (A (ta + 15) x2.toNat) (A (ta + 13) x2.toNat) (A (ta + 14) x3.toNat) (A (ta + 15) x3.toNat) (A (ta + 13) x3.toNat) x2 x3) ∨ (z = 0 ∧ ¬ cxP (A (ta + 14) x2.toNat) (A (ta + 15) x2.toNat) (A (ta + 13) x2.toNat) (A (ta + 14) x3.toNat) (A (ta + 15) x3.toNat) (A (ta + 13) x3.toNat) x2 x3) := by
  obtain ⟨z1, t1, h⟩ := (h.1 : tr_r_X2_areCrossing ta x2 x3 A z)
  unfold cxP
  rcases h with ⟨c, _⟩ | ⟨_, z5, t5, h⟩
  · rcases thr6 t1 with ⟨g, _⟩ | ⟨_, g⟩
    · rw [g] at c; exact absurd c (by decide)
    · exact absurd h2 g
  · rcases h with ⟨_, fa, e9, tA, e10, fb, e11, tB, e12, da, e13, db, e14, h⟩ | ⟨c, _⟩
    · rw [← e9, ← e10, ← e11, ← e12, ← e13, ← e14]
      have d2 : ¬ (da = db ∧ fa < tB ∧ fb < tA) → ¬ (fa < fb ∧ fb < tA ∧ tA < tB) → d_X2_areCrossing_2 fa tA fb tB z → (z = 1 ∧ ((fa < fb ∧ fb < tA ∧ tA < tB) ∨ (fb < fa ∧ fa < tB ∧ tB < tA) ∨ (¬ x2 = x3 ∧ da = db ∧ fa < tB ∧ fb < tA))) ∨ (z = 0 ∧ ¬ ((fa < fb ∧ fb < tA ∧ tA < tB) ∨ (fb < fa ∧ fa < tB ∧ tB < tA) ∨ (¬ x2 = x3 ∧ da = db ∧ fa < tB ∧ fb < tA))) := by
        intro n1 n2 h
        rcases (h : tr_d_X2_areCrossing_2 fa tA fb tB z) with ⟨c, hz⟩ | ⟨c, h⟩
        · refine Or.inr ⟨hz, ?_⟩
          rintro (g | g | g)
          · exact n2 g
          · omega
          · exact n1 g.2
        · rcases h with ⟨c2, hz⟩ | ⟨c2, h⟩
          · refine Or.inr ⟨hz, ?_⟩
            rintro (g | g | g)
            · exact n2 g
            · omega
            · exact n1 g.2
          · rcases h with ⟨c3, hz⟩ | ⟨c3, hz⟩
            · refine Or.inr ⟨hz, ?_⟩
              rintro (g | g | g)
              · exact n2 g
              · omega
              · exact n1 g.2
            · exact Or.inl ⟨hz, Or.inr (Or.inl ⟨by omega, by omega, by omega⟩)⟩
      have d1 : ¬ (da = db ∧ fa < tB ∧ fb < tA) → d_X2_areCrossing_1 fa tA fb tB z → (z = 1 ∧ ((fa < fb ∧ fb < tA ∧ tA < tB) ∨ (fb < fa ∧ fa < tB ∧ tB < tA) ∨ (¬ x2 = x3 ∧ da = db ∧ fa < tB ∧ fb < tA))) ∨ (z = 0 ∧ ¬ ((fa < fb ∧ fb < tA ∧ tA < tB) ∨ (fb < fa ∧ fa < tB ∧ tB < tA) ∨ (¬ x2 = x3 ∧ da = db ∧ fa < tB ∧ fb < tA))) := by
        intro n1 h
        rcases (h : tr_d_X2_areCrossing_1 fa tA fb tB z) with ⟨c, h⟩ | ⟨c, h⟩
        · exact d2 n1 (fun g => by omega) h
        · rcases h with ⟨c2, h⟩ | ⟨c2, h⟩
          · exact d2 n1 (fun g => by omega) h
          · rcases h with ⟨c3, hz⟩ | ⟨c3, h⟩
            · exact Or.inl ⟨hz, Or.inl ⟨by omega, by omega, c3⟩⟩
            · exact d2 n1 (fun g => by omega) h
      rcases h with ⟨c, h⟩ | ⟨c, h⟩
      · exact d1 (fun g => c g.1) h
      · rcases h with ⟨c2, h⟩ | ⟨c2, h⟩
        · exact d1 (fun g => by have := g.2.1; omega) h
        · rcases h with ⟨c3, h⟩ | ⟨c3, hz⟩
          · exact d1 (fun g => by have := g.2.2; omega) h
          · exact Or.inl ⟨hz, Or.inr (Or.inr ⟨hne, c, by omega, by omega⟩)⟩
    · rcases thr6 t5 with ⟨g, _⟩ | ⟨_, g⟩
      · rw [g] at c; exact absurd c (by decide)
      · exact absurd h3 g
/-- the musts of both -/
theorem must_at {B A : St} (hIK : IK B) (hIM : IM A) (hp : PSs B A) {k : Nat} (hk : (k : Int) < A 25 (A 0 12).toNat) {t : Nat} (ht : t = 51 + 31 * (B 0 9).toNat) : A 26 (6 * (A 0 12) + (k : Int)).toNat = B (t + 13) k ∧ A 27 (6 * (A 0 12) + (k : Int)).toNat = B (t + 14) k ∧ A 28 (6 * (A 0 12) + (k : Int)).toNat = B (t + 15) k := by
  have r12 : (0 : Int) ≤ A 0 12 := (hIM 0 12).1
  have ix : (6 * (A 0 12) + (k : Int)).toNat = 6 * (A 0 12).toNat + k := by omega
  obtain ⟨_, hc, _, _, _, _, _, _, hm, _⟩ := hp.2
  have c := hc.2.1
  rw [ix, ht]
  exact hm k (by rw [← c]; exact hk)
theorem must_n {B A : St} (hp : PSs B A) {t : Nat} (ht : t = 51 + 31 * (B 0 9).toNat) : A 25 (A 0 12).toNat = B (t + 1) 6 := by
  obtain ⟨_, hc, _⟩ := hp.2
  rw [ht]
  exact hc.2.1
def dg (D : Nat) : Nat → Nat → List Nat
  | 0, _ => []
  | m + 1, v => (v % D) :: dg D m (v / D)
def gd (L : Nat) : Nat → List Nat → Bool
  | _, [] => true
  | U, x :: r => (L.testBit x && !U.testBit x) && gd L (U ||| 2 ^ x) r
def rf (l : List Nat) (j : Nat) : Int := ((l.getD (l.length - 1 - j) 0 : Nat) : Int)
/-- how many are left behind all trials; -1 where the row does not agree -/
def lf (f td to : Nat → Int) : Nat → Nat → Int → Int
  | 0, _, w => w
  | n + 1, i, w => if 0 < w ∧ f (w - 1).toNat = td i then (if to i = 0 then -1 else lf f td to n (i + 1) (w - 1)) else (if to i = 0 then lf f td to n (i + 1) w else -1)
/-! The rows of a key that was found, one by one. -/
def ev (L : Nat) (td to : Nat → Int) (n : Nat) (l : List Nat) : List (List Nat) := if gd L 0 l = true ∧ ¬ lf (rf l) td to n 0 (l.length : Int) = -1 then [l] else []
def FXM (b D L n : Nat) (td to : Nat → Int) (A : St) : Prop := A 0 12 = (b : Int) ∧ A 4 b = (D : Int) ∧ (∀ k, k < D → (A 10 (10 * b + k) = 0 ↔ L.testBit k = false)) ∧ A 0 75 = (n : Int) ∧ ∀ i, i < n → A 52 i = td i ∧ A 53 i = to i
theorem FXM.fr {b D L n : Nat} {td to : Nat → Int} {A B : St} (h : FXM b D L n td to A) (g : fr [54] [78, 80] A B) : FXM b D L n td to B := by
  obtain ⟨h1, h2, h3, h4, h5⟩ := h
  refine ⟨(g.2 12 rfl).trans h1, ?_, ?_, (g.2 75 rfl).trans h4, ?_⟩
  · rw [g.1 4 (by decide) rfl]; exact h2
  · rw [g.1 10 (by decide) rfl]; exact h3
  · rw [g.1 52 (by decide) rfl, g.1 53 (by decide) rfl]; exact h5
def FX (t D L n : Nat) (td to : Nat → Int) (A : St) : Prop := A (t + 1) 1 = (D : Int) ∧ A t 15 = (L : Int) ∧ A 22 4 = (n : Int) ∧ ∀ i, i < n → A 23 i = td i ∧ A 24 i = to i
theorem FX.fk {t D L n : Nat} {td to : Nat → Int} {A B : St} (ht : isT t) (h : FX t D L n td to A) (g : fk [25, 26] [(22, 5), (22, 6), (22, 7)] A B) : FX t D L n td to B := by
  obtain ⟨h1, h2, h3, h4⟩ := h
  refine ⟨?_, ?_, (g 22 4 rfl rfl).trans h3, fun i hi => ⟨(g 23 i rfl rfl).trans (h4 i hi).1, (g 24 i rfl rfl).trans (h4 i hi).2⟩⟩
  · rcases ht with e | e
    · subst e; exact (g 52 1 rfl rfl).trans h1
    · subst e; exact (g 83 1 rfl rfl).trans h1
  · rcases ht with e | e
    · subst e; exact (g 51 15 rfl rfl).trans h2
    · subst e; exact (g 82 15 rfl rfl).trans h2
/-! trial, fits, would: both answer alike. -/
def TRc (B A : St) : Prop := ∀ k : Nat, (k : Int) < A 0 75 → B 23 k = A 52 k ∧ B 24 k = A 53 k
theorem TRc.fr {B A B2 A2 : St} (h : TRc B A) (h1 : B2 23 = B 23 ∧ B2 24 = B 24) (h2 : A2 52 = A 52 ∧ A2 53 = A 53) (h75 : A2 0 75 ≤ A 0 75) : TRc B2 A2 := by
  intro k hk
  rw [h1.1, h1.2, h2.1, h2.2]
  exact h k (by omega)
theorem isT_of {B : St} (hIK : IK B) : isT (51 + 31 * (B 0 9).toNat) := by
  have r9 : (0 : Int) ≤ B 0 9 ∧ B 0 9 ≤ 1 := hIK 0 9
  rcases (show B 0 9 = 0 ∨ B 0 9 = 1 by omega) with e | e
  · rw [e]; exact Or.inl rfl
  · rw [e]; exact Or.inr rfl
