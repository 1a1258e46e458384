/-! The reference's town. -/
theorem bad_stmt {f : Nat → Int} {N p : Nat} {T : St} (h : tKind f N p = 4) : sStmt f N T p = none := sStmt_none (Or.inl (by omega))
theorem bad_townL {f : Nat → Int} {N p n : Nat} {T : St} (h : tKind f N p = 4) : ∀ k, sTownL f N k n T p = none
  | 0 => rfl
  | k + 1 => by
    show (if tKind f N p = 0 then some (n, T) else (sStmt f N T p).bind fun a => (sSign f N 59 a.2).bind fun e => sTownL f N k (n + 1) a.1 e) = none
    rw [if_neg (by omega), bad_stmt h]
    rfl
theorem sTownL_st {f : Nat → Int} {N p n k : Nat} {T : St} (h : ¬ tKind f N p = 0) : sTownL f N (k + 1) n T p = (sSt f N T p).bind fun a => sTownL f N k (n + 1) a.1 a.2 := by
  show (if tKind f N p = 0 then some (n, T) else (sStmt f N T p).bind fun a => (sSign f N 59 a.2).bind fun e => sTownL f N k (n + 1) a.1 e) = _
  rw [if_neg h]
  unfold sSt
  simp only [Option.bind_assoc, Option.bind_some]
/-- the town's answer -/
def MX (b : Nat) (r : Option (Nat × St)) (z : Int) (u : St) : Prop := (∃ a, r = some a ∧ z = (a.1 : Int) ∧ MR b u a.2 ∧ u 0 12 = (b : Int)) ∨ (r = none ∧ z = -1)
theorem town2_f {A0 B u : St} {z i : Int} (h : 1 ≤ B 0 8) (hq : d_X12_town_2 i A0 B z u) : z = -1 := by
  rcases (hq : tr_d_X12_town_2 i A0 B z u) with ⟨c, _⟩ | ⟨_, A28, _, z29, A30, hr, hz, _⟩
  · omega
  · rw [hz]; exact hr.2.2.2
theorem town1_f {A0 B u : St} {z i : Int} {nn : Nat} (h : 1 ≤ B 0 8) (hq : d_X12_town_1 A0 z u nn i B) : z = -1 := by
  cases nn with
  | zero => exact hq.elim
  | succ nn =>
    obtain ⟨_, _, hq⟩ := (hq : tr_d_X12_town_1 A0 z u (fun z5 A7 => d_X12_town_1 A0 z u nn z5 A7) i B)
    rcases hq with ⟨_, hq⟩ | ⟨c, _⟩
    · exact town2_f h hq
    · omega
theorem M_townL {f : Nat → Int} {N b : Nat} {A0 u : St} {z : Int} (hb : -(A0 0 12) + 1 = (b : Int)) : ∀ (nn i : Nat) (A T : St) (p : Nat), MS f N b p A → MR b A T → T 19 2 ≤ (p : Int) → i ≤ p → d_X12_town_1 A0 z u nn (i : Int) A → MX b (sTownL f N (1601 - i) i T p) z u := by
  intro nn
  induction nn with
  | zero => intro i A T p _ _ _ _ hq; exact hq.elim
  | succ nn ih =>
    intro i A T p h hR hT hip hq
    have N16 : N ≤ 1600 := h.1.2.1
    have hpN := h.le
    obtain ⟨k, hk⟩ : ∃ k, 1601 - i = k + 1 := ⟨1600 - i, by omega⟩
    obtain ⟨hI, _, hq⟩ := (hq : tr_d_X12_town_1 A0 z u (fun z5 A7 => d_X12_town_1 A0 z u nn z5 A7) i A)
    rw [hk]
    rcases hq with ⟨c, _⟩ | ⟨_, hq⟩
    · exact absurd h.ns c
    · rcases hq with ⟨c0, hq⟩ | ⟨c0, A19, hst, z24, hz24, hq⟩
      · have tk : tKind f N p = 0 := by rw [← h.sg]; exact c0
        have e : sTownL f N (k + 1) i T p = some (i, T) := by
          show (if tKind f N p = 0 then some (i, T) else _) = _
          rw [if_pos tk]
        rw [e]
        rcases (hq : tr_d_X12_town_2 (i : Int) A0 A z u) with ⟨_, A27, e27, hz, hu⟩ | ⟨c, _⟩
        · refine Or.inl ⟨(i, T), rfl, hz, ?_, ?_⟩
          · refine hR.rq ?_
            rw [hu, e27]
            exact rq.rf.s0.s0.s0.s0
          · rw [hu, e27]
            exact hb
        · exact absurd (Int.le_of_eq h.ns) c
      · have tk : ¬ tKind f N p = 0 := by rw [← h.sg]; exact c0
        rw [sTownL_st tk]
        have e24 : z24 = ((i + 1 : Nat) : Int) := by
          rw [hz24]
          exact oWrap_id ⟨by omega, by omega⟩
        rcases M_statement hI h hR hT hst with ⟨_, a, sa, mr, ms, cd, pa⟩ | ⟨f1, bd⟩
        · rw [sa]
          show MX b (sTownL f N k (i + 1) a.1 a.2) z u
          rw [show k = 1601 - (i + 1) by omega]
          rw [e24] at hq
          exact ih (i + 1) A19 a.1 a.2 ms mr cd (by omega) hq
        · refine Or.inr ⟨?_, town1_f f1 hq⟩
          rcases bd with bd | ⟨a, ha, t4⟩
          · rw [bd]; rfl
          · rw [ha]; exact bad_townL t4 k
theorem MR_0 {b : Nat} {A T : St} (h : A 2 b = 0 ∧ A 4 b = 0 ∧ A 11 b = 0 ∧ A 16 b = 0 ∧ A 19 b = 0 ∧ A 22 b = 0 ∧ A 25 b = 0 ∧ A 29 b = 0) : MR b A (sClear T) := by
  have nk : ∀ (o : Nat) (g h : Nat → Int), NKx 0 o g h := fun o g h j hj => absurd hj (by omega)
  refine ⟨⟨⟨h.1, nk _ _ _⟩, ⟨h.2.1, nk _ _ _⟩, ⟨h.2.2.1, nk _ _ _⟩, ⟨h.2.2.2.1, nk _ _ _⟩, ⟨h.2.2.2.2.1, nk _ _ _⟩⟩, ⟨h.2.2.2.2.2.1, h.2.2.2.2.2.2.1, h.2.2.2.2.2.2.2⟩, fun w => Or.inl rfl, ?_, ?_, ⟨⟨(by decide : (0 : Int) ≤ 0), (by decide : (0 : Int) < 1024)⟩, ?_, ?_⟩, ⟨?_, ?_⟩, ?_, ?_, ?_, ?_, ?_⟩
  · intro k hk; exact absurd (show (k : Int) < 0 from hk) (by omega)
  · intro k hk; exact absurd (show (k : Int) < 0 from hk) (by omega)
  · intro k hk; exact absurd (show (k : Int) < 0 from hk) (by omega)
  · intro k _; show (0 : Nat).testBit k = false; exact Nat.zero_testBit k
  · intro k hk; exact absurd (show (k : Int) < 0 from hk) (by omega)
  · intro k hk _
    rcases (show k = 0 ∨ k = 1 ∨ k = 2 ∨ k = 3 by omega) with rfl | rfl | rfl | rfl <;> rfl
  · intro k hk; exact absurd (show (k : Int) < 0 from hk) (by omega)
  · intro k hk; exact absurd (show (k : Int) < 0 from hk) (by omega)
  · intro q hq
    have e : sClear T 12 q = 0 := by
      rcases (show q = 0 ∨ q = 1 ∨ q = 2 by omega) with rfl | rfl | rfl <;> rfl
    have b0 : bc 0 = 0 := by decide +kernel
    rw [e, b0]
    refine ⟨⟨by decide, by decide, by decide⟩, rfl, fun t _ => ⟨fun g => ?_, fun g => ?_⟩⟩
    · have g : (0 : Nat).testBit t = true := g
      rw [Nat.zero_testBit] at g
      exact absurd g (by decide)
    · obtain ⟨i, hi, _⟩ := g
      exact absurd (show (i : Int) < 0 from hi) (by omega)
  · intro k hk; exact absurd (show (k : Int) < 0 from hk) (by omega)
  · intro k hk; exact absurd (show (k : Int) < 0 from hk) (by omega)
theorem M_town {f : Nat → Int} {N b : Nat} {A u T : St} {z : Int} (hN : A 0 1 = (N : Int)) (h16 : N ≤ 1600) (hf : ∀ k, k < N → f k = A 1 k) (hb : -(A 0 12) + 1 = (b : Int)) (hb1 : b ≤ 1) (hq : q_X12_town A z u) : MX b (sTown f N T) z u := by
  obtain ⟨A1, e1, A2, ha, nn, hq⟩ := (hq.1 : tr_r_X12_town A z u)
  rw [hb, Int.toNat_natCast] at e1
  have hG : MG f N b 0 A1 := by
    rw [e1]
    exact ⟨⟨hN, h16, hf⟩, rfl, hb1, rfl, by omega, rfl⟩
  obtain ⟨mo, q⟩ := hG.ahead ha
  unfold sTown
  rcases mo with ⟨t4, f1⟩ | ⟨_, ms⟩
  · exact Or.inr ⟨bad_townL t4 1601, town1_f f1 hq⟩
  · have mr : MR b A2 (sClear T) := by
      refine MR.rq (MR_0 ?_) q
      rw [e1]
      exact ⟨up_same _ _ _, up_same _ _ _, up_same _ _ _, up_same _ _ _, up_same _ _ _, up_same _ _ _, up_same _ _ _, up_same _ _ _⟩
    exact M_townL hb nn 0 A2 (sClear T) 0 ms mr (by decide : (0 : Int) ≤ 0) (Nat.le_refl 0) hq
