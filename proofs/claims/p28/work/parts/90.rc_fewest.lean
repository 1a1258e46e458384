/-! The fewest keys: both find the same one first. -/
def cxB (fa ta da fb tb db a b : Int) : Bool := decide ((fa < fb ∧ fb < ta ∧ ta < tb) ∨ (fb < fa ∧ fa < tb ∧ tb < ta) ∨ (¬ a = b ∧ da = db ∧ fa < tb ∧ fb < ta))
theorem cxB_iff {fa ta da fb tb db a b : Int} : cxB fa ta da fb tb db a b = true ↔ cxP fa ta da fb tb db a b := by
  unfold cxB
  exact decide_eq_true_iff
def pf (p : List Nat) (o : Nat) : Nat := p.getD (p.length - 1 - o) 0
theorem pf_hd {c : Nat} {p : List Nat} : pf (c :: p) p.length = c := by
  unfold pf
  rw [show (c :: p).length - 1 - p.length = 0 by show p.length + 1 - 1 - p.length = 0; omega]
  rfl
theorem pf_tl {c o : Nat} {p : List Nat} (h : o < p.length) : pf (c :: p) o = pf p o := by
  unfold pf
  rw [show (c :: p).length - 1 - o = (p.length - 1 - o) + 1 by show p.length + 1 - 1 - o = (p.length - 1 - o) + 1; omega]
  rfl
def cTb (cr : Nat → Nat → Bool) (m k : Nat) : List Nat → Bool
  | [] => true
  | x :: p => !(Nat.beq x k && cr p.length m) && cTb cr m k p
theorem cTb_iff {cr : Nat → Nat → Bool} {m k : Nat} : ∀ p : List Nat, cTb cr m k p = true ↔ ∀ o, o < p.length → ¬ (pf p o = k ∧ cr o m = true) := by
  intro p
  induction p with
  | nil => exact ⟨fun _ o h => absurd h (Nat.not_lt_zero o), fun _ => rfl⟩
  | cons x p ih =>
    show (!(Nat.beq x k && cr p.length m) && cTb cr m k p) = true ↔ _
    rw [Bool.and_eq_true, ih]
    constructor
    · rintro ⟨h1, h2⟩ o ho
      by_cases e : o = p.length
      · subst e
        rw [pf_hd]
        rintro ⟨g1, g2⟩
        rw [g1, g2, Nat.beq_refl] at h1
        exact absurd h1 (by decide)
      · have ho : o < p.length + 1 := ho
        rw [pf_tl (by omega)]
        exact h2 o (by omega)
    · intro h
      refine ⟨?_, fun o ho => ?_⟩
      · have g := h p.length (Nat.lt_succ_self _)
        rw [pf_hd] at g
        cases h1 : Nat.beq x k with
        | false => rfl
        | true =>
          cases h2 : cr p.length m with
          | false => rfl
          | true => exact absurd ⟨Nat.eq_of_beq_eq_true h1, h2⟩ g
      · have g := h o (Nat.lt_succ_of_lt ho)
        rw [pf_tl ho] at g
        exact g
def orE (a b : Option (List Nat)) : Option (List Nat) := match a with
  | some s => some s
  | none => b
theorem orE_assoc {a b c : Option (List Nat)} : orE (orE a b) c = orE a (orE b c) := by
  cases a <;> rfl
theorem orE_none {a : Option (List Nat)} : orE a none = a := by
  cases a <;> rfl
def fstK (h : Nat → Option (List Nat)) : Nat → Nat → Option (List Nat)
  | 0, _ => none
  | c + 1, k => orE (h k) (fstK h c (k + 1))
def sl (cr : Nat → Nat → Bool) (n : Nat) : Nat → List Nat → Option (List Nat)
  | 0, p => some p
  | f + 1, p => fstK (fun k => bif cTb cr p.length k p then sl cr n f (k :: p) else none) n 0
def hh (cr : Nat → Nat → Bool) (n f : Nat) (p : List Nat) (k : Nat) : Option (List Nat) := bif cTb cr p.length k p then sl cr n f (k :: p) else none
theorem sl_ss {cr : Nat → Nat → Bool} {n f : Nat} {p : List Nat} : sl cr n (f + 1) p = fstK (hh cr n f p) n 0 := rfl
def bt (cr : Nat → Nat → Bool) (n : Nat) : Nat → List Nat → Option (List Nat)
  | _, [] => none
  | f, c :: p => orE (fstK (hh cr n f p) (n - (c + 1)) (c + 1)) (bt cr n (f + 1) p)
def FY (t M : Nat) (fa ta da : Nat → Int) (A : St) : Prop := A (t + 1) 6 = (M : Int) ∧ ∀ k, k < M → A (t + 14) k = fa k ∧ A (t + 15) k = ta k ∧ A (t + 13) k = da k
theorem FY.fk {t M : Nat} {fa ta da : Nat → Int} {A B : St} (ht : isT t) (h : FY t M fa ta da A) (g : fk [21] [] A B) : FY t M fa ta da B := by
  have e : ∀ j k, 21 < j → B j k = A j k := by
    intro j k hj
    refine g j k ?_ rfl
    cases hc : ([21] : List Nat).contains j with
    | false => rfl
    | true =>
      have := List.contains_iff_mem.mp hc
      simp at this
      omega
  have t51 : 51 ≤ t := by rcases ht with e | e <;> omega
  refine ⟨(e _ _ (by omega)).trans h.1, fun k hk => ?_⟩
  rw [e _ _ (by omega), e _ _ (by omega), e _ _ (by omega)]
  exact h.2 k hk
def crF (fa ta da : Nat → Int) (a b : Nat) : Bool := cxB (fa a) (ta a) (da a) (fa b) (ta b) (da b) (a : Int) (b : Int)
theorem K_can {t M m key : Nat} {fa ta da : Nat → Int} {A : St} {z : Int} {p : List Nat} (hY : FY t M fa ta da A) (hp : p.length = m) (hm : m < M) (hA : ∀ o, o < m → A 21 o = (pf p o : Int)) (h : q_X2_canTake t (m : Int) (key : Int) A z) (h6 : M ≤ 6) : (z = 1 ∧ cTb (crF fa ta da) p.length key p = true) ∨ (z = 0 ∧ cTb (crF fa ta da) p.length key p = false) := by
  have ci := cTb_iff (cr := crF fa ta da) (m := m) (k := key) p
  rw [hp] at ci ⊢
  have loop : ∀ (nn o : Nat), o ≤ m → (∀ a, a < o → ¬ (pf p a = key ∧ crF fa ta da a m = true)) → d_X2_canTake_1 t (m : Int) (key : Int) A z nn (o : Int) → (z = 1 ∧ cTb (crF fa ta da) m key p = true) ∨ (z = 0 ∧ cTb (crF fa ta da) m key p = false) := by
    intro nn
    induction nn with
    | zero => intro o _ _ h; exact h.elim
    | succ nn ih =>
      intro o ho hok h
      obtain ⟨_, h⟩ := (h : tr_d_X2_canTake_1 t (m : Int) (key : Int) A z (fun z1 => d_X2_canTake_1 t (m : Int) (key : Int) A z nn z1) (o : Int))
      rcases h with ⟨c, hz⟩ | ⟨c, h⟩
      · refine Or.inl ⟨hz, ci.mpr (fun a ha => hok a (by omega))⟩
      · have hom : o < m := by omega
        rcases h with ⟨c2, _⟩ | ⟨_, z9, e9, h⟩
        · omega
        · rw [Int.toNat_natCast, hA o hom] at e9
          rcases h with ⟨c3, h⟩ | ⟨c3, z12, hc, h⟩
          · refine ih (o + 1) hom (fun a ha => ?_) (h : tr_d_X2_canTake_2 _ (o : Int) z)
            by_cases e : a = o
            · rw [e]; exact fun g => c3 (by omega)
            · exact hok a (by omega)
          · have ck := crs_K (ta := t) (x2 := (o : Int)) (x3 := (m : Int)) ⟨by omega, by rw [hY.1]; omega⟩ ⟨by omega, by rw [hY.1]; omega⟩ (by omega) hc
            have f1 := hY.2 o (by omega)
            have f2 := hY.2 m hm
            rw [Int.toNat_natCast, Int.toNat_natCast, f1.1, f1.2.1, f1.2.2, f2.1, f2.2.1, f2.2.2] at ck
            rcases h with ⟨c4, h⟩ | ⟨c4, hz⟩
            · refine ih (o + 1) hom (fun a ha => ?_) (h : tr_d_X2_canTake_2 _ (o : Int) z)
              by_cases e : a = o
              · rw [e]
                rintro ⟨_, g⟩
                rcases ck with ⟨k1, _⟩ | ⟨_, k2⟩
                · omega
                · exact k2 (cxB_iff.mp g)
              · exact hok a (by omega)
            · refine Or.inr ⟨hz, ?_⟩
              cases hb : cTb (crF fa ta da) m key p with
              | false => rfl
              | true =>
                refine absurd ⟨by omega, ?_⟩ (ci.mp hb o (by omega))
                rcases ck with ⟨_, k2⟩ | ⟨k1, _⟩
                · exact cxB_iff.mpr k2
                · exact absurd k1 c4
  obtain ⟨nn, h⟩ := (h.1 : tr_r_X2_canTake t (m : Int) (key : Int) A z)
  exact loop nn 0 (Nat.zero_le m) (fun a ha => absurd ha (Nat.not_lt_zero a)) h
/-- the class's loop over keys, at any depth -/
def LPg (CT : Int → St → Int → Prop) (NX : St → Int → St → Prop) (m : Nat) (n z : Int) (u : St) : Nat → Int → St → Prop
  | 0, _, _ => False
  | nn + 1, key, A => (0 ≤ key) ∧ ((n ≤ key ∧ z = 0 ∧ u = A) ∨ (¬ n ≤ key ∧ ∃ z13 : Int, CT key A z13 ∧ ((z13 = 0 ∧ LPg CT NX m n z u nn (key + 1) A) ∨ (¬ z13 = 0 ∧ ∃ z19 : Int, ∃ A20 : St, NX (stA A 21 m key) z19 A20 ∧ ((z19 = 0 ∧ LPg CT NX m n z u nn (key + 1) A20) ∨ (¬ z19 = 0 ∧ z = 1 ∧ u = A20))))))
/-- what one depth gives -/
def OK21 (M : Nat) (r : Option (List Nat)) (p : List Nat) (A : St) (z : Int) (u : St) : Prop := fk [21] [] A u ∧ ((z = 1 ∧ ∃ s, r = some s ∧ ∀ j, j < M → u 21 j = (pf s j : Int)) ∨ (z = 0 ∧ r = none ∧ ∀ j, j < p.length → u 21 j = A 21 j))
theorem LP_ok {t M m n f : Nat} {fa ta da : Nat → Int} {z : Int} {u : St} {NX : St → Int → St → Prop} {p : List Nat} (ht : isT t) (h6 : M ≤ 6) (hp : p.length = m) (hm : m + (f + 1) = M) (hN : ∀ (k : Nat) (A : St) (z : Int) (u : St), FY t M fa ta da A → (∀ o, o < m + 1 → A 21 o = (pf (k :: p) o : Int)) → NX A z u → OK21 M (sl (crF fa ta da) n f (k :: p)) (k :: p) A z u) : ∀ (nn key : Nat) (A : St), FY t M fa ta da A → (∀ o, o < m → A 21 o = (pf p o : Int)) → LPg (fun key A z13 => q_X2_canTake t (m : Int) key A z13) NX m (n : Int) z u nn (key : Int) A → OK21 M (fstK (hh (crF fa ta da) n f p) (n - key) key) p A z u := by
  intro nn
  induction nn with
  | zero => intro key A _ _ h; exact h.elim
  | succ nn ih =>
    intro key A hY hA h
    rcases h.2 with ⟨c, hz, hu⟩ | ⟨c, z13, hct, h⟩
    · rw [show n - key = 0 by omega, hu]
      exact ⟨fk.rf, Or.inr ⟨hz, rfl, fun j _ => rfl⟩⟩
    · obtain ⟨k, hk⟩ : ∃ k, n - key = k + 1 := ⟨n - key - 1, by omega⟩
      have ct := K_can hY hp (by omega) hA hct h6
      have hs : fstK (hh (crF fa ta da) n f p) (k + 1) key = orE (hh (crF fa ta da) n f p key) (fstK (hh (crF fa ta da) n f p) k (key + 1)) := rfl
      have ks : n - (key + 1) = k := by omega
      rw [hk, hs]
      rcases h with ⟨c2, h⟩ | ⟨c2, z19, A20, hn, h⟩
      · have e0 : hh (crF fa ta da) n f p key = none := by
          rcases ct with ⟨k1, _⟩ | ⟨_, k2⟩
          · omega
          · unfold hh; rw [k2]; rfl
        have g := ih (key + 1) A hY hA h
        rw [ks] at g
        rw [e0]
        exact g
      · have e1 : hh (crF fa ta da) n f p key = sl (crF fa ta da) n f (key :: p) := by
          rcases ct with ⟨_, k2⟩ | ⟨k1, _⟩
          · unfold hh; rw [k2]; rfl
          · exact absurd k1 c2
        have fA : fk [21] [] A (stA A 21 m (key : Int)) := fk.rf.da rfl rfl
        have pre : ∀ o, o < m + 1 → (stA A 21 m (key : Int)) 21 o = (pf (key :: p) o : Int) := by
          intro o ho
          show up (A 21) m (key : Int) o = _
          by_cases e : o = m
          · rw [e, up_same, ← hp, pf_hd]
          · rw [up_ne _ _ e, pf_tl (by omega)]
            exact hA o (by omega)
        have g := hN key _ z19 A20 (hY.fk ht fA) pre hn
        have f20 : fk [21] [] A A20 := fk.trans fA g.1 rfl rfl
        rw [e1]
        rcases g.2 with ⟨g1, s, g2, g3⟩ | ⟨g1, g2, g3⟩
        · rcases h with ⟨c3, _⟩ | ⟨_, hz, hu⟩
          · omega
          · rw [g2, hu]
            exact ⟨f20, Or.inl ⟨hz, s, rfl, g3⟩⟩
        · rcases h with ⟨_, h⟩ | ⟨c3, _⟩
          · have low : ∀ o, o < m → A20 21 o = A 21 o := by
              intro o ho
              rw [g3 o (by show o < p.length + 1; omega)]
              exact up_ne _ _ (by omega)
            have g4 := ih (key + 1) A20 (hY.fk ht f20) (fun o ho => (low o ho).trans (hA o ho)) h
            rw [ks] at g4
            rw [g2]
            refine ⟨fk.trans f20 g4.1 rfl rfl, ?_⟩
            rcases g4.2 with q | ⟨q1, q2, q3⟩
            · exact Or.inl q
            · exact Or.inr ⟨q1, q2, fun j hj => (q3 j hj).trans (low j (by omega))⟩
          · exact absurd g1 c3
theorem lp_0 {t : Nat} {n z : Int} {u : St} : ∀ (nn : Nat) (key : Int) (A : St), d_X2_giveKeys_2_0_1 t n z u nn key A → LPg (fun key A z13 => q_X2_canTake t ((0 : Nat) : Int) key A z13) (fun A z u => q_X2_giveKeys_2_1 t n A z u) 0 n z u nn key A := by
  intro nn
  induction nn with
  | zero => intro key A h; exact h
  | succ nn ih =>
    intro key A h
    obtain ⟨_, r, h⟩ := (h : tr_d_X2_giveKeys_2_0_1 t n z u (fun z4 A6 => d_X2_giveKeys_2_0_1 t n z u nn z4 A6) key A)
    refine ⟨r.1, ?_⟩
    rcases h with h | ⟨c, z13, ht, h⟩
    · exact Or.inl h
    · refine Or.inr ⟨c, z13, ht, ?_⟩
      rcases h with ⟨c2, h⟩ | ⟨c2, A18, e18, z19, A20, hn, h⟩
      · exact Or.inl ⟨c2, ih _ _ (h : tr_d_X2_giveKeys_2_0_2 _ key z u A).2⟩
      · refine Or.inr ⟨c2, z19, A20, (show q_X2_giveKeys_2_1 t n (stA A 21 0 key) z19 A20 from e18 ▸ hn), ?_⟩
        rcases h with ⟨c3, h⟩ | h
        · exact Or.inl ⟨c3, ih _ _ (h : tr_d_X2_giveKeys_2_0_2 _ key z u A20).2⟩
        · exact Or.inr h
theorem lp_1 {t : Nat} {n z : Int} {u : St} : ∀ (nn : Nat) (key : Int) (A : St), d_X2_giveKeys_2_1_1 t n z u nn key A → LPg (fun key A z13 => q_X2_canTake t ((1 : Nat) : Int) key A z13) (fun A z u => q_X2_giveKeys_2_2 t n A z u) 1 n z u nn key A := by
  intro nn
  induction nn with
  | zero => intro key A h; exact h
  | succ nn ih =>
    intro key A h
    obtain ⟨_, r, h⟩ := (h : tr_d_X2_giveKeys_2_1_1 t n z u (fun z4 A6 => d_X2_giveKeys_2_1_1 t n z u nn z4 A6) key A)
    refine ⟨r.1, ?_⟩
    rcases h with h | ⟨c, z13, ht, h⟩
    · exact Or.inl h
    · refine Or.inr ⟨c, z13, ht, ?_⟩
      rcases h with ⟨c2, h⟩ | ⟨c2, A18, e18, z19, A20, hn, h⟩
      · exact Or.inl ⟨c2, ih _ _ (h : tr_d_X2_giveKeys_2_1_2 _ key z u A).2⟩
      · refine Or.inr ⟨c2, z19, A20, (show q_X2_giveKeys_2_2 t n (stA A 21 1 key) z19 A20 from e18 ▸ hn), ?_⟩
        rcases h with ⟨c3, h⟩ | h
        · exact Or.inl ⟨c3, ih _ _ (h : tr_d_X2_giveKeys_2_1_2 _ key z u A20).2⟩
        · exact Or.inr h
theorem lp_2 {t : Nat} {n z : Int} {u : St} : ∀ (nn : Nat) (key : Int) (A : St), d_X2_giveKeys_2_2_1 t n z u nn key A → LPg (fun key A z13 => q_X2_canTake t ((2 : Nat) : Int) key A z13) (fun A z u => q_X2_giveKeys_2_3 t n A z u) 2 n z u nn key A := by
  intro nn
  induction nn with
  | zero => intro key A h; exact h
  | succ nn ih =>
    intro key A h
    obtain ⟨_, r, h⟩ := (h : tr_d_X2_giveKeys_2_2_1 t n z u (fun z4 A6 => d_X2_giveKeys_2_2_1 t n z u nn z4 A6) key A)
    refine ⟨r.1, ?_⟩
    rcases h with h | ⟨c, z13, ht, h⟩
    · exact Or.inl h
    · refine Or.inr ⟨c, z13, ht, ?_⟩
      rcases h with ⟨c2, h⟩ | ⟨c2, A18, e18, z19, A20, hn, h⟩
      · exact Or.inl ⟨c2, ih _ _ (h : tr_d_X2_giveKeys_2_2_2 _ key z u A).2⟩
      · refine Or.inr ⟨c2, z19, A20, (show q_X2_giveKeys_2_3 t n (stA A 21 2 key) z19 A20 from e18 ▸ hn), ?_⟩
        rcases h with ⟨c3, h⟩ | h
        · exact Or.inl ⟨c3, ih _ _ (h : tr_d_X2_giveKeys_2_2_2 _ key z u A20).2⟩
        · exact Or.inr h
theorem lp_3 {t : Nat} {n z : Int} {u : St} : ∀ (nn : Nat) (key : Int) (A : St), d_X2_giveKeys_2_3_1 t n z u nn key A → LPg (fun key A z13 => q_X2_canTake t ((3 : Nat) : Int) key A z13) (fun A z u => q_X2_giveKeys_2_4 t n A z u) 3 n z u nn key A := by
  intro nn
  induction nn with
  | zero => intro key A h; exact h
  | succ nn ih =>
    intro key A h
    obtain ⟨_, r, h⟩ := (h : tr_d_X2_giveKeys_2_3_1 t n z u (fun z4 A6 => d_X2_giveKeys_2_3_1 t n z u nn z4 A6) key A)
    refine ⟨r.1, ?_⟩
    rcases h with h | ⟨c, z13, ht, h⟩
    · exact Or.inl h
    · refine Or.inr ⟨c, z13, ht, ?_⟩
      rcases h with ⟨c2, h⟩ | ⟨c2, A18, e18, z19, A20, hn, h⟩
      · exact Or.inl ⟨c2, ih _ _ (h : tr_d_X2_giveKeys_2_3_2 _ key z u A).2⟩
      · refine Or.inr ⟨c2, z19, A20, (show q_X2_giveKeys_2_4 t n (stA A 21 3 key) z19 A20 from e18 ▸ hn), ?_⟩
        rcases h with ⟨c3, h⟩ | h
        · exact Or.inl ⟨c3, ih _ _ (h : tr_d_X2_giveKeys_2_3_2 _ key z u A20).2⟩
        · exact Or.inr h
theorem lp_4 {t : Nat} {n z : Int} {u : St} : ∀ (nn : Nat) (key : Int) (A : St), d_X2_giveKeys_2_4_1 t n z u nn key A → LPg (fun key A z13 => q_X2_canTake t ((4 : Nat) : Int) key A z13) (fun A z u => q_X2_giveKeys_2_5 t n A z u) 4 n z u nn key A := by
  intro nn
  induction nn with
  | zero => intro key A h; exact h
  | succ nn ih =>
    intro key A h
    obtain ⟨_, r, h⟩ := (h : tr_d_X2_giveKeys_2_4_1 t n z u (fun z4 A6 => d_X2_giveKeys_2_4_1 t n z u nn z4 A6) key A)
    refine ⟨r.1, ?_⟩
    rcases h with h | ⟨c, z13, ht, h⟩
    · exact Or.inl h
    · refine Or.inr ⟨c, z13, ht, ?_⟩
      rcases h with ⟨c2, h⟩ | ⟨c2, A18, e18, z19, A20, hn, h⟩
      · exact Or.inl ⟨c2, ih _ _ (h : tr_d_X2_giveKeys_2_4_2 _ key z u A).2⟩
      · refine Or.inr ⟨c2, z19, A20, (show q_X2_giveKeys_2_5 t n (stA A 21 4 key) z19 A20 from e18 ▸ hn), ?_⟩
        rcases h with ⟨c3, h⟩ | h
        · exact Or.inl ⟨c3, ih _ _ (h : tr_d_X2_giveKeys_2_4_2 _ key z u A20).2⟩
        · exact Or.inr h
theorem lp_5 {t : Nat} {n z : Int} {u : St} : ∀ (nn : Nat) (key : Int) (A : St), d_X2_giveKeys_2_5_1 t n z u nn key A → LPg (fun key A z13 => q_X2_canTake t ((5 : Nat) : Int) key A z13) (fun A z u => q_X2_giveKeys_2_6 t n A z u) 5 n z u nn key A := by
  intro nn
  induction nn with
  | zero => intro key A h; exact h
  | succ nn ih =>
    intro key A h
    obtain ⟨_, r, h⟩ := (h : tr_d_X2_giveKeys_2_5_1 t n z u (fun z4 A6 => d_X2_giveKeys_2_5_1 t n z u nn z4 A6) key A)
    refine ⟨r.1, ?_⟩
    rcases h with h | ⟨c, z13, ht, h⟩
    · exact Or.inl h
    · refine Or.inr ⟨c, z13, ht, ?_⟩
      rcases h with ⟨c2, h⟩ | ⟨c2, A18, e18, z19, A20, hn, h⟩
      · exact Or.inl ⟨c2, ih _ _ (h : tr_d_X2_giveKeys_2_5_2 _ key z u A).2⟩
      · refine Or.inr ⟨c2, z19, A20, (show q_X2_giveKeys_2_6 t n (stA A 21 5 key) z19 A20 from e18 ▸ hn), ?_⟩
        rcases h with ⟨c3, h⟩ | h
        · exact Or.inl ⟨c3, ih _ _ (h : tr_d_X2_giveKeys_2_5_2 _ key z u A20).2⟩
        · exact Or.inr h
theorem gk_6 {t M n : Nat} {fa ta da : Nat → Int} {A u : St} {z : Int} {p : List Nat} (ht : isT t) (h6 : M ≤ 6) (hp : p.length = 6) (hM : 6 ≤ M) (hY : FY t M fa ta da A) (hA : ∀ o, o < 6 → A 21 o = (pf p o : Int)) (h : q_X2_giveKeys_2_6 t (n : Int) A z u) : OK21 M (sl (crF fa ta da) n (M - 6) p) p A z u := by
  obtain ⟨_, _, hz, hu⟩ := (h.1 : tr_r_X2_giveKeys_2_6 t (n : Int) A z u)
  rw [show M - 6 = 0 by omega, hu]
  exact ⟨fk.rf, Or.inl ⟨hz, p, rfl, fun j hj => hA j (by omega)⟩⟩
theorem gk_5 {t M n : Nat} {fa ta da : Nat → Int} {A u : St} {z : Int} {p : List Nat} (ht : isT t) (h6 : M ≤ 6) (hp : p.length = 5) (hM : 5 ≤ M) (hY : FY t M fa ta da A) (hA : ∀ o, o < 5 → A 21 o = (pf p o : Int)) (h : q_X2_giveKeys_2_5 t (n : Int) A z u) : OK21 M (sl (crF fa ta da) n (M - 5) p) p A z u := by
  obtain ⟨z1, e1, h⟩ := (h.1 : tr_r_X2_giveKeys_2_5 t (n : Int) A z u)
  have e1 : z1 = A (t + 1) 6 := e1
  rw [hY.1] at e1
  rcases h with ⟨c, hz, hu⟩ | ⟨c, nn, h⟩
  · rw [show M - 5 = 0 by omega, hu]
    exact ⟨fk.rf, Or.inl ⟨hz, p, rfl, fun j hj => hA j (by omega)⟩⟩
  · obtain ⟨f, hf⟩ : ∃ f, M - 5 = f + 1 := ⟨M - 5 - 1, by omega⟩
    rw [hf, sl_ss]
    refine LP_ok (m := 5) ht h6 hp (by omega) (fun k A z u hY2 hA2 hq => ?_) nn 0 A hY hA (lp_5 nn 0 A h)
    have g := gk_6 (n := n) (p := k :: p) ht h6 (by show p.length + 1 = 6; omega) (by omega) hY2 hA2 hq
    rw [show M - 6 = f by omega] at g
    exact g
theorem gk_4 {t M n : Nat} {fa ta da : Nat → Int} {A u : St} {z : Int} {p : List Nat} (ht : isT t) (h6 : M ≤ 6) (hp : p.length = 4) (hM : 4 ≤ M) (hY : FY t M fa ta da A) (hA : ∀ o, o < 4 → A 21 o = (pf p o : Int)) (h : q_X2_giveKeys_2_4 t (n : Int) A z u) : OK21 M (sl (crF fa ta da) n (M - 4) p) p A z u := by
  obtain ⟨z1, e1, h⟩ := (h.1 : tr_r_X2_giveKeys_2_4 t (n : Int) A z u)
  have e1 : z1 = A (t + 1) 6 := e1
  rw [hY.1] at e1
  rcases h with ⟨c, hz, hu⟩ | ⟨c, nn, h⟩
  · rw [show M - 4 = 0 by omega, hu]
    exact ⟨fk.rf, Or.inl ⟨hz, p, rfl, fun j hj => hA j (by omega)⟩⟩
  · obtain ⟨f, hf⟩ : ∃ f, M - 4 = f + 1 := ⟨M - 4 - 1, by omega⟩
    rw [hf, sl_ss]
    refine LP_ok (m := 4) ht h6 hp (by omega) (fun k A z u hY2 hA2 hq => ?_) nn 0 A hY hA (lp_4 nn 0 A h)
    have g := gk_5 (n := n) (p := k :: p) ht h6 (by show p.length + 1 = 5; omega) (by omega) hY2 hA2 hq
    rw [show M - 5 = f by omega] at g
    exact g
theorem gk_3 {t M n : Nat} {fa ta da : Nat → Int} {A u : St} {z : Int} {p : List Nat} (ht : isT t) (h6 : M ≤ 6) (hp : p.length = 3) (hM : 3 ≤ M) (hY : FY t M fa ta da A) (hA : ∀ o, o < 3 → A 21 o = (pf p o : Int)) (h : q_X2_giveKeys_2_3 t (n : Int) A z u) : OK21 M (sl (crF fa ta da) n (M - 3) p) p A z u := by
  obtain ⟨z1, e1, h⟩ := (h.1 : tr_r_X2_giveKeys_2_3 t (n : Int) A z u)
  have e1 : z1 = A (t + 1) 6 := e1
  rw [hY.1] at e1
  rcases h with ⟨c, hz, hu⟩ | ⟨c, nn, h⟩
  · rw [show M - 3 = 0 by omega, hu]
    exact ⟨fk.rf, Or.inl ⟨hz, p, rfl, fun j hj => hA j (by omega)⟩⟩
  · obtain ⟨f, hf⟩ : ∃ f, M - 3 = f + 1 := ⟨M - 3 - 1, by omega⟩
    rw [hf, sl_ss]
    refine LP_ok (m := 3) ht h6 hp (by omega) (fun k A z u hY2 hA2 hq => ?_) nn 0 A hY hA (lp_3 nn 0 A h)
    have g := gk_4 (n := n) (p := k :: p) ht h6 (by show p.length + 1 = 4; omega) (by omega) hY2 hA2 hq
    rw [show M - 4 = f by omega] at g
    exact g
theorem gk_2 {t M n : Nat} {fa ta da : Nat → Int} {A u : St} {z : Int} {p : List Nat} (ht : isT t) (h6 : M ≤ 6) (hp : p.length = 2) (hM : 2 ≤ M) (hY : FY t M fa ta da A) (hA : ∀ o, o < 2 → A 21 o = (pf p o : Int)) (h : q_X2_giveKeys_2_2 t (n : Int) A z u) : OK21 M (sl (crF fa ta da) n (M - 2) p) p A z u := by
  obtain ⟨z1, e1, h⟩ := (h.1 : tr_r_X2_giveKeys_2_2 t (n : Int) A z u)
  have e1 : z1 = A (t + 1) 6 := e1
  rw [hY.1] at e1
  rcases h with ⟨c, hz, hu⟩ | ⟨c, nn, h⟩
  · rw [show M - 2 = 0 by omega, hu]
    exact ⟨fk.rf, Or.inl ⟨hz, p, rfl, fun j hj => hA j (by omega)⟩⟩
  · obtain ⟨f, hf⟩ : ∃ f, M - 2 = f + 1 := ⟨M - 2 - 1, by omega⟩
    rw [hf, sl_ss]
    refine LP_ok (m := 2) ht h6 hp (by omega) (fun k A z u hY2 hA2 hq => ?_) nn 0 A hY hA (lp_2 nn 0 A h)
    have g := gk_3 (n := n) (p := k :: p) ht h6 (by show p.length + 1 = 3; omega) (by omega) hY2 hA2 hq
    rw [show M - 3 = f by omega] at g
    exact g
theorem gk_1 {t M n : Nat} {fa ta da : Nat → Int} {A u : St} {z : Int} {p : List Nat} (ht : isT t) (h6 : M ≤ 6) (hp : p.length = 1) (hM : 1 ≤ M) (hY : FY t M fa ta da A) (hA : ∀ o, o < 1 → A 21 o = (pf p o : Int)) (h : q_X2_giveKeys_2_1 t (n : Int) A z u) : OK21 M (sl (crF fa ta da) n (M - 1) p) p A z u := by
  obtain ⟨z1, e1, h⟩ := (h.1 : tr_r_X2_giveKeys_2_1 t (n : Int) A z u)
  have e1 : z1 = A (t + 1) 6 := e1
  rw [hY.1] at e1
  rcases h with ⟨c, hz, hu⟩ | ⟨c, nn, h⟩
  · rw [show M - 1 = 0 by omega, hu]
    exact ⟨fk.rf, Or.inl ⟨hz, p, rfl, fun j hj => hA j (by omega)⟩⟩
  · obtain ⟨f, hf⟩ : ∃ f, M - 1 = f + 1 := ⟨M - 1 - 1, by omega⟩
    rw [hf, sl_ss]
    refine LP_ok (m := 1) ht h6 hp (by omega) (fun k A z u hY2 hA2 hq => ?_) nn 0 A hY hA (lp_1 nn 0 A h)
    have g := gk_2 (n := n) (p := k :: p) ht h6 (by show p.length + 1 = 2; omega) (by omega) hY2 hA2 hq
    rw [show M - 2 = f by omega] at g
    exact g
theorem gk_0 {t M n : Nat} {fa ta da : Nat → Int} {A u : St} {z : Int} {p : List Nat} (ht : isT t) (h6 : M ≤ 6) (hp : p.length = 0) (hM : 0 ≤ M) (hY : FY t M fa ta da A) (hA : ∀ o, o < 0 → A 21 o = (pf p o : Int)) (h : q_X2_giveKeys_2_0 t (n : Int) A z u) : OK21 M (sl (crF fa ta da) n (M - 0) p) p A z u := by
  obtain ⟨z1, e1, h⟩ := (h.1 : tr_r_X2_giveKeys_2_0 t (n : Int) A z u)
  have e1 : z1 = A (t + 1) 6 := e1
  rw [hY.1] at e1
  rcases h with ⟨c, hz, hu⟩ | ⟨c, nn, h⟩
  · rw [show M - 0 = 0 by omega, hu]
    exact ⟨fk.rf, Or.inl ⟨hz, p, rfl, fun j hj => hA j (by omega)⟩⟩
  · obtain ⟨f, hf⟩ : ∃ f, M - 0 = f + 1 := ⟨M - 0 - 1, by omega⟩
    rw [hf, sl_ss]
    refine LP_ok (m := 0) ht h6 hp (by omega) (fun k A z u hY2 hA2 hq => ?_) nn 0 A hY hA (lp_0 nn 0 A h)
    have g := gk_1 (n := n) (p := k :: p) ht h6 (by show p.length + 1 = 1; omega) (by omega) hY2 hA2 hq
    rw [show M - 1 = f by omega] at g
    exact g
def FZ (b M : Nat) (fa ta da : Nat → Int) (A : St) : Prop := A 0 12 = (b : Int) ∧ A 25 b = (M : Int) ∧ ∀ k, k < M → A 27 (6 * b + k) = fa k ∧ A 28 (6 * b + k) = ta k ∧ A 26 (6 * b + k) = da k
theorem FZ.fr {b M : Nat} {fa ta da : Nat → Int} {A B : St} (h : FZ b M fa ta da A) (g : fr [51] [] A B) : FZ b M fa ta da B := by
  obtain ⟨h1, h2, h3⟩ := h
  refine ⟨(g.2 12 rfl).trans h1, ?_, ?_⟩
  · rw [g.1 25 (by decide) rfl]; exact h2
  · rw [g.1 26 (by decide) rfl, g.1 27 (by decide) rfl, g.1 28 (by decide) rfl]; exact h3
theorem M_may {b M m key : Nat} {fa ta da : Nat → Int} {A : St} {z : Int} {p : List Nat} (hY : FZ b M fa ta da A) (hp : p.length = m) (hm : m < M) (hA : ∀ o, o < m → A 51 o = (pf p o : Int)) (hk : A 51 m = (key : Int)) (h : q_X12_may (m : Int) A z) : (z = 1 ∧ cTb (crF fa ta da) p.length key p = true) ∨ (z = 0 ∧ cTb (crF fa ta da) p.length key p = false) := by
  have ci := cTb_iff (cr := crF fa ta da) (m := m) (k := key) p
  rw [hp] at ci ⊢
  have loop : ∀ (nn o : Nat), o ≤ m → (∀ a, a < o → ¬ (pf p a = key ∧ crF fa ta da a m = true)) → d_X12_may_1 (m : Int) A z nn (o : Int) → (z = 1 ∧ cTb (crF fa ta da) m key p = true) ∨ (z = 0 ∧ cTb (crF fa ta da) m key p = false) := by
    intro nn
    induction nn with
    | zero => intro o _ _ h; exact h.elim
    | succ nn ih =>
      intro o ho hok h
      obtain ⟨_, h⟩ := (h : tr_d_X12_may_1 (m : Int) A z (fun z1 => d_X12_may_1 (m : Int) A z nn z1) (o : Int))
      rcases h with ⟨c, hz⟩ | ⟨c, z9, e9, z10, e10, h⟩
      · refine Or.inl ⟨hz, ci.mpr (fun a ha => hok a (by omega))⟩
      · have hom : o < m := by omega
        rw [Int.toNat_natCast, hA o hom] at e9
        rw [Int.toNat_natCast, hk] at e10
        rcases h with ⟨c3, h⟩ | ⟨c3, z13, hc, h⟩
        · refine ih (o + 1) hom (fun a ha => ?_) (h : tr_d_X12_may_2 _ (o : Int) z)
          by_cases e : a = o
          · rw [e]; exact fun g => c3 (by omega)
          · exact hok a (by omega)
        · have ck := crs_M hc
          have f1 := hY.2.2 o (by omega)
          have f2 := hY.2.2 m hm
          rw [hY.1, show (6 * (b : Int) + (o : Int)).toNat = 6 * b + o by omega, show (6 * (b : Int) + (m : Int)).toNat = 6 * b + m by omega, f1.1, f1.2.1, f1.2.2, f2.1, f2.2.1, f2.2.2] at ck
          rcases h with ⟨c4, h⟩ | ⟨c4, hz⟩
          · refine ih (o + 1) hom (fun a ha => ?_) (h : tr_d_X12_may_2 _ (o : Int) z)
            by_cases e : a = o
            · rw [e]
              rintro ⟨_, g⟩
              rcases ck with ⟨k1, _⟩ | ⟨_, k2⟩
              · omega
              · exact k2 (cxB_iff.mp g)
            · exact hok a (by omega)
          · refine Or.inr ⟨hz, ?_⟩
            cases hb : cTb (crF fa ta da) m key p with
            | false => rfl
            | true =>
              refine absurd ⟨by omega, ?_⟩ (ci.mp hb o (by omega))
              rcases ck with ⟨_, k2⟩ | ⟨k1, _⟩
              · exact cxB_iff.mpr k2
              · exact absurd k1 c4
  obtain ⟨nn, h⟩ := (h.1 : tr_r_X12_may (m : Int) A z)
  exact loop nn 0 (Nat.zero_le m) (fun a ha => absurd ha (Nat.not_lt_zero a)) h
def OUT51 (M : Nat) (r : Option (List Nat)) (z : Int) (u : St) : Prop := (z = 1 ∧ ∃ s, r = some s ∧ ∀ j, j < M → u 51 j = (pf s j : Int)) ∨ (z = 0 ∧ r = none)
/-- the reference's search, from a depth and a key on -/
def rsK (cr : Nat → Nat → Bool) (M n : Nat) (p : List Nat) (key : Nat) : Option (List Nat) := if p.length = M then some p else orE (fstK (hh cr n (M - p.length - 1) p) (n - key) key) (bt cr n (M - p.length) p)
theorem M_fits8 {b M n : Nat} {fa ta da : Nat → Int} {A0 u : St} {z : Int} (h0 : A0 0 12 = (b : Int)) (h6 : M ≤ 6) : ∀ (nn : Nat) (p : List Nat) (A : St), p.length ≤ M → FZ b M fa ta da A → (∀ o, o < p.length → A 51 o = (pf p o : Int)) → (-1 ≤ A 51 p.length) → d_X12_fits8_1 (n : Int) A0 z u nn (p.length : Int) A → OUT51 M (rsK (crF fa ta da) M n p (A 51 p.length + 1).toNat) z u := by
  intro nn
  induction nn with
  | zero => intro p A _ _ _ _ h; exact h.elim
  | succ nn ih =>
    intro p A hpM hY hA hm1 h
    obtain ⟨_, _, h⟩ := (h : tr_d_X12_fits8_1 (n : Int) A0 z u (fun z2 A4 => d_X12_fits8_1 (n : Int) A0 z u nn z2 A4) (p.length : Int) A)
    rcases h with ⟨c, _⟩ | ⟨_, z14, e14, h⟩
    · omega
    · rw [h0, Int.toNat_natCast, hY.2.1] at e14
      rcases h with ⟨c, hz, hu⟩ | ⟨c, z17, e17, A18, e18, n3, h⟩
      · have e : p.length = M := by omega
        unfold rsK
        rw [if_pos e, hu]
        exact Or.inl ⟨hz, p, rfl, fun j hj => hA j (by omega)⟩
      · have hlt : p.length < M := by omega
        rw [Int.toNat_natCast] at e17 e18
        have inner : ∀ (n3 key : Nat) (B : St), FZ b M fa ta da B → (∀ o, o < p.length → B 51 o = (pf p o : Int)) → B 51 p.length = (key : Int) → d_X12_fits8_2 (fun z2 A4 => d_X12_fits8_1 (n : Int) A0 z u nn z2 A4) (n : Int) (p.length : Int) z u n3 B → OUT51 M (rsK (crF fa ta da) M n p key) z u := by
          intro n3
          induction n3 with
          | zero => intro key B _ _ _ h; exact h.elim
          | succ n3 ih3 =>
            intro key B hYB hB hkey h
            obtain ⟨_, z28, e28, h⟩ := (h : tr_d_X12_fits8_2 (fun z2 A4 => d_X12_fits8_1 (n : Int) A0 z u nn z2 A4) (n : Int) (p.length : Int) z u (fun A20 => d_X12_fits8_2 (fun z2 A4 => d_X12_fits8_1 (n : Int) A0 z u nn z2 A4) (n : Int) (p.length : Int) z u n3 A20) B)
            rw [Int.toNat_natCast, hkey] at e28
            have ru : rsK (crF fa ta da) M n p key = orE (fstK (hh (crF fa ta da) n (M - p.length - 1) p) (n - key) key) (bt (crF fa ta da) n (M - p.length) p) := by
              unfold rsK
              rw [if_neg (by omega)]
            rcases h with ⟨c2, h⟩ | ⟨c2, z31, hmay, h⟩
            · obtain ⟨z38, e38, h⟩ := (h : tr_d_X12_fits8_3 _ (n : Int) (p.length : Int) B z u)
              rw [Int.toNat_natCast, hkey] at e38
              rcases h with ⟨_, h⟩ | ⟨c3, _⟩
              · rw [ru, show n - key = 0 by omega]
                show OUT51 M (bt (crF fa ta da) n (M - p.length) p) z u
                cases p with
                | nil =>
                  have h : d_X12_fits8_1 (n : Int) A0 z u nn (((0 : Nat) : Int) - 1) B := h
                  cases nn with
                  | zero => exact h.elim
                  | succ nn =>
                    obtain ⟨_, _, h⟩ := (h : tr_d_X12_fits8_1 (n : Int) A0 z u (fun z2 A4 => d_X12_fits8_1 (n : Int) A0 z u nn z2 A4) (((0 : Nat) : Int) - 1) B)
                    rcases h with ⟨_, hz, _⟩ | ⟨c4, _⟩
                    · exact Or.inr ⟨hz, rfl⟩
                    · omega
                | cons x0 p =>
                  have hl : (x0 :: p).length = p.length + 1 := rfl
                  rw [hl] at h hlt hpM hB ⊢
                  rw [show ((p.length + 1 : Nat) : Int) - 1 = (p.length : Int) by omega] at h
                  have bc := hB p.length (Nat.lt_succ_self _)
                  rw [pf_hd] at bc
                  have g := ih p B (by omega) hYB (fun o ho => by rw [hB o (by omega), pf_tl ho]) (by omega) h
                  rw [bc, show ((x0 : Int) + 1).toNat = x0 + 1 by omega] at g
                  have rp : rsK (crF fa ta da) M n p (x0 + 1) = orE (fstK (hh (crF fa ta da) n (M - p.length - 1) p) (n - (x0 + 1)) (x0 + 1)) (bt (crF fa ta da) n (M - p.length) p) := by
                    unfold rsK
                    rw [if_neg (by omega)]
                  rw [rp] at g
                  obtain ⟨f, hf⟩ : ∃ f, M - p.length = f + 1 := ⟨M - p.length - 1, by omega⟩
                  rw [hf, show f + 1 - 1 = f by omega] at g
                  rw [show M - (p.length + 1) = f by omega]
                  exact g
              · omega
            · have my := M_may hYB rfl hlt hB hkey hmay
              obtain ⟨k, hk⟩ : ∃ k, n - key = k + 1 := ⟨n - key - 1, by omega⟩
              have hs : fstK (hh (crF fa ta da) n (M - p.length - 1) p) (k + 1) key = orE (hh (crF fa ta da) n (M - p.length - 1) p key) (fstK (hh (crF fa ta da) n (M - p.length - 1) p) k (key + 1)) := rfl
              rw [ru, hk, hs, orE_assoc]
              rcases h with ⟨c3, h⟩ | ⟨c3, z35, e35, A36, e36, h⟩
              · obtain ⟨z38, e38, h⟩ := (h : tr_d_X12_fits8_3 _ (n : Int) (p.length : Int) B z u)
                rw [Int.toNat_natCast, hkey] at e38
                rcases h with ⟨c4, _⟩ | ⟨_, A40, e40, h⟩
                · omega
                · have e1 : hh (crF fa ta da) n (M - p.length - 1) p key = sl (crF fa ta da) n (M - p.length - 1) (key :: p) := by
                    rcases my with ⟨_, k2⟩ | ⟨k1, _⟩
                    · unfold hh; rw [k2]; rfl
                    · exact absurd k1 c3
                  rw [show ((p.length : Int) + 1).toNat = p.length + 1 by omega] at e40
                  have f40 : fr [51] [] B A40 := by rw [e40]; exact fr.rf.st (by decide) rfl
                  have e51 : A40 51 (p.length + 1) = -1 := by rw [e40]; exact up_same _ _ _
                  have g := ih (key :: p) A40 hlt (hYB.fr f40) (fun o ho => by
                    have ho : o < p.length + 1 := ho
                    rw [e40]
                    show up (B 51) (p.length + 1) (-1) o = _
                    rw [up_ne _ _ (by omega)]
                    by_cases e : o = p.length
                    · rw [e, pf_hd]; exact hkey
                    · rw [pf_tl (by omega)]; exact hB o (by omega)) (by show -1 ≤ A40 51 (p.length + 1); rw [e51]; decide) h
                  have g : OUT51 M (rsK (crF fa ta da) M n (key :: p) (A40 51 (p.length + 1) + 1).toNat) z u := g
                  rw [e51] at g
                  have g : OUT51 M (rsK (crF fa ta da) M n (key :: p) 0) z u := g
                  have rk : rsK (crF fa ta da) M n (key :: p) 0 = orE (sl (crF fa ta da) n (M - p.length - 1) (key :: p)) (orE (fstK (hh (crF fa ta da) n (M - p.length - 1) p) k (key + 1)) (bt (crF fa ta da) n (M - p.length) p)) := by
                    have hl : (key :: p).length = p.length + 1 := rfl
                    unfold rsK
                    rw [hl]
                    by_cases e : p.length + 1 = M
                    · rw [if_pos e, show M - p.length - 1 = 0 by omega]
                      rfl
                    · rw [if_neg e]
                      obtain ⟨f, hf⟩ : ∃ f, M - p.length = f + 2 := ⟨M - p.length - 2, by omega⟩
                      rw [hf, show M - (p.length + 1) = f + 1 by omega, show f + 2 - 1 = f + 1 by omega, show f + 1 - 1 = f by omega, sl_ss, Nat.sub_zero]
                      show orE _ (orE (fstK (hh (crF fa ta da) n (f + 1) p) (n - (key + 1)) (key + 1)) (bt (crF fa ta da) n (f + 1 + 1) p)) = _
                      rw [show n - (key + 1) = k by omega]
                  rw [e1, ← rk]
                  exact g
              · have e0 : hh (crF fa ta da) n (M - p.length - 1) p key = none := by
                  rcases my with ⟨k1, _⟩ | ⟨_, k2⟩
                  · omega
                  · unfold hh; rw [k2]; rfl
                rw [Int.toNat_natCast] at e35 e36
                have f36 : fr [51] [] B A36 := by rw [e36]; exact fr.rf.st (by decide) rfl
                have g := ih3 (key + 1) A36 (hYB.fr f36) (fun o ho => by
                  rw [e36]
                  show up (B 51) p.length (z35 + 1) o = _
                  rw [up_ne _ _ (by omega)]
                  exact hB o ho) (by
                  rw [e36]
                  show up (B 51) p.length (z35 + 1) p.length = _
                  rw [up_same, e35, hkey]
                  rfl) h
                have r2 : rsK (crF fa ta da) M n p (key + 1) = orE (fstK (hh (crF fa ta da) n (M - p.length - 1) p) (n - (key + 1)) (key + 1)) (bt (crF fa ta da) n (M - p.length) p) := by
                  unfold rsK
                  rw [if_neg (by omega)]
                rw [r2, show n - (key + 1) = k by omega] at g
                rw [e0]
                exact g
        have f18 : fr [51] [] A A18 := by rw [e18]; exact fr.rf.st (by decide) rfl
        refine inner n3 (A 51 p.length + 1).toNat A18 (hY.fr f18) (fun o ho => ?_) ?_ h
        · rw [e18]
          show up (A 51) p.length (z17 + 1) o = _
          rw [up_ne _ _ (by omega)]
          exact hA o ho
        · rw [e18]
          show up (A 51) p.length (z17 + 1) p.length = _
          rw [up_same, e17]
          omega
theorem M_fits8q {b M n : Nat} {fa ta da : Nat → Int} {A u : St} {z : Int} (hY : FZ b M fa ta da A) (h6 : M ≤ 6) (h : q_X12_fits8 (n : Int) A z u) : OUT51 M (sl (crF fa ta da) n M []) z u := by
  obtain ⟨A1, e1, nn, h⟩ := (h.1 : tr_r_X12_fits8 (n : Int) A z u)
  have e51 : A1 51 0 = -1 := by rw [e1]; rfl
  have f1 : fr [51] [] A A1 := by rw [e1]; exact fr.rf.st (by decide) rfl
  have g := M_fits8 (n := n) hY.1 h6 nn [] A1 (Nat.zero_le M) (hY.fr f1) (fun o ho => absurd ho (Nat.not_lt_zero o)) (by show -1 ≤ A1 51 0; rw [e51]; decide) h
  have g : OUT51 M (rsK (crF fa ta da) M n [] (A1 51 0 + 1).toNat) z u := g
  rw [e51] at g
  have r : rsK (crF fa ta da) M n [] 0 = sl (crF fa ta da) n M [] := by
    unfold rsK
    by_cases e : M = 0
    · rw [if_pos (by rw [e]; rfl), e]; rfl
    · obtain ⟨f, hf⟩ : ∃ f, M = f + 1 := ⟨M - 1, by omega⟩
      subst hf
      rw [if_neg (by show ¬ 0 = f + 1; omega), sl_ss]
      exact orE_none
  rw [← r]
  exact g
theorem fewest_eq {x z1 z2 : Int} {B A u1 u2 : St} (hIK : IK B) (hIM : IM A) (hp : PSs B A) (h1 : r_X11_fewest x B z1 u1) (h2 : r_X12_fewest x A z2 u2) : z1 = z2 := by
  have r12 : (0 : Int) ≤ A 0 12 := (hIM 0 12).1
  have r25 : (0 : Int) ≤ A 25 (A 0 12).toNat ∧ A 25 (A 0 12).toNat ≤ 6 := hIM 25 _
  have hT : isT (51 + 31 * (B 0 9).toNat) := isT_of hIK
  have key : (x = -1 ∨ (0 ≤ x ∧ x < A 25 (A 0 12).toNat)) → d_X11_fewest_1 x B z1 u1 → d_X12_fewest_1 x A z2 u2 → z1 = z2 := by
    intro hx h1 h2
    obtain ⟨t, ht, z13, A14, hq, h1⟩ := (h1 : tr_d_X11_fewest_1 x B z1 u1)
    obtain ⟨nn2, h2⟩ := (h2 : tr_d_X12_fewest_1 x A z2 u2)
    obtain ⟨nn1, hq⟩ := (hq.1 : tr_r_X2_fewestKeys t B z13 A14)
    have hn := must_n hp ht
    rw [← ht] at hT
    obtain ⟨M, hM⟩ : ∃ M : Nat, A 25 (A 0 12).toNat = (M : Int) := ⟨(A 25 (A 0 12).toNat).toNat, by omega⟩
    have h6 : M ≤ 6 := by omega
    have hY0 : FY t M (B (t + 14)) (B (t + 15)) (B (t + 13)) B := ⟨by rw [← hn, hM], fun k _ => ⟨rfl, rfl, rfl⟩⟩
    have hZ0 : FZ (A 0 12).toNat M (B (t + 14)) (B (t + 15)) (B (t + 13)) A := by
      refine ⟨by omega, hM, fun k hk => ?_⟩
      have m := must_at hIK hIM hp (k := k) (by omega) ht
      rw [show (6 * (A 0 12) + (k : Int)).toNat = 6 * (A 0 12).toNat + k by omega] at m
      exact ⟨m.2.1, m.2.2, m.1⟩
    have loop : ∀ (n1 n2 n : Nat) (B' A' : St), FY t M (B (t + 14)) (B (t + 15)) (B (t + 13)) B' → FZ (A 0 12).toNat M (B (t + 14)) (B (t + 15)) (B (t + 13)) A' → d_X2_fewestKeys_1 t z13 A14 n1 (n : Int) B' → d_X12_fewest_2 x z2 u2 n2 (n : Int) A' → (x = -1 ∧ z13 = z2) ∨ (¬ x = -1 ∧ A14 21 x.toNat = z2) := by
      intro n1
      induction n1 with
      | zero => intro n2 n B' A' _ _ h _; exact h.elim
      | succ n1 ih =>
        intro n2 n B' A' hY hZ h1 h2
        cases n2 with
        | zero => exact h2.elim
        | succ n2 =>
          obtain ⟨_, _, h1⟩ := (h1 : tr_d_X2_fewestKeys_1 t z13 A14 (fun z1 A3 => d_X2_fewestKeys_1 t z13 A14 n1 z1 A3) (n : Int) B')
          obtain ⟨_, rn, z19, A20, hf, h2⟩ := (h2 : tr_d_X12_fewest_2 x z2 u2 (fun z10 A12 => d_X12_fewest_2 x z2 u2 n2 z10 A12) (n : Int) A')
          have mo := M_fits8q hZ h6 hf
          rcases h1 with ⟨c, _⟩ | ⟨_, z10, A11, hg, h1⟩
          · omega
          · have ko := gk_0 (n := n) (p := []) hT h6 rfl (Nat.zero_le M) hY (fun o ho => absurd ho (Nat.not_lt_zero o)) hg
            rw [Nat.sub_zero] at ko
            rcases h1 with ⟨c1, h1⟩ | ⟨c1, hz, hu⟩
            · rcases h2 with ⟨c2, _⟩ | ⟨_, h2⟩
              · rcases ko.2 with ⟨k1, _⟩ | ⟨_, k2, _⟩
                · omega
                · rcases mo with ⟨_, s, m2, _⟩ | ⟨m1, _⟩
                  · rw [k2] at m2
                    exact absurd m2 (by intro g; cases g)
                  · exact absurd m1 c2
              · exact ih n2 (n + 1) A11 A20 (hY.fk hT ko.1) (hZ.fr hf.2.2.1) h1 h2
            · rcases ko.2 with ⟨_, s, k2, k3⟩ | ⟨k1, _⟩
              · rcases mo with ⟨_, s2, m2, m3⟩ | ⟨_, m2⟩
                · have es : s = s2 := by
                    rw [k2] at m2
                    exact Option.some.inj m2
                  rcases h2 with ⟨_, h2⟩ | ⟨c2, _⟩
                  · rcases h2 with ⟨c3, z25, e25, hz2, _⟩ | ⟨c3, hz2, _⟩
                    · refine Or.inr ⟨c3, ?_⟩
                      rw [hz2, e25, hu]
                      rcases hx with g | g
                      · exact absurd g c3
                      · rw [k3 _ (by omega), m3 _ (by omega), es]
                    · exact Or.inl ⟨c3, by rw [hz, hz2]⟩
                  · omega
                · rw [k2] at m2
                  exact absurd m2 (by intro g; cases g)
              · exact absurd k1 c1
    rcases loop nn1 nn2 0 B A hY0 hZ0 hq h2 with ⟨g1, g2⟩ | ⟨g1, g2⟩
    · rcases h1 with ⟨c, _⟩ | ⟨_, hz, _⟩
      · exact absurd g1 c
      · rw [hz, g2]
    · rcases h1 with ⟨_, z18, e18, hz, _⟩ | ⟨c, _⟩
      · rw [hz, e18, g2]
      · exact absurd c g1
  rcases (h1 : tr_r_X11_fewest x B z1 u1) with ⟨c, h1⟩ | ⟨c, t4, ht4, z5, hi, h1⟩
  · rcases (h2 : tr_r_X12_fewest x A z2 u2) with ⟨_, h2⟩ | ⟨c2, _⟩
    · exact key (Or.inl c) h1 h2
    · exact absurd c c2
  · have k6 := thr6 hi
    have hn := must_n hp ht4
    rw [← hn] at k6
    rcases (h2 : tr_r_X12_fewest x A z2 u2) with ⟨c2, _⟩ | ⟨_, z3, e3, z4, hi2, h2⟩
    · exact absurd c2 c
    · have i2 := hi2.2
      rw [e3] at i2
      rcases h1 with ⟨c3, h1⟩ | ⟨c3, hz, _⟩
      · rcases k6 with ⟨_, g⟩ | ⟨g, _⟩
        · rcases h2 with ⟨_, h2⟩ | ⟨c4, _⟩
          · exact key (Or.inr g) h1 h2
          · have := i2.2.mpr ⟨g.1, by omega⟩
            omega
        · exact absurd g c3
      · rcases k6 with ⟨g, _⟩ | ⟨_, g⟩
        · omega
        · rcases h2 with ⟨c4, h2⟩ | ⟨_, hz2, _⟩
          · have i01 := i2.1
            have := i2.2.mp (by omega)
            exact absurd ⟨this.1, by omega⟩ g
          · rw [hz, hz2]
