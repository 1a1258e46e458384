/-! pairs: what is coded at the end of min and max -/
def PR (A : St) : Prop := ∀ i : Nat, (i : Int) < A 0 53 → A 35 i = 3 ∨ A 35 i = 4 → 10 ≤ A 38 i
theorem PR.fr {M N : List Nat} {A B : St} (h : PR A) (f : fr M N A B) (h1 : [35, 38].all (fun j => !M.contains j) = true) (h2 : [53].all (fun k => !N.contains k) = true) : PR B := by
  simp only [List.all_cons, List.all_nil, Bool.and_true, Bool.and_eq_true, Bool.not_eq_true'] at h1 h2
  unfold PR
  rw [f.1 35 (by decide) h1.1, f.1 38 (by decide) h1.2, f.2 53 h2]
  exact h
theorem PR.push {A V : St} {x : Int} (h : PR A) (hd : 0 ≤ A 0 53) (e35 : V 35 = up (A 35) (A 0 53).toNat x) (e53 : V 0 53 = A 0 53 + 1) (e38 : V 38 = A 38) (hx : x ≠ 3 ∧ x ≠ 4) : PR V := by
  unfold PR
  rw [e35, e53, e38]
  intro i hi hk
  by_cases e : i = (A 0 53).toNat
  · rw [e, up_same] at hk
    omega
  · rw [up_ne _ _ e] at hk
    exact h i (by omega) hk
theorem PR.pushp {A V : St} {x w : Int} (h : PR A) (hd : 0 ≤ A 0 53) (e35 : V 35 = up (A 35) (A 0 53).toNat x) (e53 : V 0 53 = A 0 53 + 1) (e38 : V 38 = up (A 38) (A 0 53).toNat w) (hw : 10 ≤ w) : PR V := by
  unfold PR
  rw [e35, e53, e38]
  intro i hi hk
  by_cases e : i = (A 0 53).toNat
  · rw [e, up_same]
    exact hw
  · rw [up_ne _ _ e] at hk
    rw [up_ne _ _ e]
    exact h i (by omega) hk
theorem PR.comma {A V : St} {k : Nat} (h : PR A) (hk : A 35 k = 3) (e35 : V 35 = up (A 35) k 4) (e53 : V 0 53 = A 0 53) (e38 : V 38 = A 38) : PR V := by
  unfold PR
  rw [e35, e53, e38]
  intro i hi hq
  by_cases e : i = k
  · exact h i hi (Or.inl (by rw [e]; exact hk))
  · rw [up_ne _ _ e] at hq
    exact h i hi hq
theorem PR.pop {A V : St} (h : PR A) (e35 : V 35 = A 35) (e53 : V 0 53 = A 0 53 - 1) (e38 : V 38 = A 38) : PR V := by
  unfold PR
  rw [e35, e53, e38]
  intro i hi hq
  exact h i (by omega) hq
theorem RI.two {op : Int} {A : St} (h : RI op A) (hI : IM A) (hk : 2 ≤ A 35 (A 0 53 - 1).toNat) : 2 ≤ A 0 53 := by
  have hd := RI.deep h hI
  by_cases e : (A 0 53 - 1).toNat = 0
  · rw [e] at hk
    have := h.2.2.1.1
    omega
  · omega
theorem RI.cb {op : Int} {A : St} (h : RI op A) (hI : IM A) : CB A := by
  have h56 : (0 : Int) ≤ A 0 56 := (hI 0 56).1
  have h6 := h.2.2.2.2.2
  exact ⟨by omega, h6.2.2.1, h6.2.2.2⟩
theorem RI.full {B : St} {x : Int} (h : B 0 56 = B 39 (B 0 53 - 1).toNat ∨ rk x < 1) : B 0 56 = B 39 (B 0 53 - 1).toNat := h.resolve_right (fun t => by have := (rk_r x).1; omega)
/-! operators of a frame rise; none compares where the phase is 0 -/
def sg (f : Nat → Int) (ph : Int) (a n : Nat) : Prop := (∀ j, a ≤ j → j + 1 < n → rk (f j) ≤ rk (f (j + 1))) ∧ (ph = 0 → ∀ j, a ≤ j → j < n → rk (f j) ≠ 4)
def SP (A : St) : Prop := (∀ i : Nat, (i : Int) + 1 < A 0 53 → sg (A 40) (A 36 i) (A 39 i).toNat (A 39 (i + 1)).toNat) ∧ sg (A 40) (A 36 (A 0 53 - 1).toNat) (A 39 (A 0 53 - 1).toNat).toNat (A 0 56).toNat
theorem SP.fr {M N : List Nat} {A B : St} (h : SP A) (f : fr M N A B) (h1 : [36, 39, 40].all (fun j => !M.contains j) = true) (h2 : [53, 56].all (fun k => !N.contains k) = true) : SP B := by
  simp only [List.all_cons, List.all_nil, Bool.and_true, Bool.and_eq_true, Bool.not_eq_true'] at h1 h2
  unfold SP
  rw [f.1 36 (by decide) h1.1, f.1 39 (by decide) h1.2.1, f.1 40 (by decide) h1.2.2, f.2 53 h2.1, f.2 56 h2.2]
  exact h
theorem SP.pop {A V : St} (h : SP A) (e36 : V 36 = A 36) (e39 : V 39 = A 39) (e40 : V 40 = A 40) (e53 : V 0 53 = A 0 53) (e56 : V 0 56 ≤ A 0 56) : SP V := by
  unfold SP
  rw [e36, e39, e40, e53]
  exact ⟨h.1, fun j a b => h.2.1 j a (by omega), fun p j a b => h.2.2 p j a (by omega)⟩
theorem sg_out {f : Nat → Int} {ph v : Int} {a n i : Nat} (h : sg f ph a n) (hn : n ≤ i) : sg (up f i v) ph a n := by
  refine ⟨fun j a1 b1 => ?_, fun p j a1 b1 => ?_⟩
  · rw [up_ne _ _ (by omega), up_ne _ _ (by omega)]
    exact h.1 j a1 b1
  · rw [up_ne _ _ (by omega)]
    exact h.2 p j a1 b1
theorem sg_all {f : Nat → Int} {ph : Int} {a : Nat} : ∀ n, sg f ph a n → ∀ j, a ≤ j → j < n → rk (f j) ≤ rk (f (n - 1))
  | 0, _, j, _, hj => by omega
  | n + 1, h, j, ha, hj => by
    by_cases e : j = n
    · subst e
      exact Int.le_refl _
    · have ih := sg_all n ⟨fun j a b => h.1 j a (by omega), fun p j a b => h.2 p j a (by omega)⟩ j ha (by omega)
      have h2 := h.1 (n - 1) (by omega) (by omega)
      have e2 : n - 1 + 1 = n := by omega
      rw [e2] at h2
      show rk (f j) ≤ rk (f n)
      omega
/-- x is held back; ph: the phase behind it -/
theorem SP.push {A V : St} {x ph : Int} {r36 : Nat → Int} (h : SP A) (hI : IM A) (hf : FR (A 40) (A 39) (A 0 53) (A 0 56)) (hD : 1 ≤ A 0 53) (e36 : V 36 = r36) (hr : ∀ i : Nat, (i : Int) + 1 < A 0 53 → r36 i = A 36 i) (hph : r36 (A 0 53 - 1).toNat = ph) (e39 : V 39 = A 39) (e40 : V 40 = up (A 40) (A 0 56).toNat x) (e53 : V 0 53 = A 0 53) (e56 : V 0 56 = A 0 56 + 1)
    (ht : A 0 56 = A 39 (A 0 53 - 1).toNat ∨ rk (A 40 (A 0 56 - 1).toNat) ≤ rk x) (h4 : ph = 0 → rk x ≠ 4 ∧ (A 36 (A 0 53 - 1).toNat = 0 ∨ rk x < 4)) : SP V := by
  have hg := im39 hI
  have hgD := hg (A 0 53 - 1).toNat
  have hm0 := hf.2.2.2.1
  unfold SP
  rw [e36, e39, e40, e53, e56]
  refine ⟨fun i hi => ?_, fun j a b => ?_, fun p j a b => ?_⟩
  · rw [hr i hi]
    have a1 := hf.le (i + 1) (by omega)
    exact sg_out (h.1 i hi) (by omega)
  · by_cases e : j + 1 = (A 0 56).toNat
    · rw [e, up_same, up_ne _ _ (by omega)]
      rcases ht with t | t
      · omega
      · have ej : j = (A 0 56 - 1).toNat := by omega
        rw [ej]
        exact t
    · rw [up_ne _ _ (by omega), up_ne _ _ e]
      exact h.2.1 j a (by omega)
  · have h4' := h4 (by rw [← hph]; exact p)
    by_cases e : j = (A 0 56).toNat
    · rw [e, up_same]
      exact h4'.1
    · rw [up_ne _ _ e]
      rcases h4'.2 with q | q
      · exact h.2.2 q j a (by omega)
      · rcases ht with t | t
        · omega
        · have hs := sg_all _ h.2 j a (by omega)
          have ej : (A 0 56).toNat - 1 = (A 0 56 - 1).toNat := by omega
          rw [ej] at hs
          omega
theorem SP.opn {A V : St} (h : SP A) (hI : IM A) (hD : 1 ≤ A 0 53) (e36 : V 36 = up (A 36) (A 0 53).toNat 0) (e39 : V 39 = up (A 39) (A 0 53).toNat (A 0 56)) (e40 : V 40 = A 40) (e53 : V 0 53 = A 0 53 + 1) (e56 : V 0 56 = A 0 56) : SP V := by
  have e1 : (A 0 53 + 1 - 1).toNat = (A 0 53).toNat := by omega
  unfold SP
  rw [e36, e39, e40, e53, e56, e1, up_same, up_same]
  refine ⟨fun i hi => ?_, fun j a b => by omega, fun p j a b => by omega⟩
  by_cases e : i + 1 = (A 0 53).toNat
  · have ei : i = (A 0 53 - 1).toNat := by omega
    rw [e, up_same, up_ne _ _ (by omega), up_ne _ _ (by omega), ei]
    exact h.2
  · rw [up_ne _ _ (by omega), up_ne _ _ (by omega), up_ne _ _ e]
    exact h.1 i (by omega)
theorem SP.close {A V : St} {r36 : Nat → Int} (h : SP A) (hD : 2 ≤ A 0 53) (hm : A 0 56 = A 39 (A 0 53 - 1).toNat) (e36 : V 36 = r36) (hr : ∀ i : Nat, (i : Int) + 2 < A 0 53 → r36 i = A 36 i) (hp : r36 (A 0 53 - 1 - 1).toNat = A 36 (A 0 53 - 1 - 1).toNat ∨ r36 (A 0 53 - 1 - 1).toNat = 2) (e39 : V 39 = A 39) (e40 : V 40 = A 40) (e53 : V 0 53 = A 0 53 - 1) (e56 : V 0 56 = A 0 56) : SP V := by
  have a := h.1 (A 0 53 - 1 - 1).toNat (by omega)
  have e : (A 0 53 - 1 - 1).toNat + 1 = (A 0 53 - 1).toNat := by omega
  rw [e, ← hm] at a
  unfold SP
  rw [e36, e39, e40, e53, e56]
  refine ⟨fun i hi => ?_, a.1, fun p => ?_⟩
  · rw [hr i (by omega)]
    exact h.1 i (by omega)
  · rcases hp with q | q
    · rw [q] at p
      exact a.2 p
    · rw [q] at p
      omega
/-- the last frame's phase becomes 2 -/
theorem SP.two {A V : St} (h : SP A) (hD : 1 ≤ A 0 53) (e36 : V 36 = up (A 36) (A 0 53 - 1).toNat 2) (e39 : V 39 = A 39) (e40 : V 40 = A 40) (e53 : V 0 53 = A 0 53) (e56 : V 0 56 = A 0 56) : SP V := by
  unfold SP
  rw [e36, e39, e40, e53, e56, up_same]
  refine ⟨fun i hi => ?_, h.2.1, fun p => absurd p (by decide)⟩
  rw [up_ne _ _ (by omega)]
  exact h.1 i hi
theorem SP.low {A : St} (h : SP A) (h0 : A 36 (A 0 53 - 1).toNat = 0) (hI : IM A) (hf : A 39 (A 0 53 - 1).toNat ≤ A 0 56) {k : Int} (ht : A 0 56 = A 39 (A 0 53 - 1).toNat ∨ rk (A 40 (A 0 56 - 1).toNat) < 5) : A 0 56 = A 39 (A 0 53 - 1).toNat ∨ rk (A 40 (A 0 56 - 1).toNat) < 4 := by
  have hgD := im39 hI (A 0 53 - 1).toNat
  by_cases e : A 0 56 = A 39 (A 0 53 - 1).toNat
  · exact Or.inl e
  · have a := h.2.2 h0 (A 0 56 - 1).toNat (by omega) (by omega)
    rcases ht with t | t
    · exact Or.inl t
    · right
      omega
theorem up_lo {g : Nat → Int} {D E v : Int} {i : Nat} (e : E = D) (hi : (i : Int) + 1 < E) : up g (D - 1).toNat v i = g i := by rw [up_ne _ _ (by omega)]
