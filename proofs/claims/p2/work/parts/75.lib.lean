/-! pairs: what is coded at the end of min and max -/
def PR (A : St) : Prop := ∀ i : Nat, (i : Int) < A 0 53 → A 35 i = 3 ∨ A 35 i = 4 → 10 ≤ A 38 i
theorem PR.fr {M N : List Nat} {A B : St} (h : PR A) (f : fr M N A B) (h1 : [35, 38].all (fun j => !M.contains j) = true) (h2 : [53].all (fun k => !N.contains k) = true) : PR B := by
  simp only [List.all_cons, List.all_nil, Bool.and_true, Bool.and_eq_true, Bool.not_eq_true'] at h1 h2
  unfold PR
  rw [f.1 35 (by decide) h1.1, f.1 38 (by decide) h1.2, f.2 53 h2]
  exact h
theorem PR.push {A V : St} {x : Int} (h : PR A) (hd : 0 ≤ A 0 53) (e35 : V 35 = up (A 35) (A 0 53).toNat x) (e53 : V 0 53 = A 0 53 + 1) (e38 : V 38 = A 38) (hx : x ≠ 3 ∧ x ≠ 4) : PR V := by
  unfold PR
  rw [e35, e53, e38]
  intro i hi hk
  by_cases e : i = (A 0 53).toNat
  · rw [e, up_same] at hk
    omega
  · rw [up_ne _ _ e] at hk
    exact h i (by omega) hk
theorem PR.pushp {A V : St} {x w : Int} (h : PR A) (hd : 0 ≤ A 0 53) (e35 : V 35 = up (A 35) (A 0 53).toNat x) (e53 : V 0 53 = A 0 53 + 1) (e38 : V 38 = up (A 38) (A 0 53).toNat w) (hw : 10 ≤ w) : PR V := by
  unfold PR
  rw [e35, e53, e38]
  intro i hi hk
  by_cases e : i = (A 0 53).toNat
  · rw [e, up_same]
    exact hw
  · rw [up_ne _ _ e] at hk
    rw [up_ne _ _ e]
    exact h i (by omega) hk
theorem PR.comma {A V : St} {k : Nat} (h : PR A) (hk : A 35 k = 3) (e35 : V 35 = up (A 35) k 4) (e53 : V 0 53 = A 0 53) (e38 : V 38 = A 38) : PR V := by
  unfold PR
  rw [e35, e53, e38]
  intro i hi hq
  by_cases e : i = k
  · exact h i hi (Or.inl (by rw [e]; exact hk))
  · rw [up_ne _ _ e] at hq
    exact h i hi hq
theorem PR.pop {A V : St} (h : PR A) (e35 : V 35 = A 35) (e53 : V 0 53 = A 0 53 - 1) (e38 : V 38 = A 38) : PR V := by
  unfold PR
  rw [e35, e53, e38]
  intro i hi hq
  exact h i (by omega) hq
theorem RI.two {op : Int} {A : St} (h : RI op A) (hI : IM A) (hk : 2 ≤ A 35 (A 0 53 - 1).toNat) : 2 ≤ A 0 53 := by
  have hd := RI.deep h hI
  by_cases e : (A 0 53 - 1).toNat = 0
  · rw [e] at hk
    have := h.2.2.1.1
    omega
  · omega
theorem RI.cb {op : Int} {A : St} (h : RI op A) (hI : IM A) : CB A := by
  have h56 : (0 : Int) ≤ A 0 56 := (hI 0 56).1
  have h6 := h.2.2.2.2.2
  exact ⟨by omega, h6.2.2.1, h6.2.2.2⟩
theorem RI.full {B : St} {x : Int} (h : B 0 56 = B 39 (B 0 53 - 1).toNat ∨ rk x < 1) : B 0 56 = B 39 (B 0 53 - 1).toNat := h.resolve_right (fun t => by have := (rk_r x).1; omega)
