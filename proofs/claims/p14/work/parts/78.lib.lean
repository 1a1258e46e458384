theorem PR.one {V : St} (h53 : V 0 53 = 1) (h : V 35 0 ≤ 1) : PR V := by
  intro i hi hk
  have : i = 0 := by omega
  subst this
  omega
theorem SP.one {V : St} (h53 : V 0 53 = 1) (h56 : V 0 56 = 0) : SP V := by
  unfold SP
  rw [h53, h56]
  exact ⟨fun i hi => by omega, fun j a b => absurd b (by simp), fun p j a b => absurd b (by simp)⟩
theorem DP.wfc {c : Nat → Int} {s e : Int} (h : DP c s e 1) : wfc c s.toNat (e - s).toNat := ⟨by rw [h.2.1]; exact Int.le_refl 1, h.2.2⟩
/-- a place behind the bars that are told -/
theorem bar_ne {A : St} (hI : IM A) {b i : Nat} (hb : b < 2) (hi : (i : Int) < A 29 b) (h5 : A 29 (A 0 47).toNat ≤ 5) : 6 * b + i ≠ (6 * A 0 47 + A 29 (A 0 47).toNat).toNat := by
  have r1 : (0 : Int) ≤ A 0 47 := (hI 0 47).1
  have r2 : A 0 47 ≤ 1 := (hI 0 47).2
  have r3 : (0 : Int) ≤ A 29 (A 0 47).toNat := (hI 29 _).1
  have r4 : A 29 b ≤ 6 := (hI 29 _).2
  by_cases e : (b : Int) = A 0 47
  · have e2 : (A 0 47).toNat = b := by omega
    rw [e2] at r3 h5 ⊢
    omega
  · omega
theorem CI.s31 {A B : St} {v : Int} (h : CI A) (hI : IM A) (h5 : A 29 (A 0 47).toNat ≤ 5) (e29 : B 29 = A 29) (e31 : B 31 = up (A 31) (6 * A 0 47 + A 29 (A 0 47).toNat).toNat v) (e32 : B 32 = A 32) (e33 : B 33 = A 33) (e46 : B 0 46 = A 0 46) (e47 : B 0 47 = A 0 47) : CI B := by
  unfold CI
  rw [e29, e31, e32, e33, e46, e47]
  intro b i hb hi
  rw [up_ne _ _ (bar_ne hI hb hi h5)]
  exact h b i hb hi
theorem CI.s32 {A B : St} {v : Int} (h : CI A) (hI : IM A) (h5 : A 29 (A 0 47).toNat ≤ 5) (e29 : B 29 = A 29) (e31 : B 31 = A 31) (e32 : B 32 = up (A 32) (6 * A 0 47 + A 29 (A 0 47).toNat).toNat v) (e33 : B 33 = A 33) (e46 : B 0 46 = A 0 46) (e47 : B 0 47 = A 0 47) : CI B := by
  unfold CI
  rw [e29, e31, e32, e33, e46, e47]
  intro b i hb hi
  rw [up_ne _ _ (bar_ne hI hb hi h5)]
  exact h b i hb hi
theorem CI.inc {A B : St} (h : CI A) (hI : IM A) (e29 : B 29 = up (A 29) (A 0 47).toNat (A 29 (A 0 47).toNat + 1)) (e31 : B 31 = A 31) (e32 : B 32 = A 32) (e33 : B 33 = A 33) (e46 : B 0 46 = A 0 46) (e47 : B 0 47 = A 0 47) (ht : A 32 (6 * A 0 47 + A 29 (A 0 47).toNat).toNat = A 0 46) (hd : DP (A 33) (sA A) (1600 * A 0 47 + A 0 46) 1) : CI B := by
  unfold CI
  rw [e29, e31, e32, e33, e46, e47]
  intro b i hb hi
  have r1 : (0 : Int) ≤ A 0 47 := (hI 0 47).1
  have r3 : (0 : Int) ≤ A 29 (A 0 47).toNat := (hI 29 _).1
  by_cases e : b = (A 0 47).toNat
  · subst e
    rw [up_same] at hi
    by_cases e2 : (i : Int) < A 29 (A 0 47).toNat
    · exact h _ i hb e2
    · have ei : 6 * (A 0 47).toNat + i = (6 * A 0 47 + A 29 (A 0 47).toNat).toNat := by omega
      rw [ei, ht]
      have hle := hd.1
      have hw := DP.wfc hd
      have r4 : (0 : Int) ≤ A 31 (6 * A 0 47 + A 29 (A 0 47).toNat).toNat := (hI 31 _).1
      unfold sA at hle hw
      have e5 : (1600 * A 0 47 + A 31 (6 * A 0 47 + A 29 (A 0 47).toNat).toNat).toNat = 1600 * (A 0 47).toNat + (A 31 (6 * A 0 47 + A 29 (A 0 47).toNat).toNat).toNat := by omega
      have e6 : (1600 * A 0 47 + A 0 46 - (1600 * A 0 47 + A 31 (6 * A 0 47 + A 29 (A 0 47).toNat).toNat)).toNat = (A 0 46 - A 31 (6 * A 0 47 + A 29 (A 0 47).toNat).toNat).toNat := by omega
      rw [e5, e6] at hw
      exact ⟨by omega, fun _ => Int.le_refl _, hw⟩
  · rw [up_ne _ _ e] at hi
    exact h b i hb hi
theorem CI.zero {A B : St} {n : Int} (h : CI A) (hn : 0 ≤ n ∧ n ≤ 1) (e29 : B 29 = up (A 29) n.toNat 0) (e31 : B 31 = A 31) (e32 : B 32 = A 32) (e33 : B 33 = A 33) (e47 : B 0 47 = n) : CI B := by
  unfold CI
  rw [e29, e31, e32, e33, e47]
  intro b i hb hi
  by_cases e : b = n.toNat
  · subst e
    rw [up_same] at hi
    omega
  · rw [up_ne _ _ e] at hi
    have := h b i hb hi
    exact ⟨this.1, fun e2 => absurd e2 (by omega), this.2.2⟩
theorem WI.zero {A B : St} {n : Int} (h : WI A) (hn : 0 ≤ n ∧ n ≤ 1) (e22 : B 22 = up (A 22) n.toNat 0) (e23 : B 23 = A 23) : WI B := by
  intro p
  rw [e22, e23]
  rcases (show n = 0 ∨ n = 1 by omega) with rfl | rfl
  · refine ⟨?_, ?_⟩
    · show ct (A 23) 0 p (up (A 22) 0 0 0).toNat ≤ 2
      rw [up_same]
      show (0 : Int) ≤ 2
      decide
    · show ct (A 23) 6 p (up (A 22) 0 0 1).toNat ≤ 2
      rw [up_ne _ _ (by decide)]
      exact (h p).2
  · refine ⟨?_, ?_⟩
    · show ct (A 23) 0 p (up (A 22) 1 0 0).toNat ≤ 2
      rw [up_ne _ _ (by decide)]
      exact (h p).1
    · show ct (A 23) 6 p (up (A 22) 1 0 1).toNat ≤ 2
      rw [up_same]
      show (0 : Int) ≤ 2
      decide
theorem DPt {A B : St} (e29 : B 29 = A 29) (e31 : B 31 = A 31) (e33 : B 33 = A 33) (e46 : B 0 46 = A 0 46) (e47 : B 0 47 = A 0 47) (h : DP (A 33) (sA A) (1600 * A 0 47 + A 0 46) 1) : DP (B 33) (sA B) (1600 * B 0 47 + B 0 46) 1 := by
  unfold sA
  rw [e29, e31, e33, e46, e47]
  exact h
