/-! What holds between two steps of the reader of tests. -/
def sA (A : St) : Int := 1600 * A 0 47 + A 31 (6 * A 0 47 + A 29 (A 0 47).toNat).toNat
def RI (op : Int) (A : St) : Prop :=
  A 0 53 = A 0 54 + 1 ∧ FR (A 40) (A 39) (A 0 53) (A 0 56) ∧
  (A 35 0 ≤ 1 ∧ (∀ i : Nat, 1 ≤ i → (i : Int) < A 0 53 → 2 ≤ A 35 i)) ∧
  ((∀ i : Nat, (i : Int) + 1 < A 0 53 → A 37 i = 0) ∧ (op = 1 → A 37 (A 0 53 - 1).toNat = 0) ∧ (A 37 (A 0 53 - 1).toNat = 1 → A 0 56 = A 39 (A 0 53 - 1).toNat ∨ rk (A 40 (A 0 56 - 1).toNat) ≤ 3)) ∧
  DP (A 33) (sA A) (1600 * A 0 47 + A 0 46) (nz (A 40) (A 0 56).toNat + k4 (A 35) (A 0 53).toNat + op) ∧
  (A 0 46 + A 0 56 ≤ A 0 4 ∧ 4 * (A 0 56 - nz (A 40) (A 0 56).toNat) ≤ A 0 4 + (if A 0 3 = 1 then 0 else 1) ∧ A 0 4 ≤ A 0 5 ∧ LX A)
def EQ (V : St) (r29 r31 r33 r35 r37 r39 r40 : Nat → Int) (c46 c47 c53 c54 c56 : Int) : Prop := V 29 = r29 ∧ V 31 = r31 ∧ V 33 = r33 ∧ V 35 = r35 ∧ V 37 = r37 ∧ V 39 = r39 ∧ V 40 = r40 ∧ V 0 46 = c46 ∧ V 0 47 = c47 ∧ V 0 53 = c53 ∧ V 0 54 = c54 ∧ V 0 56 = c56
theorem sA_0 {A : St} (hI : IM A) : 0 ≤ sA A := by
  unfold sA
  have h1 : (0 : Int) ≤ A 0 47 := (hI 0 47).1
  have h2 : (0 : Int) ≤ A 31 (6 * A 0 47 + A 29 (A 0 47).toNat).toNat := (hI 31 _).1
  omega
theorem im39 {A : St} (hI : IM A) : ∀ i, 0 ≤ A 39 i := fun i => (hI 39 i).1
theorem RI.deep {op : Int} {A : St} (h : RI op A) (hI : IM A) : 1 ≤ A 0 53 ∧ A 0 53 ≤ 9 := by
  have h1 := h.1
  have h2 : (0 : Int) ≤ A 0 54 := (hI 0 54).1
  have h3 : A 0 54 ≤ 8 := (hI 0 54).2
  omega
theorem RI.room {op : Int} {A : St} (h : RI op A) (hI : IM A) : A 0 56 ≤ 455 ∧ A 0 46 + A 0 56 ≤ A 0 4 := by
  have hd := RI.deep h hI
  have hb := FR.bound h.2.1 (im39 hI) hd.1
  have h4 : A 0 4 ≤ 1600 := (hI 0 4).2
  have h5 := h.2.2.2.2.2.2.1
  have h6 := h.2.2.2.2.2.1
  split at h5 <;> omega
theorem RI.base {op : Int} {A : St} (h : RI op A) : A 39 (A 0 53 - 1).toNat ≤ A 0 56 := h.2.1.2.2.2.1
theorem RI.pop {B V : St} (h : RI 1 B) (hI : IM B) (hm : B 39 (B 0 53 - 1).toNat < B 0 56)
    (hE : EQ V (B 29) (B 31) (up (B 33) (1600 * B 0 47 + B 0 46).toNat (B 40 (B 0 56 - 1).toNat)) (B 35) (B 37) (B 39) (B 40) (B 0 46 + 1) (B 0 47) (B 0 53) (B 0 54) (B 0 56 - 1)) (e3 : V 0 3 = B 0 3) (e4 : V 0 4 = B 0 4) (e5 : V 0 5 = B 0 5) (hL : LX V) : RI 1 V := by
  have hd := RI.deep h hI
  have hg := im39 hI
  have hs := sA_0 hI
  obtain ⟨h1, h2, h3, h4, h5, h6⟩ := h
  obtain ⟨e29, e31, e33, e35, e37, e39, e40, e46, e47, e53, e54, e56⟩ := hE
  have hx : 10 ≤ B 40 (B 0 56 - 1).toNat := h2.2.2.2.2.2 (B 0 56 - 1).toNat (by have := hg (B 0 53 - 1).toNat; omega)
  have hx2 : B 40 (B 0 56 - 1).toNat ≤ 22 := (hI 40 _).2
  have hgD := hg (B 0 53 - 1).toNat
  have en : (B 0 56).toNat = (B 0 56 - 1).toNat + 1 := by omega
  have hnz := nz_s (f := B 40) (i := (B 0 56 - 1).toNat)
  rw [← en] at hnz
  have n0 := nz_0 (B 40) (B 0 56 - 1).toNat
  have k0 := k4_0 (B 35) (B 0 53).toNat
  have es : sA V = sA B := by unfold sA; rw [e47, e31, e29]
  unfold RI
  rw [es, e33, e35, e37, e39, e40, e46, e47, e53, e54, e56, e3, e4, e5]
  have e1600 : 1600 * B 0 47 + (B 0 46 + 1) = 1600 * B 0 47 + B 0 46 + 1 := by omega
  rw [e1600]
  refine ⟨h1, h2.pop hg hm, h3, ⟨h4.1, h4.2.1, fun hb => absurd hb (by rw [h4.2.1 rfl]; decide)⟩, h5.add hs ?_, by omega, ?_, h6.2.2.1, hL⟩
  · split at hnz
    · exact Or.inr (Or.inl ⟨by assumption, by omega, by omega⟩)
    · exact Or.inr (Or.inr ⟨hx, by omega, by omega, by omega⟩)
  · have := h6.2.1
    split at hnz <;> omega
theorem RI.op {B V : St} {x : Int} (h : RI 1 B) (hI : IM B) (hsg : B 0 3 ≠ 0) (hx : 10 ≤ x ∧ x ≤ 21) (ht : B 0 56 = B 39 (B 0 53 - 1).toNat ∨ rk (B 40 (B 0 56 - 1).toNat) < rk x) {r37 : Nat → Int} (hr : ∀ i : Nat, (i : Int) + 1 < B 0 53 → r37 i = B 37 i) (hb : r37 (B 0 53 - 1).toNat = 1 → rk x ≤ 3)
    (hE : EQ V (B 29) (B 31) (B 33) (B 35) r37 (B 39) (up (B 40) (B 0 56).toNat x) (B 0 46) (B 0 47) (B 0 53) (B 0 54) (B 0 56 + 1)) (h1' : B 0 5 ≤ V 0 4) (h2' : V 0 4 ≤ V 0 5) (hL : LX V) : RI 0 V := by
  have hd := RI.deep h hI
  have hg := im39 hI
  obtain ⟨h1, h2, h3, h4, h5, h6⟩ := h
  obtain ⟨e29, e31, e33, e35, e37, e39, e40, e46, e47, e53, e54, e56⟩ := hE
  have hlt := h6.2.2.2.1.resolve_left hsg
  have hgD := hg (B 0 53 - 1).toNat
  have hm0 := h2.2.2.2.1
  have en : (B 0 56 + 1).toNat = (B 0 56).toNat + 1 := by omega
  have hnz := nz_up (f := B 40) (i := (B 0 56).toNat) (v := x)
  rw [if_neg (by omega), ← en] at hnz
  have es : sA V = sA B := by unfold sA; rw [e47, e31, e29]
  have hrk := rk_r x
  unfold RI
  rw [es, e33, e35, e37, e39, e40, e46, e47, e53, e54, e56, hnz]
  refine ⟨h1, h2.push hg hd.1 hx.1 ?_ (fun _ => by rw [if_neg (by omega)]; omega), h3, ⟨fun i hi => by rw [hr i hi]; exact h4.1 i hi, fun h => absurd h (by decide), fun hb' => Or.inr ?_⟩, ?_, by omega, ?_, h2', hL⟩
  · rw [if_neg (by omega)]
    rcases h2.top hg with t | t
    · exact Or.inl t
    · rcases ht with t2 | t2
      · exact Or.inl t2
      · exact Or.inr (by omega)
  · have e1 : (B 0 56 + 1 - 1).toNat = (B 0 56).toNat := by omega
    rw [e1, up_same]
    exact hb hb'
  · have e : nz (B 40) (B 0 56).toNat + 1 + k4 (B 35) (B 0 53).toNat + 0 = nz (B 40) (B 0 56).toNat + k4 (B 35) (B 0 53).toNat + 1 := by omega
    rw [e]
    exact h5
  · have := h6.2.1
    split at this <;> split <;> omega
theorem RI.nt {B V : St} (h : RI 0 B) (hI : IM B) (hsg : B 0 3 = 1) (hw : B 0 7 = 7237492) (hbg : B 37 (B 0 53 - 1).toNat = 1)
    (hE : EQ V (B 29) (B 31) (B 33) (B 35) (B 37) (B 39) (up (B 40) (B 0 56).toNat 22) (B 0 46) (B 0 47) (B 0 53) (B 0 54) (B 0 56 + 1)) (e1 : V 1 = B 1) (h1' : B 0 5 ≤ V 0 4) (h2' : V 0 4 ≤ V 0 5) (hL : LX V) (hp : V 0 3 = 1 → 1 ≤ V 0 4 → (B 1 (V 0 4 - 1).toNat < 97 ∨ 122 < B 1 (V 0 4 - 1).toNat)) : RI 0 V := by
  have hd := RI.deep h hI
  have hg := im39 hI
  obtain ⟨h1, h2, h3, h4, h5, h6⟩ := h
  obtain ⟨e29, e31, e33, e35, e37, e39, e40, e46, e47, e53, e54, e56⟩ := hE
  have h3b := h6.2.2.2.2.2 hsg hw
  have hlet := h6.2.2.2.2.1 hsg
  have hgD := hg (B 0 53 - 1).toNat
  have hm0 := h2.2.2.2.1
  have en : (B 0 56 + 1).toNat = (B 0 56).toNat + 1 := by omega
  have hnz := nz_up (f := B 40) (i := (B 0 56).toNat) (v := 22)
  rw [if_pos rfl, ← en] at hnz
  have es : sA V = sA B := by unfold sA; rw [e47, e31, e29]
  have hnt := h6.2.1
  rw [if_pos hsg] at hnt
  have hcd := h6.1
  have h45 : (0 : Int) ≤ B 0 4 := (hI 0 4).1
  unfold RI
  rw [es, e33, e35, e37, e39, e40, e46, e47, e53, e54, e56, hnz]
  refine ⟨h1, h2.push hg hd.1 (by decide) ?_ (fun _ => by decide), h3, ⟨h4.1, fun h => absurd h (by decide), fun hb' => Or.inr ?_⟩, ?_, by omega, ?_, h2', hL⟩
  · rw [if_pos rfl]
    have hr : rk 22 = 3 := by decide
    rcases h4.2.2 hbg with t | t
    · exact Or.inl t
    · rcases h2.top hg with t2 | t2
      · exact Or.inl t2
      · exact Or.inr (by omega)
  · have e1 : (B 0 56 + 1 - 1).toNat = (B 0 56).toNat := by omega
    rw [e1, up_same]
    decide
  · rw [show nz (B 40) (B 0 56).toNat + 0 + k4 (B 35) (B 0 53).toNat + 0 = nz (B 40) (B 0 56).toNat + k4 (B 35) (B 0 53).toNat + 0 by omega]
    exact h5
  · split
    · have hp1 := hp (by assumption) (by omega)
      have : V 0 4 ≠ B 0 5 := by
        intro ev
        rw [ev] at hp1
        omega
      omega
    · omega
theorem RI.val {B V : St} {x : Int} (h : RI 0 B) (hI : IM B) (hsg : B 0 3 ≠ 0) (hx : x ≤ 9) {r37 : Nat → Int} (hr : ∀ i : Nat, (i : Int) + 1 < B 0 53 → r37 i = B 37 i) (hb : r37 (B 0 53 - 1).toNat = 0)
    (hE : EQ V (B 29) (B 31) (up (B 33) (1600 * B 0 47 + B 0 46).toNat x) (B 35) r37 (B 39) (B 40) (B 0 46 + 1) (B 0 47) (B 0 53) (B 0 54) (B 0 56)) (h1' : B 0 5 ≤ V 0 4) (h2' : V 0 4 ≤ V 0 5) (hL : LX V) : RI 1 V := by
  have hs := sA_0 hI
  obtain ⟨h1, h2, h3, h4, h5, h6⟩ := h
  obtain ⟨e29, e31, e33, e35, e37, e39, e40, e46, e47, e53, e54, e56⟩ := hE
  have hlt := h6.2.2.2.1.resolve_left hsg
  have es : sA V = sA B := by unfold sA; rw [e47, e31, e29]
  unfold RI
  rw [es, e33, e35, e37, e39, e40, e46, e47, e53, e54, e56]
  have e1600 : 1600 * B 0 47 + (B 0 46 + 1) = 1600 * B 0 47 + B 0 46 + 1 := by omega
  rw [e1600]
  refine ⟨h1, h2, h3, ⟨fun i hi => by rw [hr i hi]; exact h4.1 i hi, fun _ => hb, fun h => absurd h (by rw [hb]; decide)⟩, h5.add hs (Or.inl ⟨hx, by omega⟩), by omega, ?_, h2', hL⟩
  have := h6.2.1
  split at this <;> split <;> omega
theorem RI.opn {B V : St} {x : Int} (h : RI 0 B) (hI : IM B) (hsg : B 0 3 ≠ 0) (hx : 2 ≤ x) (hx4 : x ≠ 4) {r35 r37 r39 : Nat → Int} (hbg : B 37 (B 0 53 - 1).toNat = 0)
    (hE : EQ V (B 29) (B 31) (B 33) (up (B 35) (B 0 53).toNat x) (up (B 37) (B 0 53).toNat 1) (up (B 39) (B 0 53).toNat (B 0 56)) (B 40) (B 0 46) (B 0 47) (B 0 53 + 1) (B 0 54 + 1) (B 0 56)) (h1' : B 0 5 ≤ V 0 4) (h2' : V 0 4 ≤ V 0 5) (hL : LX V) : RI 0 V := by
  have hd := RI.deep h hI
  have hg := im39 hI
  have hm : (0 : Int) ≤ B 0 56 := (hI 0 56).1
  obtain ⟨h1, h2, h3, h4, h5, h6⟩ := h
  obtain ⟨e29, e31, e33, e35, e37, e39, e40, e46, e47, e53, e54, e56⟩ := hE
  have hlt := h6.2.2.2.1.resolve_left hsg
  have es : sA V = sA B := by unfold sA; rw [e47, e31, e29]
  have en : (B 0 53 + 1).toNat = (B 0 53).toNat + 1 := by omega
  have e53' : (B 0 53 + 1 - 1).toNat = (B 0 53).toNat := by omega
  unfold RI
  rw [es, e33, e35, e37, e39, e40, e46, e47, e53, e54, e56, en, k4_up, if_neg hx4, e53', up_same, up_same]
  refine ⟨by omega, h2.opn hd.1 hm (h2.bound hg hd.1), ⟨by rw [up_ne _ _ (by omega)]; exact h3.1, fun i i1 hi => ?_⟩, ⟨fun i hi => ?_, fun h => absurd h (by decide), fun _ => Or.inl rfl⟩, ?_, by omega, ?_, h2', hL⟩
  · by_cases e : i = (B 0 53).toNat
    · rw [e, up_same]
      exact hx
    · rw [up_ne _ _ e]
      exact h3.2 i i1 (by omega)
  · rw [up_ne _ _ (by omega)]
    by_cases e : i = (B 0 53 - 1).toNat
    · rw [e]
      exact hbg
    · exact h4.1 i (by omega)
  · rw [show nz (B 40) (B 0 56).toNat + (k4 (B 35) (B 0 53).toNat + 0) + 0 = nz (B 40) (B 0 56).toNat + k4 (B 35) (B 0 53).toNat + 0 by omega]
    exact h5
  · have := h6.2.1
    split at this <;> split <;> omega
theorem RI.comma {B V : St} (h : RI 1 B) (hI : IM B) (hsg : B 0 3 ≠ 0) (hk : B 35 (B 0 53 - 1).toNat = 3)
    (hE : EQ V (B 29) (B 31) (B 33) (up (B 35) (B 0 53 - 1).toNat 4) (B 37) (B 39) (B 40) (B 0 46) (B 0 47) (B 0 53) (B 0 54) (B 0 56)) (h1' : B 0 5 ≤ V 0 4) (h2' : V 0 4 ≤ V 0 5) (hL : LX V) : RI 0 V := by
  have hd := RI.deep h hI
  obtain ⟨h1, h2, h3, h4, h5, h6⟩ := h
  obtain ⟨e29, e31, e33, e35, e37, e39, e40, e46, e47, e53, e54, e56⟩ := hE
  have hlt := h6.2.2.2.1.resolve_left hsg
  have es : sA V = sA B := by unfold sA; rw [e47, e31, e29]
  have en : (B 0 53).toNat = (B 0 53 - 1).toNat + 1 := by omega
  have hk1 : k4 (up (B 35) (B 0 53 - 1).toNat 4) (B 0 53).toNat = k4 (B 35) (B 0 53).toNat + 1 := by
    rw [en, k4_up, k4_s, hk]
    simp
  have hD2 : 1 ≤ (B 0 53 - 1).toNat := by
    by_cases e : (B 0 53 - 1).toNat = 0
    · rw [e] at hk
      have := h3.1
      omega
    · omega
  unfold RI
  rw [es, e33, e35, e37, e39, e40, e46, e47, e53, e54, e56, hk1]
  refine ⟨h1, h2, ⟨by rw [up_ne _ _ (by omega)]; exact h3.1, fun i i1 hi => ?_⟩, ⟨h4.1, fun h => absurd h (by decide), fun h => absurd h (by rw [h4.2.1 rfl]; decide)⟩, ?_, by omega, ?_, h2', hL⟩
  · by_cases e : i = (B 0 53 - 1).toNat
    · rw [e, up_same]
      decide
    · rw [up_ne _ _ e]
      exact h3.2 i i1 hi
  · rw [show nz (B 40) (B 0 56).toNat + (k4 (B 35) (B 0 53).toNat + 1) + 0 = nz (B 40) (B 0 56).toNat + k4 (B 35) (B 0 53).toNat + 1 by omega]
    exact h5
  · have := h6.2.1
    split at this <;> split <;> omega
/-- a bracket is shut; x: what is coded for a pair -/
theorem RI.shut {B V : St} {r33 : Nat → Int} {c46 : Int} (h : RI 1 B) (hI : IM B) (hsg : B 0 3 ≠ 0) (hk2 : 2 ≤ B 35 (B 0 53 - 1).toNat) (hm : B 0 56 = B 39 (B 0 53 - 1).toNat)
    (hc : (B 35 (B 0 53 - 1).toNat ≠ 4 ∧ r33 = B 33 ∧ c46 = B 0 46) ∨ ∃ x : Int, B 35 (B 0 53 - 1).toNat = 4 ∧ 10 ≤ x ∧ x ≤ 21 ∧ r33 = up (B 33) (1600 * B 0 47 + B 0 46).toNat x ∧ c46 = B 0 46 + 1)
    (hE : EQ V (B 29) (B 31) r33 (B 35) (B 37) (B 39) (B 40) c46 (B 0 47) (B 0 53 - 1) (B 0 54 - 1) (B 0 56)) (h1' : B 0 5 ≤ V 0 4) (h2' : V 0 4 ≤ V 0 5) (hL : LX V) : RI 1 V := by
  have hd := RI.deep h hI
  have hg := im39 hI
  have hs := sA_0 hI
  have hm56 : (0 : Int) ≤ B 0 56 := (hI 0 56).1
  obtain ⟨h1, h2, h3, h4, h5, h6⟩ := h
  obtain ⟨e29, e31, e33, e35, e37, e39, e40, e46, e47, e53, e54, e56⟩ := hE
  have hlt := h6.2.2.2.1.resolve_left hsg
  have es : sA V = sA B := by unfold sA; rw [e47, e31, e29]
  have hD2 : 2 ≤ B 0 53 := by
    by_cases e : (B 0 53 - 1).toNat = 0
    · rw [e] at hk2
      have := h3.1
      omega
    · omega
  have en : (B 0 53).toNat = (B 0 53 - 1).toNat + 1 := by omega
  have hks := k4_s (f := B 35) (i := (B 0 53 - 1).toNat)
  rw [← en] at hks
  have n0 := nz_0 (B 40) (B 0 56).toNat
  have k0 := k4_0 (B 35) (B 0 53 - 1).toNat
  have hb1 : B 37 (B 0 53 - 1 - 1).toNat = 0 := h4.1 (B 0 53 - 1 - 1).toNat (by omega)
  unfold RI
  rw [es, e33, e35, e37, e39, e40, e46, e47, e53, e54, e56]
  have hc46 : c46 ≤ B 0 46 + 1 := by
    rcases hc with ⟨_, _, b⟩ | ⟨x, _, _, _, _, b⟩ <;> omega
  refine ⟨by omega, h2.close hg hD2 hm, ⟨h3.1, fun i i1 hi => h3.2 i i1 (by omega)⟩, ⟨fun i hi => h4.1 i (by omega), fun _ => hb1, fun h => absurd h (by rw [hb1]; decide)⟩, ?_, by omega, ?_, h2', hL⟩
  · rcases hc with ⟨a, b, d⟩ | ⟨x, a, x1, x2, b, d⟩
    · rw [if_neg a] at hks
      rw [b, d, show nz (B 40) (B 0 56).toNat + k4 (B 35) (B 0 53 - 1).toNat + 1 = nz (B 40) (B 0 56).toNat + k4 (B 35) (B 0 53).toNat + 1 by omega]
      exact h5
    · rw [if_pos a] at hks
      rw [b, d, show 1600 * B 0 47 + (B 0 46 + 1) = 1600 * B 0 47 + B 0 46 + 1 by omega]
      exact h5.add hs (Or.inr (Or.inr ⟨x1, x2, by omega, by omega⟩))
  · have := h6.2.1
    split at this <;> split <;> omega
/-- the end: nothing is left -/
theorem RI.done {B : St} (h : RI 1 B) (hI : IM B) (hk : B 35 (B 0 53 - 1).toNat < 2) (hm : B 0 56 = B 39 (B 0 53 - 1).toNat) : DP (B 33) (sA B) (1600 * B 0 47 + B 0 46) 1 := by
  have hd := RI.deep h hI
  obtain ⟨h1, h2, h3, h4, h5, h6⟩ := h
  have hD : B 0 53 = 1 := by
    by_cases e : B 0 53 = 1
    · exact e
    · have := h3.2 (B 0 53 - 1).toNat (by omega) (by omega)
      omega
  have e0 : (B 0 53 - 1).toNat = 0 := by omega
  rw [e0, h2.1] at hm
  rw [hm, hD] at h5
  have e1 : nz (B 40) (0 : Int).toNat = 0 := rfl
  have h30 := h3.1
  have e2 : k4 (B 35) (1 : Int).toNat = 0 := by
    show k4 (B 35) 0 + (if B 35 0 = 4 then 1 else 0) = 0
    rw [if_neg (by omega)]
    rfl
  rw [e1, e2] at h5
  exact h5
theorem RI.start {V : St} {k : Int} (hI : IM V) (hk : k ≤ 1) (h53 : V 0 53 = 1) (h54 : V 0 54 = 0) (h56 : V 0 56 = 0) (e35 : V 35 0 = k) (e39 : V 39 0 = 0) (e46 : 1600 * V 0 47 + V 0 46 = sA V) (hC : CB V) : RI 0 V := by
  unfold RI
  have h0 := sA_0 hI
  rw [h53, h54, h56, e46]
  have e0 : ((1 : Int) - 1).toNat = 0 := rfl
  refine ⟨by omega, ⟨e39, fun i hi => by omega, fun i hi => ?_, by rw [e0, e39]; exact Int.le_refl 0, fun j a b => absurd b (by simp), fun j hj => by omega⟩, ⟨by rw [e35]; exact hk, fun i i1 hi => by omega⟩, ⟨fun i hi => by omega, fun h => absurd h (by decide), fun _ => Or.inl (by rw [e0, e39])⟩, ⟨Int.le_refl _, ?_, fun n hn => by omega⟩, by have := hC.1; omega, ?_, hC.2.1, hC.2.2⟩
  · have : i = 0 := by omega
    subst this
    rw [e39]
    exact Int.le_refl 0
  · rw [show (sA V - sA V).toNat = 0 by omega]
    have e2 : k4 (V 35) (1 : Int).toNat = 0 := by
      show k4 (V 35) 0 + (if V 35 0 = 4 then 1 else 0) = 0
      rw [if_neg (by omega)]
      rfl
    rw [e2]
    rfl
  · have h4 : (0 : Int) ≤ V 0 4 := (hI 0 4).1
    have e1 : nz (V 40) (0 : Int).toNat = 0 := rfl
    rw [e1]
    split <;> omega
